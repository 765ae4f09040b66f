/-! the TAPE's text, both for the class and for the reference -/
def pRunF (c : Nat → Bool) (N : Nat) : Nat → Nat → Nat
  | 0, p => p
  | n + 1, p => if p < N ∧ c p = true then pRunF c N n (p + 1) else p
/-- where what has a property from p on ends -/
def pRun (c : Nat → Bool) (N p : Nat) : Nat := pRunF c N (N - p) p
theorem pRun_yes {c : Nat → Bool} {N p : Nat} (h : p < N) (hc : c p = true) : pRun c N p = pRun c N (p + 1) := by
  unfold pRun
  obtain ⟨n, en⟩ : ∃ n, N - p = n + 1 := ⟨N - p - 1, by omega⟩
  rw [en, show N - (p + 1) = n by omega]
  show (if p < N ∧ c p = true then pRunF c N n (p + 1) else p) = _
  rw [if_pos ⟨h, hc⟩]
theorem pRun_no {c : Nat → Bool} {N p : Nat} (h : ¬ (p < N ∧ c p = true)) : pRun c N p = p := by
  unfold pRun
  cases N - p with
  | zero => rfl
  | succ n =>
    show (if p < N ∧ c p = true then pRunF c N n (p + 1) else p) = p
    rw [if_neg h]
theorem pRunF_ge (c : Nat → Bool) (N : Nat) : ∀ n p, p ≤ pRunF c N n p
  | 0, p => Nat.le_refl p
  | n + 1, p => by
    have ih := pRunF_ge c N n (p + 1)
    unfold pRunF
    split <;> omega
theorem pRunF_le (c : Nat → Bool) (N : Nat) : ∀ n p, p ≤ N → pRunF c N n p ≤ N
  | 0, p, h => h
  | n + 1, p, h => by
    unfold pRunF
    split
    · rename_i q
      exact pRunF_le c N n (p + 1) (by omega)
    · exact h
theorem pRun_ge (c : Nat → Bool) (N p : Nat) : p ≤ pRun c N p := pRunF_ge c N _ p
theorem pRun_le (c : Nat → Bool) {N p : Nat} (h : p ≤ N) : pRun c N p ≤ N := pRunF_le c N _ p h
def isBl (t : Nat → Int32) : Nat → Bool := fun q => decide (t q = 32)
def isLw (t : Nat → Int32) : Nat → Bool := fun q => decide (inR (t q) 97 122)
def isDg (t : Nat → Int32) : Nat → Bool := fun q => decide (inR (t q) 48 57)
def pSk (t : Nat → Int32) (N p : Nat) : Nat := pRun (isBl t) N p
theorem pSk_ge (t : Nat → Int32) (N p : Nat) : p ≤ pSk t N p := pRun_ge _ N p
theorem pSk_le (t : Nat → Int32) {N p : Nat} (h : p ≤ N) : pSk t N p ≤ N := pRun_le _ h
theorem pSk_idem (t : Nat → Int32) (N p : Nat) : pSk t N (pSk t N p) = pSk t N p := by
  have : ∀ n p, N - p ≤ n → pSk t N (pSk t N p) = pSk t N p := by
    intro n
    induction n with
    | zero =>
      intro p hp
      have e : pSk t N p = p := pRun_no (fun q => by omega)
      rw [e, e]
    | succ n ih =>
      intro p hp
      by_cases h : p < N ∧ isBl t p = true
      · have e : pSk t N p = pSk t N (p + 1) := pRun_yes h.1 h.2
        rw [e]
        exact ih (p + 1) (by omega)
      · have e : pSk t N p = p := pRun_no h
        rw [e, e]
  exact this (N - p) p (Nat.le_refl _)
/-- the number that n figures from b on spell -/
def pV (t : Nat → Int32) (b : Nat) : Nat → Int32
  | 0 => 0
  | n + 1 => ((10 : Int32) * pV t b n + t (b + n)) - 48
/-- a number looked for from p on: where it begins, where it ends, what it is, is it one -/
def nmB (t : Nat → Int32) (N p : Nat) : Nat := pSk t N p
def nmE (t : Nat → Int32) (N p : Nat) : Nat := pRun (isDg t) N (nmB t N p)
def nmV (t : Nat → Int32) (N p : Nat) : Int32 := pV t (nmB t N p) (nmE t N p - nmB t N p)
def nmOk (t : Nat → Int32) (N : Nat) (lo hi : Int32) (p : Nat) : Bool := decide (1 ≤ nmE t N p - nmB t N p ∧ nmE t N p - nmB t N p ≤ 3 ∧ inR (nmV t N p) lo hi)
theorem nmB_le (t : Nat → Int32) {N p : Nat} (h : p ≤ N) : nmB t N p ≤ N := pSk_le t h
theorem nmE_le (t : Nat → Int32) {N p : Nat} (h : p ≤ N) : nmE t N p ≤ N := pRun_le _ (nmB_le t h)
theorem nmB_nmE (t : Nat → Int32) (N p : Nat) : nmB t N p ≤ nmE t N p := pRun_ge _ _ _
/-- words of ACTS -/
def wdL (i : Nat) : List Int32 := match i with
  | 0 => [115, 116, 111, 114, 101]
  | 1 => [112, 117, 116]
  | 2 => [100, 114, 111, 112]
  | 3 => [115, 121, 110, 99]
  | 4 => [102, 108, 117, 115, 104]
  | 5 => [99, 114, 97, 115, 104]
  | 6 => [112, 105, 99, 107]
  | 7 => [115, 116, 101, 112]
  | 8 => [113, 117, 105, 116]
  | _ => [109, 101, 114, 103, 101]
def wdN (i : Nat) : Nat := (wdL i).length
def wdC (i j : Nat) : Int32 := (wdL i).getD j 0
def isWd (t : Nat → Int32) (p e i : Nat) : Bool := decide (e = p + wdN i ∧ ∀ j, j < wdN i → t (p + j) = wdC i j)
def wdE (t : Nat → Int32) (N p : Nat) : Nat := pRun (isLw t) N p
/-- which ACT's word stands at p; 10: none -/
def wdK (t : Nat → Int32) (N p : Nat) : Nat := fa_first (fun i => isWd t p (wdE t N p) i) 10
/-- how many numbers are behind an ACT's word, and their bounds -/
def nN (k : Nat) : Nat := match k with
  | 0 => 4
  | 1 => 3
  | 2 => 1
  | 6 => 1
  | 7 => 1
  | _ => 0
def nLo (k i : Nat) : Int32 := match k, i with
  | 0, 0 => 50
  | 0, 2 => 2
  | 0, 3 => 1
  | 1, 1 => 1
  | 7, 0 => 1
  | _, _ => 0
def nHi (k i : Nat) : Int32 := match k, i with
  | 0, 0 => 200
  | 0, 1 => 40
  | 0, 2 => 16
  | 0, 3 => 4
  | 1, 0 => 63
  | 1, 1 => 40
  | 1, 2 => 255
  | 2, 0 => 63
  | 6, 0 => 11
  | 7, 0 => 20
  | _, _ => 0
/-- where the i-th number is looked for -/
def nPos (t : Nat → Int32) (N e : Nat) : Nat → Nat
  | 0 => e
  | i + 1 => nmE t N (nPos t N e i)
theorem nPos_le (t : Nat → Int32) {N e : Nat} (h : e ≤ N) : ∀ i, nPos t N e i ≤ N
  | 0 => h
  | i + 1 => nmE_le t (nPos_le t h i)
def nOk (t : Nat → Int32) (N k e i : Nat) : Bool := nmOk t N (nLo k i) (nHi k i) (nPos t N e i)
/-- the first number that is wrong; as many as there are, if none is -/
def nBad (t : Nat → Int32) (N k e : Nat) : Nat := fa_first (fun i => !(nOk t N k e i)) (nN k)
/-- PICK: of none told -/
def pkNo (t : Nat → Int32) (N e : Nat) : Bool := !(decide (pSk t N e < N) && isDg t (pSk t N e))
/-- the i-th number of an ACT -/
def nAr (t : Nat → Int32) (N k e i : Nat) : Int32 := if k = 6 ∧ pkNo t N e = true then -1 else nmV t N (nPos t N e i)
/-- where an ACT ends -/
def nEnd (t : Nat → Int32) (N k e : Nat) : Nat := if k = 6 ∧ pkNo t N e = true then pSk t N e else nPos t N e (nN k)
/-- which byte is wrong in the ACT at p, and 1; 0: none -/
def aWr (t : Nat → Int32) (N p : Nat) : Nat := if wdK t N p = 10 then p + 1 else if wdK t N p = 6 ∧ pkNo t N (wdE t N p) = true then 0 else if nBad t N (wdK t N p) (wdE t N p) < nN (wdK t N p) then nmB t N (nPos t N (wdE t N p) (nBad t N (wdK t N p) (wdE t N p))) + 1 else 0
/-- an ACT of a text done: by what it is refused (0: it isn't), and what is then -/
def doA (v : zState) (k : Nat) (a b c d : Int32) : Int32 × zState := match k with
  | 0 => (0, uBegin v a b c d)
  | 1 => if uFits v (4 + b) then (0, uPut v a.toNatClampNeg b.toNatClampNeg c.toNatClampNeg) else (1, v)
  | 2 => if uFits v 4 then (if uVal v a.toNatClampNeg then (0, uDrop v a.toNatClampNeg) else (2, v)) else (1, v)
  | 3 => (0, uSync v)
  | 4 => (0, uFlush v)
  | 5 => (0, uCrash v)
  | 6 => if uRp v (uSel v a) = 0 then (0, uNote v (uSel v a).toNatClampNeg) else (uRp v (uSel v a), v)
  | 7 => if uRst v a.toNatClampNeg = 0 then (0, (uCol a.toNatClampNeg v).2) else (uRst v a.toNatClampNeg, v)
  | 8 => if v.2.2.2.2.1.2.1 = -1 then (5, v) else (0, uQuit v)
  | _ => (0, uMerge v)
/-- the ACT at p done -/
def doT (t : Nat → Int32) (N p : Nat) (v : zState) : Int32 × zState := doA v (wdK t N p) (nAr t N (wdK t N p) (wdE t N p) 0) (nAr t N (wdK t N p) (wdE t N p) 1) (nAr t N (wdK t N p) (wdE t N p) 2) (nAr t N (wdK t N p) (wdE t N p) 3)
/-- a text from p on, n ACTS done: the wrong byte (-1), by what it was refused, how many ACTS, what is then -/
def txF (t : Nat → Int32) (N : Nat) : Nat → Nat → Nat → zState → Int32 × Int32 × Nat × zState
  | 0, n, _, v => (-1, 0, n, v)
  | f + 1, n, p, v => if ¬ pSk t N p < N then (-1, 0, n, v) else if 0 < n ∧ ¬ t (pSk t N p) = 59 then (nI (pSk t N p), 0, n, v) else
    if 14 ≤ n then (nI (if n = 0 then pSk t N p else pSk t N (pSk t N p + 1)), 0, n, v) else
    if 0 < aWr t N (if n = 0 then pSk t N p else pSk t N (pSk t N p + 1)) then (nI (aWr t N (if n = 0 then pSk t N p else pSk t N (pSk t N p + 1)) - 1), 0, n, v) else
    if (doT t N (if n = 0 then pSk t N p else pSk t N (pSk t N p + 1)) v).1 = 0 then txF t N f (n + 1) (nEnd t N (wdK t N (if n = 0 then pSk t N p else pSk t N (pSk t N p + 1))) (wdE t N (if n = 0 then pSk t N p else pSk t N (pSk t N p + 1)))) (doT t N (if n = 0 then pSk t N p else pSk t N (pSk t N p + 1)) v).2
    else (nI (if n = 0 then pSk t N p else pSk t N (pSk t N p + 1)), (doT t N (if n = 0 then pSk t N p else pSk t N (pSk t N p + 1)) v).1, n, v)
def txt (G : zG) : Int32 × Int32 × Nat × zState := txF (gTp G) (gTpN G) 16 0 0 (gNow G)
def gText (G : zG) (v : zState) (n : Nat) : zG := (v, gKept G, gIs G, gUn G, 0, gTp G, 0, -1, if n = 0 then gWy G else 0)
def gWrong (G : zG) (w c : Int32) : zG := (gNow G, gKept G, gIs G, gUn G, gUnN G, gTp G, 0, w, if c = 0 then gWy G else c)
def fActs (G : zG) : Int32 × Int32 × zG := if (txt G).1 = -1 then (0, nI (txt G).2.2.1, gText G (txt G).2.2.2 (txt G).2.2.1) else (1, 0, gWrong G (txt G).1 (txt G).2.1)
/-- a byte of what is fed -/
def fdB (v : Int32) (k : Nat) : Int32 := (v.toUInt32 >>> ((nI (24 - 8 * (k % 4))).toUInt32 &&& Int32.toUInt32 31)).toInt32 &&& (255 : Int32)
def fdV (a b c d e : Int32) (k : Nat) : Int32 := if k < 4 then a else if k < 8 then b else if k < 12 then c else if k < 16 then d else e
def fdT (t : Nat → Int32) (N : Nat) (a b c d e : Int32) (i : Nat) : Nat → Int32 := fun j => if N ≤ j ∧ j < N + i then fdB (fdV a b c d e (j - N)) (j - N) else t j
def fFeed (G : zG) (a b c d e : Int32) : Int32 × zG := if gTpN G + 20 ≤ 400 then (nI (gTpN G + 20), (gNow G, gKept G, gIs G, gUn G, gUnN G, fdT (gTp G) (gTpN G) a b c d e 20, gTpN G + 20, gWr G, gWy G)) else (-1, G)
/-! the reference's row of fields -/
def mAt (u : zModel) (x : Int32) : zModel := (u.1, u.2.1, u.2.2.1, u.2.2.2.1, u.2.2.2.2.1, u.2.2.2.2.2.1, u.2.2.2.2.2.2.1, u.2.2.2.2.2.2.2.1, u.2.2.2.2.2.2.2.2.1, u.2.2.2.2.2.2.2.2.2.1, u.2.2.2.2.2.2.2.2.2.2.1, u.2.2.2.2.2.2.2.2.2.2.2.1, x, u.2.2.2.2.2.2.2.2.2.2.2.2.2)
def mFt (u : zModel) (x : Int32) : zModel := (u.1, u.2.1, u.2.2.1, u.2.2.2.1, u.2.2.2.2.1, u.2.2.2.2.2.1, u.2.2.2.2.2.2.1, u.2.2.2.2.2.2.2.1, u.2.2.2.2.2.2.2.2.1, u.2.2.2.2.2.2.2.2.2.1, u.2.2.2.2.2.2.2.2.2.2.1, u.2.2.2.2.2.2.2.2.2.2.2.1, u.2.2.2.2.2.2.2.2.2.2.2.2.1, x, u.2.2.2.2.2.2.2.2.2.2.2.2.2.2)
/-- a text is read: what the row has, where it ends, where one is -/
def mTx (u : zModel) (N p : Nat) : Prop := N ≤ 400 ∧ p ≤ N ∧ u.2.2.2.2.2.2.2.2.2.2.2.1 = nI N ∧ u.2.2.2.2.2.2.2.2.2.2.2.2.1 = nI p
abbrev mTp (u : zModel) : Nat → Int32 := u.2.2.2.2.2.2.2.2.2.1

def t_X11_here_e (u : zModel) (K0 : zModel → Prop) (Q : Int32 → zModel → Prop) : Prop := K0 u
def t_X11_here_0 (z : zModel) (K0 : zModel → Prop) (Q : Int32 → zModel → Prop) : Prop := ((z.2.2.2.2.2.2.2.2.2.2.2.1 ≤ z.2.2.2.2.2.2.2.2.2.2.2.2.1 → Q z.2.2.2.2.2.2.2.2.2.2.2.2.1 z) ∧ (¬ z.2.2.2.2.2.2.2.2.2.2.2.1 ≤ z.2.2.2.2.2.2.2.2.2.2.2.2.1 → vp_in z.2.2.2.2.2.2.2.2.2.2.2.2.1 400 ∧ ((¬ (z.2.2.2.2.2.2.2.2.2.1 z.2.2.2.2.2.2.2.2.2.2.2.2.1.toNatClampNeg) = (32 : Int32) → Q z.2.2.2.2.2.2.2.2.2.2.2.2.1 z) ∧ ((z.2.2.2.2.2.2.2.2.2.1 z.2.2.2.2.2.2.2.2.2.2.2.2.1.toNatClampNeg) = (32 : Int32) → ∀ x_4 : Int32, x_4 = (z.2.2.2.2.2.2.2.2.2.2.2.2.1 + (1 : Int32)) → K0 (z.1, z.2.1, z.2.2.1, z.2.2.2.1, z.2.2.2.2.1, z.2.2.2.2.2.1, z.2.2.2.2.2.2.1, z.2.2.2.2.2.2.2.1, z.2.2.2.2.2.2.2.2.1, z.2.2.2.2.2.2.2.2.2.1, z.2.2.2.2.2.2.2.2.2.2.1, z.2.2.2.2.2.2.2.2.2.2.2.1, x_4, z.2.2.2.2.2.2.2.2.2.2.2.2.2)))))
theorem zc_X11_here : zCalV RX11 yX11_here cX11_here 1 (some .int) 0 := ⟨q_im_X11_here, q_se_X11_here, q_in_X11, q_cd_X11_here, ⟨by decide, by decide, by decide +kernel⟩, rfl⟩
abbrev rm_X11_here : Room := { frames := 0, cells := 0, slots := 0, locals := 0 }
def v_X11_here (u : zModel) (Q : Int32 → zModel → Prop) : Prop := ∃ I0 : Nat → zModel → Prop, (∀ (n : Nat) (z : zModel), I0 n z → t_X11_here_0 z (fun q0 => ∃ k : Nat, k < n ∧ I0 k q0) Q) ∧ t_X11_here_e u (fun q0 => ∃ k : Nat, I0 k q0) Q
set_option maxHeartbeats 4000000 in
set_option maxRecDepth 100000 in
theorem L_X11_here (l : Launch) (dC : Nat → ClassId) (dI : Nat → Nat → Nat) (cI cJ cS : ClassId) (a : Nat → Nat) (u : zModel) (Q : Int32 → zModel → Prop) (I0 : Nat → zModel → Prop) (h0 : ∀ (n : Nat) (z : zModel), I0 n z → t_X11_here_0 z (fun q0 => ∃ k : Nat, k < n ∧ I0 k q0) Q) (hf : t_X11_here_e u (fun q0 => ∃ k : Nat, I0 k q0) Q) : ∀ sz : Nat, Met l yX11_here (Cond.code yX11_here cX11_here 1 (some .int) :: zT) rm_X11_here (zPm dC dI cI cJ cS (cl_X11 cI cJ a u) [.ref (a 0)] sz) (va_Qi Q (zB dC dI cI cJ cS (va_A (cl_X11 cI cJ a u) sz) (fun z => cl_X11 cI cJ a z)) (va_A (cl_X11 cI cJ a u) sz)) 0 0 (va_A (cl_X11 cI cJ a u) sz) := by
  intro sz
  refine z_enterM (Qc := fun A => va_Qi Q (zB dC dI cI cJ cS A (fun z => cl_X11 cI cJ a z)) A) (cc := cX11_here) (maxL := 1) (ret := (some .int)) (by decide) (Nat.le_of_ble_eq_true rfl) ?_
  intro p e s m below meth c ls A X hP hD hS hA hl
  obtain ⟨⟨hx, hb, hml, hown, hts⟩, hr, hlk, hK⟩ := id X
  have hl : lv_has ls 1 [(0, .ref (a 0))] := hl
  have LP : ∀ n : Nat, (∀  (z : zModel) (H : Heap) (locs : List Loc) (ls : Array Slot), I0 n z → va_P (dC, dI) vwCl (cl_X11 cI cJ a z) H → va_D A (cl_X11 cI cJ a z) → va_S A s.heap H locs → lv_has ls 1 [(0, .ref (a 0))] → W p l e rm_X11_here s m [.ref (a 0)].toArray below meth c H locs 0 0 (MQ below (va_Qi Q (zB dC dI cI cJ cS A (fun z => cl_X11 cI cJ a z)) A) [.ref (a 0)].toArray s 0 0 A) (F0 m 0 ls [])) := by
    intro n
    induction n using Nat.strongRecOn with
    | _ n ih =>
      intro  z H locs ls hI hP hD hS hl
      have hf := h0 n  z hI
      unfold t_X11_here_0 at hf
      refine lv_aload_n hx hb dX11_here_0 rfl (lv_at hl 0 rfl) ?_
      refine va_get (D := (dC, dI)) (ci := 10) (v := .int z.2.2.2.2.2.2.2.2.2.2.2.2.1) (C := RX11) (T := TX11) (N := 17) hx hb hts inX11 hown hK hP 0 rfl rfl 12 (by decide) (hts _ q_fl_X11_169) (fun _ h9 => h9) rfl dX11_here_1 ?_
      refine lv_aload_n hx hb dX11_here_4 rfl (lv_at hl 0 rfl) ?_
      refine va_get (D := (dC, dI)) (ci := 10) (v := .int z.2.2.2.2.2.2.2.2.2.2.2.1) (C := RX11) (T := TX11) (N := 17) hx hb hts inX11 hown hK hP 0 rfl rfl 11 (by decide) (hts _ q_fl_X11_172) (fun _ h9 => h9) rfl dX11_here_5 ?_
      refine lv_icmp_ge (tgt := 38) hx hb dX11_here_8 (by decide) (fun c_2 => ?_) (fun c_2 => ?_)
      · have hf := hf.1 c_2
        refine lv_aload_n hx hb dX11_here_38 rfl (lv_at hl 0 rfl) ?_
        refine va_get (D := (dC, dI)) (ci := 10) (v := .int z.2.2.2.2.2.2.2.2.2.2.2.2.1) (C := RX11) (T := TX11) (N := 17) hx hb hts inX11 hown hK hP 0 rfl rfl 12 (by decide) (hts _ q_fl_X11_169) (fun _ h9 => h9) rfl dX11_here_39 ?_
        exact z_retMi (Wf := (fun z => cl_X11 cI cJ a z)) (u := z) X hf hP hD hS dX11_here_42
      · have hf := hf.2 c_2
        refine lv_aload_n hx hb dX11_here_11 rfl (lv_at hl 0 rfl) ?_
        refine va_get (D := (dC, dI)) (ci := 10) (v := .ref (a 6)) (C := RX11) (T := TX11) (N := 17) hx hb hts inX11 hown hK hP 0 rfl rfl 9 (by decide) (hts _ q_fl_X11_26) (fun _ h9 => h9) rfl dX11_here_12 ?_
        refine lv_aload_n hx hb dX11_here_15 rfl (lv_at hl 0 rfl) ?_
        refine va_get (D := (dC, dI)) (ci := 10) (v := .int z.2.2.2.2.2.2.2.2.2.2.2.2.1) (C := RX11) (T := TX11) (N := 17) hx hb hts inX11 hown hK hP 0 rfl rfl 12 (by decide) (hts _ q_fl_X11_169) (fun _ h9 => h9) rfl dX11_here_16 ?_
        obtain ⟨hg, hf⟩ := hf
        refine va_iald hx hb hK hP 6 0 rfl rfl hg dX11_here_19 ?_
        refine lv_bipush (v := 32) hx hb dX11_here_20 (by decide) ?_
        refine lv_icmp_ne (tgt := 38) hx hb dX11_here_22 (by decide) (fun c_3 => ?_) (fun c_3 => ?_)
        · have hf := hf.1 c_3
          refine lv_aload_n hx hb dX11_here_38 rfl (lv_at hl 0 rfl) ?_
          refine va_get (D := (dC, dI)) (ci := 10) (v := .int z.2.2.2.2.2.2.2.2.2.2.2.2.1) (C := RX11) (T := TX11) (N := 17) hx hb hts inX11 hown hK hP 0 rfl rfl 12 (by decide) (hts _ q_fl_X11_169) (fun _ h9 => h9) rfl dX11_here_39 ?_
          exact z_retMi (Wf := (fun z => cl_X11 cI cJ a z)) (u := z) X hf hP hD hS dX11_here_42
        · have hf := hf.2 c_3
          refine lv_aload_n hx hb dX11_here_25 rfl (lv_at hl 0 rfl) ?_
          refine lv_dup hx hb dX11_here_26 rfl ?_
          refine va_get (D := (dC, dI)) (ci := 10) (v := .int z.2.2.2.2.2.2.2.2.2.2.2.2.1) (C := RX11) (T := TX11) (N := 17) hx hb hts inX11 hown hK hP 0 rfl rfl 12 (by decide) (hts _ q_fl_X11_169) (fun _ h9 => h9) rfl dX11_here_27 ?_
          refine lv_iconst (v := 1) hx hb dX11_here_30 (by decide) ?_
          refine lv_iadd hx hb dX11_here_31 ?_
          refine lv_topi (fun x_4 ex_4 => ?_)
          have hf := hf x_4 ex_4
          refine z_put (w' := cl_X11 cI cJ a (z.1, z.2.1, z.2.2.1, z.2.2.2.1, z.2.2.2.2.1, z.2.2.2.2.2.1, z.2.2.2.2.2.2.1, z.2.2.2.2.2.2.2.1, z.2.2.2.2.2.2.2.2.1, z.2.2.2.2.2.2.2.2.2.1, z.2.2.2.2.2.2.2.2.2.2.1, z.2.2.2.2.2.2.2.2.2.2.2.1, x_4, z.2.2.2.2.2.2.2.2.2.2.2.2.2)) (ci := 10) (v := .int x_4) (ty := .int) (Cn := RX11) (T := TX11) (N := 17) X inX11 tyX11 tyX11_ok nmX11 hP hD hS 0 rfl rfl 12 (by decide) (hts _ q_fl_X11_169) (fun _ h9 => h9) rfl (tyX11_ok 12 (by decide)) rfl rfl (Nat.le_of_ble_eq_true rfl) rfl dX11_here_32 (fun H locs hP hD hS => ?_)
          refine lv_goto (tgt := 0) hx hb dX11_here_35 (by decide) ?_
          obtain ⟨k_5, hk_5, hf⟩ := hf
          exact (ih k_5 hk_5)  (z.1, z.2.1, z.2.2.1, z.2.2.2.1, z.2.2.2.2.1, z.2.2.2.2.2.1, z.2.2.2.2.2.2.1, z.2.2.2.2.2.2.2.1, z.2.2.2.2.2.2.2.2.1, z.2.2.2.2.2.2.2.2.2.1, z.2.2.2.2.2.2.2.2.2.2.1, z.2.2.2.2.2.2.2.2.2.2.2.1, x_4, z.2.2.2.2.2.2.2.2.2.2.2.2.2) _ _ ls hf hP hD hS (lv_sub hl [0] rfl)
  unfold t_X11_here_e at hf
  obtain ⟨k_1, hf⟩ := hf
  exact (LP k_1)  u _ _ ls hf hP hD hS (lv_sub hl [0] rfl)
def s_X11_here (u : zModel) (Q : Int32 → zModel → Prop) : Prop := ∃ N p : Nat, mTx u N p ∧ Q (nI (pSk (mTp u) N p)) (mAt u (nI (pSk (mTp u) N p)))
theorem st_X11_here {u : zModel} {Q : Int32 → zModel → Prop} (h : s_X11_here u Q) : v_X11_here u Q := by
  obtain ⟨N, p, ⟨hN, hp, eN, ep⟩, hQ⟩ := h
  refine ⟨fun n z => ∃ q : Nat, q ≤ N ∧ n = N - q ∧ z = mAt u (nI q) ∧ pSk (mTp u) N q = pSk (mTp u) N p, ?_, ?_⟩
  · rintro n z ⟨q, hq, rfl, rfl, eq⟩
    show (u.2.2.2.2.2.2.2.2.2.2.2.1 ≤ nI q → Q (nI q) (mAt u (nI q))) ∧ (¬ u.2.2.2.2.2.2.2.2.2.2.2.1 ≤ nI q → vp_in (nI q) 400 ∧ ((¬ (mTp u (nI q).toNatClampNeg) = (32 : Int32) → Q (nI q) (mAt u (nI q))) ∧ ((mTp u (nI q).toNatClampNeg) = (32 : Int32) → ∀ x_4 : Int32, x_4 = (nI q + (1 : Int32)) → _)))
    rw [eN, nI_clamp (by omega)]
    have stop : ¬ (q < N ∧ isBl (mTp u) q = true) → Q (nI q) (mAt u (nI q)) := fun c => by
      have e : pSk (mTp u) N q = q := pRun_no c
      rw [← eq, e] at hQ; exact hQ
    refine ⟨fun c => stop (fun z => ?_), fun c => ⟨?_, fun d => stop (fun z => d (of_decide_eq_true z.2)), fun d x ex => ?_⟩⟩
    · have := (nI_leI (by omega) (by omega)).mp c
      omega
    · have : ¬ N ≤ q := fun z => c (nI_le z (by omega))
      exact vp_in_nI (by omega) (by decide)
    · have hlt : q < N := by
        have : ¬ N ≤ q := fun z => c (nI_le z (by omega))
        omega
      refine ⟨N - (q + 1), by omega, q + 1, by omega, rfl, by rw [ex, nI_1]; rfl, ?_⟩
      rw [← eq]
      exact (pRun_yes hlt (decide_eq_true d)).symm
  · refine ⟨N - p, p, hp, rfl, ?_, rfl⟩
    rw [← ep]; rfl
theorem c_X11_here (l : Launch) (dC : Nat → ClassId) (dI : Nat → Nat → Nat) (cI cJ cS : ClassId) (a : Nat → Nat) (u : zModel) (Q : Int32 → zModel → Prop) (hf : s_X11_here u Q) : ∀ sz : Nat, Met l yX11_here (Cond.code yX11_here cX11_here 1 (some .int) :: zT) rm_X11_here (zPm dC dI cI cJ cS (cl_X11 cI cJ a u) [.ref (a 0)] sz) (va_Qi Q (zB dC dI cI cJ cS (va_A (cl_X11 cI cJ a u) sz) (fun z => cl_X11 cI cJ a z)) (va_A (cl_X11 cI cJ a u) sz)) 0 0 (va_A (cl_X11 cI cJ a u) sz) := by
  obtain ⟨I0, h0, hf⟩ := st_X11_here hf
  exact L_X11_here l dC dI cI cJ cS a u Q I0 h0 hf

def s_X11_wrong (u : zModel) (x1 : Int32) (Q : zModel → Prop) : Prop := ((¬ u.2.2.2.2.2.2.2.2.2.2.2.2.2.1 = (-1 : Int32) → Q u) ∧ (u.2.2.2.2.2.2.2.2.2.2.2.2.2.1 = (-1 : Int32) → Q (u.1, u.2.1, u.2.2.1, u.2.2.2.1, u.2.2.2.2.1, u.2.2.2.2.2.1, u.2.2.2.2.2.2.1, u.2.2.2.2.2.2.2.1, u.2.2.2.2.2.2.2.2.1, u.2.2.2.2.2.2.2.2.2.1, u.2.2.2.2.2.2.2.2.2.2.1, u.2.2.2.2.2.2.2.2.2.2.2.1, u.2.2.2.2.2.2.2.2.2.2.2.2.1, x1, u.2.2.2.2.2.2.2.2.2.2.2.2.2.2)))
theorem zc_X11_wrong : zCalV RX11 yX11_wrong cX11_wrong 2 none 1 := ⟨q_im_X11_wrong, q_se_X11_wrong, q_in_X11, q_cd_X11_wrong, ⟨by decide, by decide, by decide +kernel⟩, rfl⟩
abbrev rm_X11_wrong : Room := { frames := 0, cells := 0, slots := 0, locals := 0 }
set_option maxHeartbeats 4000000 in
set_option maxRecDepth 100000 in
theorem c_X11_wrong (l : Launch) (dC : Nat → ClassId) (dI : Nat → Nat → Nat) (cI cJ cS : ClassId) (a : Nat → Nat) (u : zModel) (x1 : Int32) (Q : zModel → Prop) (hf : s_X11_wrong u x1 Q) : ∀ sz : Nat, Met l yX11_wrong (Cond.code yX11_wrong cX11_wrong 2 none :: zT) rm_X11_wrong (zPm dC dI cI cJ cS (cl_X11 cI cJ a u) [.ref (a 0), .int x1] sz) (va_Qv Q (zB dC dI cI cJ cS (va_A (cl_X11 cI cJ a u) sz) (fun z => cl_X11 cI cJ a z)) (va_A (cl_X11 cI cJ a u) sz)) 0 0 (va_A (cl_X11 cI cJ a u) sz) := by
  intro sz
  refine z_enterM (Qc := fun A => va_Qv Q (zB dC dI cI cJ cS A (fun z => cl_X11 cI cJ a z)) A) (cc := cX11_wrong) (maxL := 2) (ret := none) (by decide) (Nat.le_of_ble_eq_true rfl) ?_
  intro p e s m below meth c ls A X hP hD hS hA hl
  obtain ⟨⟨hx, hb, hml, hown, hts⟩, hr, hlk, hK⟩ := id X
  have hl : lv_has ls 2 [(0, .ref (a 0)), (1, .int x1)] := hl
  unfold s_X11_wrong at hf
  refine lv_aload_n hx hb dX11_wrong_0 rfl (lv_at hl 0 rfl) ?_
  refine va_get (D := (dC, dI)) (ci := 10) (v := .int u.2.2.2.2.2.2.2.2.2.2.2.2.2.1) (C := RX11) (T := TX11) (N := 17) hx hb hts inX11 hown hK hP 0 rfl rfl 13 (by decide) (hts _ q_fl_X11_29) (fun _ h9 => h9) rfl dX11_wrong_1 ?_
  refine lv_iconst (v := (-1)) hx hb dX11_wrong_4 (by decide) ?_
  refine lv_icmp_ne (tgt := 13) hx hb dX11_wrong_5 (by decide) (fun c_1 => ?_) (fun c_1 => ?_)
  · have hf := hf.1 c_1
    exact z_retMv (Wf := (fun z => cl_X11 cI cJ a z)) (u := u) X hf hP hD hS dX11_wrong_13
  · have hf := hf.2 c_1
    refine lv_aload_n hx hb dX11_wrong_8 rfl (lv_at hl 0 rfl) ?_
    refine lv_iload_n hx hb dX11_wrong_9 rfl (lv_at hl 1 rfl) ?_
    refine z_put (w' := cl_X11 cI cJ a (u.1, u.2.1, u.2.2.1, u.2.2.2.1, u.2.2.2.2.1, u.2.2.2.2.2.1, u.2.2.2.2.2.2.1, u.2.2.2.2.2.2.2.1, u.2.2.2.2.2.2.2.2.1, u.2.2.2.2.2.2.2.2.2.1, u.2.2.2.2.2.2.2.2.2.2.1, u.2.2.2.2.2.2.2.2.2.2.2.1, u.2.2.2.2.2.2.2.2.2.2.2.2.1, x1, u.2.2.2.2.2.2.2.2.2.2.2.2.2.2)) (ci := 10) (v := .int x1) (ty := .int) (Cn := RX11) (T := TX11) (N := 17) X inX11 tyX11 tyX11_ok nmX11 hP hD hS 0 rfl rfl 13 (by decide) (hts _ q_fl_X11_29) (fun _ h9 => h9) rfl (tyX11_ok 13 (by decide)) rfl rfl (Nat.le_of_ble_eq_true rfl) rfl dX11_wrong_10 (fun H locs hP hD hS => ?_)
    exact z_retMv (Wf := (fun z => cl_X11 cI cJ a z)) (u := (u.1, u.2.1, u.2.2.1, u.2.2.2.1, u.2.2.2.2.1, u.2.2.2.2.2.1, u.2.2.2.2.2.2.1, u.2.2.2.2.2.2.2.1, u.2.2.2.2.2.2.2.2.1, u.2.2.2.2.2.2.2.2.2.1, u.2.2.2.2.2.2.2.2.2.2.1, u.2.2.2.2.2.2.2.2.2.2.2.1, u.2.2.2.2.2.2.2.2.2.2.2.2.1, x1, u.2.2.2.2.2.2.2.2.2.2.2.2.2.2)) X hf hP hD hS dX11_wrong_13

def s_X11_isFigure (u : zModel) (Q : Int32 → zModel → Prop) : Prop := s_X11_here u (fun (r_1 : Int32) (u_2 : zModel) => ((u_2.2.2.2.2.2.2.2.2.2.2.2.1 ≤ r_1 → Q (0 : Int32) u_2) ∧ (¬ u_2.2.2.2.2.2.2.2.2.2.2.2.1 ≤ r_1 → vp_in u_2.2.2.2.2.2.2.2.2.2.2.2.2.1 400 ∧ s_X11_isIn (u_2.2.2.2.2.2.2.2.2.2.1 u_2.2.2.2.2.2.2.2.2.2.2.2.2.1.toNatClampNeg) (48 : Int32) (57 : Int32) (fun r_4 : Int32 => ((r_4 = 0 → Q (0 : Int32) u_2) ∧ (¬ r_4 = 0 → Q (1 : Int32) u_2))))))
theorem zc_X11_isFigure : zCalV RX11 yX11_isFigure cX11_isFigure 1 (some .boolean) 0 := ⟨q_im_X11_isFigure, q_se_X11_isFigure, q_in_X11, q_cd_X11_isFigure, ⟨by decide, by decide, by decide +kernel⟩, rfl⟩
abbrev rm_X11_isFigure : Room := { frames := 1, cells := 0, slots := 0, locals := 22 }
set_option maxHeartbeats 4000000 in
set_option maxRecDepth 100000 in
theorem c_X11_isFigure (l : Launch) (dC : Nat → ClassId) (dI : Nat → Nat → Nat) (cI cJ cS : ClassId) (a : Nat → Nat) (u : zModel) (Q : Int32 → zModel → Prop) (hf : s_X11_isFigure u Q) : ∀ sz : Nat, Met l yX11_isFigure (Cond.code yX11_isFigure cX11_isFigure 1 (some .boolean) :: zT) rm_X11_isFigure (zPm dC dI cI cJ cS (cl_X11 cI cJ a u) [.ref (a 0)] sz) (va_Qi (fun r u => (r = 0 ∨ r = 1) ∧ Q r u) (zB dC dI cI cJ cS (va_A (cl_X11 cI cJ a u) sz) (fun z => cl_X11 cI cJ a z)) (va_A (cl_X11 cI cJ a u) sz)) 0 0 (va_A (cl_X11 cI cJ a u) sz) := by
  intro sz
  refine z_enterM (Qc := fun A => va_Qi (fun r u => (r = 0 ∨ r = 1) ∧ Q r u) (zB dC dI cI cJ cS A (fun z => cl_X11 cI cJ a z)) A) (cc := cX11_isFigure) (maxL := 1) (ret := (some .boolean)) (by decide) (Nat.le_of_ble_eq_true rfl) ?_
  intro p e s m below meth c ls A X hP hD hS hA hl
  obtain ⟨⟨hx, hb, hml, hown, hts⟩, hr, hlk, hK⟩ := id X
  have hl : lv_has ls 1 [(0, .ref (a 0))] := hl
  unfold s_X11_isFigure at hf
  refine lv_aload_n hx hb dX11_isFigure_0 rfl (lv_at hl 0 rfl) ?_
  refine z_mVi (Wn := (fun u_2 => cl_X11 cI cJ a u_2)) (As := []) (rest := []) (wr := []) X (c_X11_here l dC dI cI cJ cS a u  _ hf _) zc_X11_here q_ml_X11_175 ⟨rfl, rfl⟩ ⟨Nat.le_of_ble_eq_true rfl, Nat.le_of_ble_eq_true rfl⟩ hP hD hS hA [0, 1, 2, 3, 4, 5, 6, 7, 8] [] rfl (by decide) rfl (by decide) (by decide) [0, 1, 2, 3, 4, 5, 6, 7, 8] (by decide) (fun _ => rfl) 10 rfl rfl hl.1 rfl rfl (Nat.le_of_ble_eq_true rfl) ⟨Nat.zero_le _, Nat.zero_le _⟩ dX11_isFigure_1 (fun r_1 u_2 H locs hf hP hD hS => ?_)
  refine lv_aload_n hx hb dX11_isFigure_4 rfl (lv_at hl 0 rfl) ?_
  refine va_get (D := (dC, dI)) (ci := 10) (v := .int u_2.2.2.2.2.2.2.2.2.2.2.2.1) (C := RX11) (T := TX11) (N := 17) hx hb hts inX11 hown hK hP 0 rfl rfl 11 (by decide) (hts _ q_fl_X11_172) (fun _ h9 => h9) rfl dX11_isFigure_5 ?_
  refine lv_icmp_ge (tgt := 34) hx hb dX11_isFigure_8 (by decide) (fun c_3 => ?_) (fun c_3 => ?_)
  · have hf := hf.1 c_3
    refine lv_iconst (v := 0) hx hb dX11_isFigure_34 (by decide) ?_
    exact z_retMz (Wf := (fun z => cl_X11 cI cJ a z)) (u := u_2) X (Or.inl rfl) hf hP hD hS dX11_isFigure_35
  · have hf := hf.2 c_3
    refine lv_aload_n hx hb dX11_isFigure_11 rfl (lv_at hl 0 rfl) ?_
    refine va_get (D := (dC, dI)) (ci := 10) (v := .ref (a 6)) (C := RX11) (T := TX11) (N := 17) hx hb hts inX11 hown hK hP 0 rfl rfl 9 (by decide) (hts _ q_fl_X11_26) (fun _ h9 => h9) rfl dX11_isFigure_12 ?_
    refine lv_aload_n hx hb dX11_isFigure_15 rfl (lv_at hl 0 rfl) ?_
    refine va_get (D := (dC, dI)) (ci := 10) (v := .int u_2.2.2.2.2.2.2.2.2.2.2.2.2.1) (C := RX11) (T := TX11) (N := 17) hx hb hts inX11 hown hK hP 0 rfl rfl 12 (by decide) (hts _ q_fl_X11_169) (fun _ h9 => h9) rfl dX11_isFigure_16 ?_
    obtain ⟨hg, hf⟩ := hf
    refine va_iald hx hb hK hP 6 0 rfl rfl hg dX11_isFigure_19 ?_
    refine lv_bipush (v := 48) hx hb dX11_isFigure_20 (by decide) ?_
    refine lv_bipush (v := 57) hx hb dX11_isFigure_22 (by decide) ?_
    refine z_cSi (As := [.int (u_2.2.2.2.2.2.2.2.2.2.1 u_2.2.2.2.2.2.2.2.2.2.2.2.2.1.toNatClampNeg), .int (48 : Int32), .int (57 : Int32)]) (rest := []) X (c_X11_isIn l dC dI cI cJ cS   (u_2.2.2.2.2.2.2.2.2.2.1 u_2.2.2.2.2.2.2.2.2.2.2.2.2.1.toNatClampNeg) (48 : Int32) (57 : Int32) _ hf) zc_X11_isIn q_ml_X11_165 ⟨rfl, rfl⟩ ⟨Nat.le_of_ble_eq_true rfl, Nat.le_of_ble_eq_true rfl⟩ hP [] rfl hl.1 rfl rfl (Nat.le_of_ble_eq_true rfl) ⟨Nat.zero_le _, Nat.zero_le _⟩ dX11_isFigure_24 (fun r_4 hf => ?_)
    obtain ⟨hbr_4, hf⟩ := hf
    refine lv_if_eq (tgt := 34) hx hb dX11_isFigure_27 (by decide) (fun c_5 => ?_) (fun c_5 => ?_)
    · have hf := hf.1 c_5
      refine lv_iconst (v := 0) hx hb dX11_isFigure_34 (by decide) ?_
      exact z_retMz (Wf := (fun z => cl_X11 cI cJ a z)) (u := u_2) X (Or.inl rfl) hf hP hD hS dX11_isFigure_35
    · have hf := hf.2 c_5
      refine lv_iconst (v := 1) hx hb dX11_isFigure_30 (by decide) ?_
      refine lv_goto (tgt := 35) hx hb dX11_isFigure_31 (by decide) ?_
      exact z_retMz (Wf := (fun z => cl_X11 cI cJ a z)) (u := u_2) X (Or.inr rfl) hf hP hD hS dX11_isFigure_35

def t_X11_number_e (u : zModel) (x1 : Int32) (x2 : Int32) (K18 : Int32 → Int32 → zModel → Prop) (Q : Int32 → zModel → Prop) : Prop := ((u.2.2.2.2.2.2.2.2.2.2.2.2.2.1 = (-1 : Int32) → s_X11_here u (fun (r_2 : Int32) (u_3 : zModel) => K18 r_2 (0 : Int32) u_3)) ∧ (¬ u.2.2.2.2.2.2.2.2.2.2.2.2.2.1 = (-1 : Int32) → Q (0 : Int32) u))
def t_X11_number_18 (x1 : Int32) (x2 : Int32) (y3 : Int32) (y4 : Int32) (z : zModel) (K18 : Int32 → Int32 → zModel → Prop) (Q : Int32 → zModel → Prop) : Prop := ((z.2.2.2.2.2.2.2.2.2.2.2.1 ≤ z.2.2.2.2.2.2.2.2.2.2.2.2.1 → ((z.2.2.2.2.2.2.2.2.2.2.2.2.1 = y3 → s_X11_wrong z y3 (fun (u_8 : zModel) => Q y4 u_8)) ∧ (¬ z.2.2.2.2.2.2.2.2.2.2.2.2.1 = y3 → (((3 : Int32) < (z.2.2.2.2.2.2.2.2.2.2.2.2.1 - y3) → s_X11_wrong z y3 (fun (u_11 : zModel) => Q y4 u_11)) ∧ (¬ (3 : Int32) < (z.2.2.2.2.2.2.2.2.2.2.2.2.1 - y3) → ((y4 < x1 → s_X11_wrong z y3 (fun (u_14 : zModel) => Q y4 u_14)) ∧ (¬ y4 < x1 → ((y4 ≤ x2 → Q y4 z) ∧ (¬ y4 ≤ x2 → s_X11_wrong z y3 (fun (u_17 : zModel) => Q y4 u_17)))))))))) ∧ (¬ z.2.2.2.2.2.2.2.2.2.2.2.1 ≤ z.2.2.2.2.2.2.2.2.2.2.2.2.1 → vp_in z.2.2.2.2.2.2.2.2.2.2.2.2.1 400 ∧ s_X11_isIn (z.2.2.2.2.2.2.2.2.2.1 z.2.2.2.2.2.2.2.2.2.2.2.2.1.toNatClampNeg) (48 : Int32) (57 : Int32) (fun r_18 : Int32 => ((r_18 = 0 → ((z.2.2.2.2.2.2.2.2.2.2.2.2.1 = y3 → s_X11_wrong z y3 (fun (u_22 : zModel) => Q y4 u_22)) ∧ (¬ z.2.2.2.2.2.2.2.2.2.2.2.2.1 = y3 → (((3 : Int32) < (z.2.2.2.2.2.2.2.2.2.2.2.2.1 - y3) → s_X11_wrong z y3 (fun (u_25 : zModel) => Q y4 u_25)) ∧ (¬ (3 : Int32) < (z.2.2.2.2.2.2.2.2.2.2.2.2.1 - y3) → ((y4 < x1 → s_X11_wrong z y3 (fun (u_28 : zModel) => Q y4 u_28)) ∧ (¬ y4 < x1 → ((y4 ≤ x2 → Q y4 z) ∧ (¬ y4 ≤ x2 → s_X11_wrong z y3 (fun (u_31 : zModel) => Q y4 u_31)))))))))) ∧ (¬ r_18 = 0 → (((3 : Int32) < (z.2.2.2.2.2.2.2.2.2.2.2.2.1 - y3) → ((z.2.2.2.2.2.2.2.2.2.2.2.2.1 = y3 → s_X11_wrong z y3 (fun (u_35 : zModel) => Q y4 u_35)) ∧ (¬ z.2.2.2.2.2.2.2.2.2.2.2.2.1 = y3 → (((3 : Int32) < (z.2.2.2.2.2.2.2.2.2.2.2.2.1 - y3) → s_X11_wrong z y3 (fun (u_38 : zModel) => Q y4 u_38)) ∧ (¬ (3 : Int32) < (z.2.2.2.2.2.2.2.2.2.2.2.2.1 - y3) → ((y4 < x1 → s_X11_wrong z y3 (fun (u_41 : zModel) => Q y4 u_41)) ∧ (¬ y4 < x1 → ((y4 ≤ x2 → Q y4 z) ∧ (¬ y4 ≤ x2 → s_X11_wrong z y3 (fun (u_44 : zModel) => Q y4 u_44)))))))))) ∧ (¬ (3 : Int32) < (z.2.2.2.2.2.2.2.2.2.2.2.2.1 - y3) → vp_in z.2.2.2.2.2.2.2.2.2.2.2.2.1 400 ∧ ∀ x_45 : Int32, x_45 = ((((10 : Int32) * y4) + (z.2.2.2.2.2.2.2.2.2.1 z.2.2.2.2.2.2.2.2.2.2.2.2.1.toNatClampNeg)) - (48 : Int32)) → ∀ x_46 : Int32, x_46 = (z.2.2.2.2.2.2.2.2.2.2.2.2.1 + (1 : Int32)) → K18 y3 x_45 (z.1, z.2.1, z.2.2.1, z.2.2.2.1, z.2.2.2.2.1, z.2.2.2.2.2.1, z.2.2.2.2.2.2.1, z.2.2.2.2.2.2.2.1, z.2.2.2.2.2.2.2.2.1, z.2.2.2.2.2.2.2.2.2.1, z.2.2.2.2.2.2.2.2.2.2.1, z.2.2.2.2.2.2.2.2.2.2.2.1, x_46, z.2.2.2.2.2.2.2.2.2.2.2.2.2))))))))
theorem zc_X11_number : zCalV RX11 yX11_number cX11_number 5 (some .int) 2 := ⟨q_im_X11_number, q_se_X11_number, q_in_X11, q_cd_X11_number, ⟨by decide, by decide, by decide +kernel⟩, rfl⟩
abbrev rm_X11_number : Room := { frames := 1, cells := 0, slots := 0, locals := 22 }
def v_X11_number (u : zModel) (x1 : Int32) (x2 : Int32) (Q : Int32 → zModel → Prop) : Prop := ∃ I18 : Nat → Int32 → Int32 → zModel → Prop, (∀ (n : Nat) (y3 : Int32) (y4 : Int32) (z : zModel), I18 n y3 y4 z → t_X11_number_18 x1 x2 y3 y4 z (fun q0 q1 q2 => ∃ k : Nat, k < n ∧ I18 k q0 q1 q2) Q) ∧ t_X11_number_e u x1 x2 (fun q0 q1 q2 => ∃ k : Nat, I18 k q0 q1 q2) Q
set_option maxHeartbeats 4000000 in
set_option maxRecDepth 100000 in
theorem L_X11_number (l : Launch) (dC : Nat → ClassId) (dI : Nat → Nat → Nat) (cI cJ cS : ClassId) (a : Nat → Nat) (u : zModel) (x1 : Int32) (x2 : Int32) (Q : Int32 → zModel → Prop) (I18 : Nat → Int32 → Int32 → zModel → Prop) (h18 : ∀ (n : Nat) (y3 : Int32) (y4 : Int32) (z : zModel), I18 n y3 y4 z → t_X11_number_18 x1 x2 y3 y4 z (fun q0 q1 q2 => ∃ k : Nat, k < n ∧ I18 k q0 q1 q2) Q) (hf : t_X11_number_e u x1 x2 (fun q0 q1 q2 => ∃ k : Nat, I18 k q0 q1 q2) Q) : ∀ sz : Nat, Met l yX11_number (Cond.code yX11_number cX11_number 5 (some .int) :: zT) rm_X11_number (zPm dC dI cI cJ cS (cl_X11 cI cJ a u) [.ref (a 0), .int x1, .int x2] sz) (va_Qi Q (zB dC dI cI cJ cS (va_A (cl_X11 cI cJ a u) sz) (fun z => cl_X11 cI cJ a z)) (va_A (cl_X11 cI cJ a u) sz)) 0 0 (va_A (cl_X11 cI cJ a u) sz) := by
  intro sz
  refine z_enterM (Qc := fun A => va_Qi Q (zB dC dI cI cJ cS A (fun z => cl_X11 cI cJ a z)) A) (cc := cX11_number) (maxL := 5) (ret := (some .int)) (by decide) (Nat.le_of_ble_eq_true rfl) ?_
  intro p e s m below meth c ls A X hP hD hS hA hl
  obtain ⟨⟨hx, hb, hml, hown, hts⟩, hr, hlk, hK⟩ := id X
  have hl : lv_has ls 5 [(0, .ref (a 0)), (1, .int x1), (2, .int x2)] := hl
  have LP : ∀ n : Nat, (∀ (y3 : Int32) (y4 : Int32) (z : zModel) (H : Heap) (locs : List Loc) (ls : Array Slot), I18 n y3 y4 z → va_P (dC, dI) vwCl (cl_X11 cI cJ a z) H → va_D A (cl_X11 cI cJ a z) → va_S A s.heap H locs → lv_has ls 5 [(0, .ref (a 0)), (1, .int x1), (2, .int x2), (3, .int y3), (4, .int y4)] → W p l e rm_X11_number s m [.ref (a 0), .int x1, .int x2].toArray below meth c H locs 0 0 (MQ below (va_Qi Q (zB dC dI cI cJ cS A (fun z => cl_X11 cI cJ a z)) A) [.ref (a 0), .int x1, .int x2].toArray s 0 0 A) (F0 m 18 ls [])) := by
    intro n
    induction n using Nat.strongRecOn with
    | _ n ih =>
      intro y3 y4 z H locs ls hI hP hD hS hl
      have hf := h18 n y3 y4 z hI
      unfold t_X11_number_18 at hf
      refine lv_aload_n hx hb dX11_number_18 rfl (lv_at hl 0 rfl) ?_
      refine va_get (D := (dC, dI)) (ci := 10) (v := .int z.2.2.2.2.2.2.2.2.2.2.2.2.1) (C := RX11) (T := TX11) (N := 17) hx hb hts inX11 hown hK hP 0 rfl rfl 12 (by decide) (hts _ q_fl_X11_169) (fun _ h9 => h9) rfl dX11_number_19 ?_
      refine lv_aload_n hx hb dX11_number_22 rfl (lv_at hl 0 rfl) ?_
      refine va_get (D := (dC, dI)) (ci := 10) (v := .int z.2.2.2.2.2.2.2.2.2.2.2.1) (C := RX11) (T := TX11) (N := 17) hx hb hts inX11 hown hK hP 0 rfl rfl 11 (by decide) (hts _ q_fl_X11_172) (fun _ h9 => h9) rfl dX11_number_23 ?_
      refine lv_icmp_ge (tgt := 91) hx hb dX11_number_26 (by decide) (fun c_5 => ?_) (fun c_5 => ?_)
      · have hf := hf.1 c_5
        refine lv_aload_n hx hb dX11_number_91 rfl (lv_at hl 0 rfl) ?_
        refine va_get (D := (dC, dI)) (ci := 10) (v := .int z.2.2.2.2.2.2.2.2.2.2.2.2.1) (C := RX11) (T := TX11) (N := 17) hx hb hts inX11 hown hK hP 0 rfl rfl 12 (by decide) (hts _ q_fl_X11_169) (fun _ h9 => h9) rfl dX11_number_92 ?_
        refine lv_iload_n hx hb dX11_number_95 rfl (lv_at hl 3 rfl) ?_
        refine lv_icmp_eq (tgt := 121) hx hb dX11_number_96 (by decide) (fun c_6 => ?_) (fun c_6 => ?_)
        · have hf := hf.1 c_6
          refine lv_aload_n hx hb dX11_number_121 rfl (lv_at hl 0 rfl) ?_
          refine lv_iload_n hx hb dX11_number_122 rfl (lv_at hl 3 rfl) ?_
          refine z_mVv (Wn := (fun u_8 => cl_X11 cI cJ a u_8)) (As := [.int y3]) (rest := []) (wr := []) X (c_X11_wrong l dC dI cI cJ cS a z y3 _ hf _) zc_X11_wrong q_ml_X11_187 ⟨rfl, rfl⟩ ⟨Nat.le_of_ble_eq_true rfl, Nat.le_of_ble_eq_true rfl⟩ hP hD hS hA [0, 1, 2, 3, 4, 5, 6, 7, 8] [] rfl (by decide) rfl (by decide) (by decide) [0, 1, 2, 3, 4, 5, 6, 7, 8] (by decide) (fun _ => rfl) 10 rfl rfl hl.1 rfl rfl (Nat.le_of_ble_eq_true rfl) ⟨Nat.zero_le _, Nat.zero_le _⟩ dX11_number_123 (fun u_8 H locs hf hP hD hS => ?_)
          refine lv_iload hx hb dX11_number_126 (lv_at hl 4 rfl) ?_
          exact z_retMi (Wf := (fun z => cl_X11 cI cJ a z)) (u := u_8) X hf hP hD hS dX11_number_128
        · have hf := hf.2 c_6
          refine lv_aload_n hx hb dX11_number_99 rfl (lv_at hl 0 rfl) ?_
          refine va_get (D := (dC, dI)) (ci := 10) (v := .int z.2.2.2.2.2.2.2.2.2.2.2.2.1) (C := RX11) (T := TX11) (N := 17) hx hb hts inX11 hown hK hP 0 rfl rfl 12 (by decide) (hts _ q_fl_X11_169) (fun _ h9 => h9) rfl dX11_number_100 ?_
          refine lv_iload_n hx hb dX11_number_103 rfl (lv_at hl 3 rfl) ?_
          refine lv_isub hx hb dX11_number_104 ?_
          refine lv_iconst (v := 3) hx hb dX11_number_105 (by decide) ?_
          refine lv_icmp_gt (tgt := 121) hx hb dX11_number_106 (by decide) (fun c_9 => ?_) (fun c_9 => ?_)
          · have hf := hf.1 c_9
            refine lv_aload_n hx hb dX11_number_121 rfl (lv_at hl 0 rfl) ?_
            refine lv_iload_n hx hb dX11_number_122 rfl (lv_at hl 3 rfl) ?_
            refine z_mVv (Wn := (fun u_11 => cl_X11 cI cJ a u_11)) (As := [.int y3]) (rest := []) (wr := []) X (c_X11_wrong l dC dI cI cJ cS a z y3 _ hf _) zc_X11_wrong q_ml_X11_187 ⟨rfl, rfl⟩ ⟨Nat.le_of_ble_eq_true rfl, Nat.le_of_ble_eq_true rfl⟩ hP hD hS hA [0, 1, 2, 3, 4, 5, 6, 7, 8] [] rfl (by decide) rfl (by decide) (by decide) [0, 1, 2, 3, 4, 5, 6, 7, 8] (by decide) (fun _ => rfl) 10 rfl rfl hl.1 rfl rfl (Nat.le_of_ble_eq_true rfl) ⟨Nat.zero_le _, Nat.zero_le _⟩ dX11_number_123 (fun u_11 H locs hf hP hD hS => ?_)
            refine lv_iload hx hb dX11_number_126 (lv_at hl 4 rfl) ?_
            exact z_retMi (Wf := (fun z => cl_X11 cI cJ a z)) (u := u_11) X hf hP hD hS dX11_number_128
          · have hf := hf.2 c_9
            refine lv_iload hx hb dX11_number_109 (lv_at hl 4 rfl) ?_
            refine lv_iload_n hx hb dX11_number_111 rfl (lv_at hl 1 rfl) ?_
            refine lv_icmp_lt (tgt := 121) hx hb dX11_number_112 (by decide) (fun c_12 => ?_) (fun c_12 => ?_)
            · have hf := hf.1 c_12
              refine lv_aload_n hx hb dX11_number_121 rfl (lv_at hl 0 rfl) ?_
              refine lv_iload_n hx hb dX11_number_122 rfl (lv_at hl 3 rfl) ?_
              refine z_mVv (Wn := (fun u_14 => cl_X11 cI cJ a u_14)) (As := [.int y3]) (rest := []) (wr := []) X (c_X11_wrong l dC dI cI cJ cS a z y3 _ hf _) zc_X11_wrong q_ml_X11_187 ⟨rfl, rfl⟩ ⟨Nat.le_of_ble_eq_true rfl, Nat.le_of_ble_eq_true rfl⟩ hP hD hS hA [0, 1, 2, 3, 4, 5, 6, 7, 8] [] rfl (by decide) rfl (by decide) (by decide) [0, 1, 2, 3, 4, 5, 6, 7, 8] (by decide) (fun _ => rfl) 10 rfl rfl hl.1 rfl rfl (Nat.le_of_ble_eq_true rfl) ⟨Nat.zero_le _, Nat.zero_le _⟩ dX11_number_123 (fun u_14 H locs hf hP hD hS => ?_)
              refine lv_iload hx hb dX11_number_126 (lv_at hl 4 rfl) ?_
              exact z_retMi (Wf := (fun z => cl_X11 cI cJ a z)) (u := u_14) X hf hP hD hS dX11_number_128
            · have hf := hf.2 c_12
              refine lv_iload hx hb dX11_number_115 (lv_at hl 4 rfl) ?_
              refine lv_iload_n hx hb dX11_number_117 rfl (lv_at hl 2 rfl) ?_
              refine lv_icmp_le (tgt := 126) hx hb dX11_number_118 (by decide) (fun c_15 => ?_) (fun c_15 => ?_)
              · have hf := hf.1 c_15
                refine lv_iload hx hb dX11_number_126 (lv_at hl 4 rfl) ?_
                exact z_retMi (Wf := (fun z => cl_X11 cI cJ a z)) (u := z) X hf hP hD hS dX11_number_128
              · have hf := hf.2 c_15
                refine lv_aload_n hx hb dX11_number_121 rfl (lv_at hl 0 rfl) ?_
                refine lv_iload_n hx hb dX11_number_122 rfl (lv_at hl 3 rfl) ?_
                refine z_mVv (Wn := (fun u_17 => cl_X11 cI cJ a u_17)) (As := [.int y3]) (rest := []) (wr := []) X (c_X11_wrong l dC dI cI cJ cS a z y3 _ hf _) zc_X11_wrong q_ml_X11_187 ⟨rfl, rfl⟩ ⟨Nat.le_of_ble_eq_true rfl, Nat.le_of_ble_eq_true rfl⟩ hP hD hS hA [0, 1, 2, 3, 4, 5, 6, 7, 8] [] rfl (by decide) rfl (by decide) (by decide) [0, 1, 2, 3, 4, 5, 6, 7, 8] (by decide) (fun _ => rfl) 10 rfl rfl hl.1 rfl rfl (Nat.le_of_ble_eq_true rfl) ⟨Nat.zero_le _, Nat.zero_le _⟩ dX11_number_123 (fun u_17 H locs hf hP hD hS => ?_)
                refine lv_iload hx hb dX11_number_126 (lv_at hl 4 rfl) ?_
                exact z_retMi (Wf := (fun z => cl_X11 cI cJ a z)) (u := u_17) X hf hP hD hS dX11_number_128
      · have hf := hf.2 c_5
        refine lv_aload_n hx hb dX11_number_29 rfl (lv_at hl 0 rfl) ?_
        refine va_get (D := (dC, dI)) (ci := 10) (v := .ref (a 6)) (C := RX11) (T := TX11) (N := 17) hx hb hts inX11 hown hK hP 0 rfl rfl 9 (by decide) (hts _ q_fl_X11_26) (fun _ h9 => h9) rfl dX11_number_30 ?_
        refine lv_aload_n hx hb dX11_number_33 rfl (lv_at hl 0 rfl) ?_
        refine va_get (D := (dC, dI)) (ci := 10) (v := .int z.2.2.2.2.2.2.2.2.2.2.2.2.1) (C := RX11) (T := TX11) (N := 17) hx hb hts inX11 hown hK hP 0 rfl rfl 12 (by decide) (hts _ q_fl_X11_169) (fun _ h9 => h9) rfl dX11_number_34 ?_
        obtain ⟨hg, hf⟩ := hf
        refine va_iald hx hb hK hP 6 0 rfl rfl hg dX11_number_37 ?_
        refine lv_bipush (v := 48) hx hb dX11_number_38 (by decide) ?_
        refine lv_bipush (v := 57) hx hb dX11_number_40 (by decide) ?_
        refine z_cSi (As := [.int (z.2.2.2.2.2.2.2.2.2.1 z.2.2.2.2.2.2.2.2.2.2.2.2.1.toNatClampNeg), .int (48 : Int32), .int (57 : Int32)]) (rest := []) X (c_X11_isIn l dC dI cI cJ cS   (z.2.2.2.2.2.2.2.2.2.1 z.2.2.2.2.2.2.2.2.2.2.2.2.1.toNatClampNeg) (48 : Int32) (57 : Int32) _ hf) zc_X11_isIn q_ml_X11_165 ⟨rfl, rfl⟩ ⟨Nat.le_of_ble_eq_true rfl, Nat.le_of_ble_eq_true rfl⟩ hP [] rfl hl.1 rfl rfl (Nat.le_of_ble_eq_true rfl) ⟨Nat.zero_le _, Nat.zero_le _⟩ dX11_number_42 (fun r_18 hf => ?_)
        obtain ⟨hbr_18, hf⟩ := hf
        refine lv_if_eq (tgt := 91) hx hb dX11_number_45 (by decide) (fun c_19 => ?_) (fun c_19 => ?_)
        · have hf := hf.1 c_19
          refine lv_aload_n hx hb dX11_number_91 rfl (lv_at hl 0 rfl) ?_
          refine va_get (D := (dC, dI)) (ci := 10) (v := .int z.2.2.2.2.2.2.2.2.2.2.2.2.1) (C := RX11) (T := TX11) (N := 17) hx hb hts inX11 hown hK hP 0 rfl rfl 12 (by decide) (hts _ q_fl_X11_169) (fun _ h9 => h9) rfl dX11_number_92 ?_
          refine lv_iload_n hx hb dX11_number_95 rfl (lv_at hl 3 rfl) ?_
          refine lv_icmp_eq (tgt := 121) hx hb dX11_number_96 (by decide) (fun c_20 => ?_) (fun c_20 => ?_)
          · have hf := hf.1 c_20
            refine lv_aload_n hx hb dX11_number_121 rfl (lv_at hl 0 rfl) ?_
            refine lv_iload_n hx hb dX11_number_122 rfl (lv_at hl 3 rfl) ?_
            refine z_mVv (Wn := (fun u_22 => cl_X11 cI cJ a u_22)) (As := [.int y3]) (rest := []) (wr := []) X (c_X11_wrong l dC dI cI cJ cS a z y3 _ hf _) zc_X11_wrong q_ml_X11_187 ⟨rfl, rfl⟩ ⟨Nat.le_of_ble_eq_true rfl, Nat.le_of_ble_eq_true rfl⟩ hP hD hS hA [0, 1, 2, 3, 4, 5, 6, 7, 8] [] rfl (by decide) rfl (by decide) (by decide) [0, 1, 2, 3, 4, 5, 6, 7, 8] (by decide) (fun _ => rfl) 10 rfl rfl hl.1 rfl rfl (Nat.le_of_ble_eq_true rfl) ⟨Nat.zero_le _, Nat.zero_le _⟩ dX11_number_123 (fun u_22 H locs hf hP hD hS => ?_)
            refine lv_iload hx hb dX11_number_126 (lv_at hl 4 rfl) ?_
            exact z_retMi (Wf := (fun z => cl_X11 cI cJ a z)) (u := u_22) X hf hP hD hS dX11_number_128
          · have hf := hf.2 c_20
            refine lv_aload_n hx hb dX11_number_99 rfl (lv_at hl 0 rfl) ?_
            refine va_get (D := (dC, dI)) (ci := 10) (v := .int z.2.2.2.2.2.2.2.2.2.2.2.2.1) (C := RX11) (T := TX11) (N := 17) hx hb hts inX11 hown hK hP 0 rfl rfl 12 (by decide) (hts _ q_fl_X11_169) (fun _ h9 => h9) rfl dX11_number_100 ?_
            refine lv_iload_n hx hb dX11_number_103 rfl (lv_at hl 3 rfl) ?_
            refine lv_isub hx hb dX11_number_104 ?_
            refine lv_iconst (v := 3) hx hb dX11_number_105 (by decide) ?_
            refine lv_icmp_gt (tgt := 121) hx hb dX11_number_106 (by decide) (fun c_23 => ?_) (fun c_23 => ?_)
            · have hf := hf.1 c_23
              refine lv_aload_n hx hb dX11_number_121 rfl (lv_at hl 0 rfl) ?_
              refine lv_iload_n hx hb dX11_number_122 rfl (lv_at hl 3 rfl) ?_
              refine z_mVv (Wn := (fun u_25 => cl_X11 cI cJ a u_25)) (As := [.int y3]) (rest := []) (wr := []) X (c_X11_wrong l dC dI cI cJ cS a z y3 _ hf _) zc_X11_wrong q_ml_X11_187 ⟨rfl, rfl⟩ ⟨Nat.le_of_ble_eq_true rfl, Nat.le_of_ble_eq_true rfl⟩ hP hD hS hA [0, 1, 2, 3, 4, 5, 6, 7, 8] [] rfl (by decide) rfl (by decide) (by decide) [0, 1, 2, 3, 4, 5, 6, 7, 8] (by decide) (fun _ => rfl) 10 rfl rfl hl.1 rfl rfl (Nat.le_of_ble_eq_true rfl) ⟨Nat.zero_le _, Nat.zero_le _⟩ dX11_number_123 (fun u_25 H locs hf hP hD hS => ?_)
              refine lv_iload hx hb dX11_number_126 (lv_at hl 4 rfl) ?_
              exact z_retMi (Wf := (fun z => cl_X11 cI cJ a z)) (u := u_25) X hf hP hD hS dX11_number_128
            · have hf := hf.2 c_23
              refine lv_iload hx hb dX11_number_109 (lv_at hl 4 rfl) ?_
              refine lv_iload_n hx hb dX11_number_111 rfl (lv_at hl 1 rfl) ?_
              refine lv_icmp_lt (tgt := 121) hx hb dX11_number_112 (by decide) (fun c_26 => ?_) (fun c_26 => ?_)
              · have hf := hf.1 c_26
                refine lv_aload_n hx hb dX11_number_121 rfl (lv_at hl 0 rfl) ?_
                refine lv_iload_n hx hb dX11_number_122 rfl (lv_at hl 3 rfl) ?_
                refine z_mVv (Wn := (fun u_28 => cl_X11 cI cJ a u_28)) (As := [.int y3]) (rest := []) (wr := []) X (c_X11_wrong l dC dI cI cJ cS a z y3 _ hf _) zc_X11_wrong q_ml_X11_187 ⟨rfl, rfl⟩ ⟨Nat.le_of_ble_eq_true rfl, Nat.le_of_ble_eq_true rfl⟩ hP hD hS hA [0, 1, 2, 3, 4, 5, 6, 7, 8] [] rfl (by decide) rfl (by decide) (by decide) [0, 1, 2, 3, 4, 5, 6, 7, 8] (by decide) (fun _ => rfl) 10 rfl rfl hl.1 rfl rfl (Nat.le_of_ble_eq_true rfl) ⟨Nat.zero_le _, Nat.zero_le _⟩ dX11_number_123 (fun u_28 H locs hf hP hD hS => ?_)
                refine lv_iload hx hb dX11_number_126 (lv_at hl 4 rfl) ?_
                exact z_retMi (Wf := (fun z => cl_X11 cI cJ a z)) (u := u_28) X hf hP hD hS dX11_number_128
              · have hf := hf.2 c_26
                refine lv_iload hx hb dX11_number_115 (lv_at hl 4 rfl) ?_
                refine lv_iload_n hx hb dX11_number_117 rfl (lv_at hl 2 rfl) ?_
                refine lv_icmp_le (tgt := 126) hx hb dX11_number_118 (by decide) (fun c_29 => ?_) (fun c_29 => ?_)
                · have hf := hf.1 c_29
                  refine lv_iload hx hb dX11_number_126 (lv_at hl 4 rfl) ?_
                  exact z_retMi (Wf := (fun z => cl_X11 cI cJ a z)) (u := z) X hf hP hD hS dX11_number_128
                · have hf := hf.2 c_29
                  refine lv_aload_n hx hb dX11_number_121 rfl (lv_at hl 0 rfl) ?_
                  refine lv_iload_n hx hb dX11_number_122 rfl (lv_at hl 3 rfl) ?_
                  refine z_mVv (Wn := (fun u_31 => cl_X11 cI cJ a u_31)) (As := [.int y3]) (rest := []) (wr := []) X (c_X11_wrong l dC dI cI cJ cS a z y3 _ hf _) zc_X11_wrong q_ml_X11_187 ⟨rfl, rfl⟩ ⟨Nat.le_of_ble_eq_true rfl, Nat.le_of_ble_eq_true rfl⟩ hP hD hS hA [0, 1, 2, 3, 4, 5, 6, 7, 8] [] rfl (by decide) rfl (by decide) (by decide) [0, 1, 2, 3, 4, 5, 6, 7, 8] (by decide) (fun _ => rfl) 10 rfl rfl hl.1 rfl rfl (Nat.le_of_ble_eq_true rfl) ⟨Nat.zero_le _, Nat.zero_le _⟩ dX11_number_123 (fun u_31 H locs hf hP hD hS => ?_)
                  refine lv_iload hx hb dX11_number_126 (lv_at hl 4 rfl) ?_
                  exact z_retMi (Wf := (fun z => cl_X11 cI cJ a z)) (u := u_31) X hf hP hD hS dX11_number_128
        · have hf := hf.2 c_19
          refine lv_aload_n hx hb dX11_number_48 rfl (lv_at hl 0 rfl) ?_
          refine va_get (D := (dC, dI)) (ci := 10) (v := .int z.2.2.2.2.2.2.2.2.2.2.2.2.1) (C := RX11) (T := TX11) (N := 17) hx hb hts inX11 hown hK hP 0 rfl rfl 12 (by decide) (hts _ q_fl_X11_169) (fun _ h9 => h9) rfl dX11_number_49 ?_
          refine lv_iload_n hx hb dX11_number_52 rfl (lv_at hl 3 rfl) ?_
          refine lv_isub hx hb dX11_number_53 ?_
          refine lv_iconst (v := 3) hx hb dX11_number_54 (by decide) ?_
          refine lv_icmp_gt (tgt := 91) hx hb dX11_number_55 (by decide) (fun c_32 => ?_) (fun c_32 => ?_)
          · have hf := hf.1 c_32
            refine lv_aload_n hx hb dX11_number_91 rfl (lv_at hl 0 rfl) ?_
            refine va_get (D := (dC, dI)) (ci := 10) (v := .int z.2.2.2.2.2.2.2.2.2.2.2.2.1) (C := RX11) (T := TX11) (N := 17) hx hb hts inX11 hown hK hP 0 rfl rfl 12 (by decide) (hts _ q_fl_X11_169) (fun _ h9 => h9) rfl dX11_number_92 ?_
            refine lv_iload_n hx hb dX11_number_95 rfl (lv_at hl 3 rfl) ?_
            refine lv_icmp_eq (tgt := 121) hx hb dX11_number_96 (by decide) (fun c_33 => ?_) (fun c_33 => ?_)
            · have hf := hf.1 c_33
              refine lv_aload_n hx hb dX11_number_121 rfl (lv_at hl 0 rfl) ?_
              refine lv_iload_n hx hb dX11_number_122 rfl (lv_at hl 3 rfl) ?_
              refine z_mVv (Wn := (fun u_35 => cl_X11 cI cJ a u_35)) (As := [.int y3]) (rest := []) (wr := []) X (c_X11_wrong l dC dI cI cJ cS a z y3 _ hf _) zc_X11_wrong q_ml_X11_187 ⟨rfl, rfl⟩ ⟨Nat.le_of_ble_eq_true rfl, Nat.le_of_ble_eq_true rfl⟩ hP hD hS hA [0, 1, 2, 3, 4, 5, 6, 7, 8] [] rfl (by decide) rfl (by decide) (by decide) [0, 1, 2, 3, 4, 5, 6, 7, 8] (by decide) (fun _ => rfl) 10 rfl rfl hl.1 rfl rfl (Nat.le_of_ble_eq_true rfl) ⟨Nat.zero_le _, Nat.zero_le _⟩ dX11_number_123 (fun u_35 H locs hf hP hD hS => ?_)
              refine lv_iload hx hb dX11_number_126 (lv_at hl 4 rfl) ?_
              exact z_retMi (Wf := (fun z => cl_X11 cI cJ a z)) (u := u_35) X hf hP hD hS dX11_number_128
            · have hf := hf.2 c_33
              refine lv_aload_n hx hb dX11_number_99 rfl (lv_at hl 0 rfl) ?_
              refine va_get (D := (dC, dI)) (ci := 10) (v := .int z.2.2.2.2.2.2.2.2.2.2.2.2.1) (C := RX11) (T := TX11) (N := 17) hx hb hts inX11 hown hK hP 0 rfl rfl 12 (by decide) (hts _ q_fl_X11_169) (fun _ h9 => h9) rfl dX11_number_100 ?_
              refine lv_iload_n hx hb dX11_number_103 rfl (lv_at hl 3 rfl) ?_
              refine lv_isub hx hb dX11_number_104 ?_
              refine lv_iconst (v := 3) hx hb dX11_number_105 (by decide) ?_
              refine lv_icmp_gt (tgt := 121) hx hb dX11_number_106 (by decide) (fun c_36 => ?_) (fun c_36 => ?_)
              · have hf := hf.1 c_36
                refine lv_aload_n hx hb dX11_number_121 rfl (lv_at hl 0 rfl) ?_
                refine lv_iload_n hx hb dX11_number_122 rfl (lv_at hl 3 rfl) ?_
                refine z_mVv (Wn := (fun u_38 => cl_X11 cI cJ a u_38)) (As := [.int y3]) (rest := []) (wr := []) X (c_X11_wrong l dC dI cI cJ cS a z y3 _ hf _) zc_X11_wrong q_ml_X11_187 ⟨rfl, rfl⟩ ⟨Nat.le_of_ble_eq_true rfl, Nat.le_of_ble_eq_true rfl⟩ hP hD hS hA [0, 1, 2, 3, 4, 5, 6, 7, 8] [] rfl (by decide) rfl (by decide) (by decide) [0, 1, 2, 3, 4, 5, 6, 7, 8] (by decide) (fun _ => rfl) 10 rfl rfl hl.1 rfl rfl (Nat.le_of_ble_eq_true rfl) ⟨Nat.zero_le _, Nat.zero_le _⟩ dX11_number_123 (fun u_38 H locs hf hP hD hS => ?_)
                refine lv_iload hx hb dX11_number_126 (lv_at hl 4 rfl) ?_
                exact z_retMi (Wf := (fun z => cl_X11 cI cJ a z)) (u := u_38) X hf hP hD hS dX11_number_128
              · have hf := hf.2 c_36
                refine lv_iload hx hb dX11_number_109 (lv_at hl 4 rfl) ?_
                refine lv_iload_n hx hb dX11_number_111 rfl (lv_at hl 1 rfl) ?_
                refine lv_icmp_lt (tgt := 121) hx hb dX11_number_112 (by decide) (fun c_39 => ?_) (fun c_39 => ?_)
                · have hf := hf.1 c_39
                  refine lv_aload_n hx hb dX11_number_121 rfl (lv_at hl 0 rfl) ?_
                  refine lv_iload_n hx hb dX11_number_122 rfl (lv_at hl 3 rfl) ?_
                  refine z_mVv (Wn := (fun u_41 => cl_X11 cI cJ a u_41)) (As := [.int y3]) (rest := []) (wr := []) X (c_X11_wrong l dC dI cI cJ cS a z y3 _ hf _) zc_X11_wrong q_ml_X11_187 ⟨rfl, rfl⟩ ⟨Nat.le_of_ble_eq_true rfl, Nat.le_of_ble_eq_true rfl⟩ hP hD hS hA [0, 1, 2, 3, 4, 5, 6, 7, 8] [] rfl (by decide) rfl (by decide) (by decide) [0, 1, 2, 3, 4, 5, 6, 7, 8] (by decide) (fun _ => rfl) 10 rfl rfl hl.1 rfl rfl (Nat.le_of_ble_eq_true rfl) ⟨Nat.zero_le _, Nat.zero_le _⟩ dX11_number_123 (fun u_41 H locs hf hP hD hS => ?_)
                  refine lv_iload hx hb dX11_number_126 (lv_at hl 4 rfl) ?_
                  exact z_retMi (Wf := (fun z => cl_X11 cI cJ a z)) (u := u_41) X hf hP hD hS dX11_number_128
                · have hf := hf.2 c_39
                  refine lv_iload hx hb dX11_number_115 (lv_at hl 4 rfl) ?_
                  refine lv_iload_n hx hb dX11_number_117 rfl (lv_at hl 2 rfl) ?_
                  refine lv_icmp_le (tgt := 126) hx hb dX11_number_118 (by decide) (fun c_42 => ?_) (fun c_42 => ?_)
                  · have hf := hf.1 c_42
                    refine lv_iload hx hb dX11_number_126 (lv_at hl 4 rfl) ?_
                    exact z_retMi (Wf := (fun z => cl_X11 cI cJ a z)) (u := z) X hf hP hD hS dX11_number_128
                  · have hf := hf.2 c_42
                    refine lv_aload_n hx hb dX11_number_121 rfl (lv_at hl 0 rfl) ?_
                    refine lv_iload_n hx hb dX11_number_122 rfl (lv_at hl 3 rfl) ?_
                    refine z_mVv (Wn := (fun u_44 => cl_X11 cI cJ a u_44)) (As := [.int y3]) (rest := []) (wr := []) X (c_X11_wrong l dC dI cI cJ cS a z y3 _ hf _) zc_X11_wrong q_ml_X11_187 ⟨rfl, rfl⟩ ⟨Nat.le_of_ble_eq_true rfl, Nat.le_of_ble_eq_true rfl⟩ hP hD hS hA [0, 1, 2, 3, 4, 5, 6, 7, 8] [] rfl (by decide) rfl (by decide) (by decide) [0, 1, 2, 3, 4, 5, 6, 7, 8] (by decide) (fun _ => rfl) 10 rfl rfl hl.1 rfl rfl (Nat.le_of_ble_eq_true rfl) ⟨Nat.zero_le _, Nat.zero_le _⟩ dX11_number_123 (fun u_44 H locs hf hP hD hS => ?_)
                    refine lv_iload hx hb dX11_number_126 (lv_at hl 4 rfl) ?_
                    exact z_retMi (Wf := (fun z => cl_X11 cI cJ a z)) (u := u_44) X hf hP hD hS dX11_number_128
          · have hf := hf.2 c_32
            refine lv_bipush (v := 10) hx hb dX11_number_58 (by decide) ?_
            refine lv_iload hx hb dX11_number_60 (lv_at hl 4 rfl) ?_
            refine lv_imul hx hb dX11_number_62 ?_
            refine lv_aload_n hx hb dX11_number_63 rfl (lv_at hl 0 rfl) ?_
            refine va_get (D := (dC, dI)) (ci := 10) (v := .ref (a 6)) (C := RX11) (T := TX11) (N := 17) hx hb hts inX11 hown hK hP 0 rfl rfl 9 (by decide) (hts _ q_fl_X11_26) (fun _ h9 => h9) rfl dX11_number_64 ?_
            refine lv_aload_n hx hb dX11_number_67 rfl (lv_at hl 0 rfl) ?_
            refine va_get (D := (dC, dI)) (ci := 10) (v := .int z.2.2.2.2.2.2.2.2.2.2.2.2.1) (C := RX11) (T := TX11) (N := 17) hx hb hts inX11 hown hK hP 0 rfl rfl 12 (by decide) (hts _ q_fl_X11_169) (fun _ h9 => h9) rfl dX11_number_68 ?_
            obtain ⟨hg, hf⟩ := hf
            refine va_iald hx hb hK hP 6 0 rfl rfl hg dX11_number_71 ?_
            refine lv_iadd hx hb dX11_number_72 ?_
            refine lv_bipush (v := 48) hx hb dX11_number_73 (by decide) ?_
            refine lv_isub hx hb dX11_number_75 ?_
            refine lv_topi (fun x_45 ex_45 => ?_)
            have hf := hf x_45 ex_45
            refine lv_istore (lv' := [(4, .int x_45), (0, .ref (a 0)), (1, .int x1), (2, .int x2), (3, .int y3)]) hx hb dX11_number_76 hl (by decide) rfl (fun ls hl => ?_)
            refine lv_aload_n hx hb dX11_number_78 rfl (lv_at hl 1 rfl) ?_
            refine lv_dup hx hb dX11_number_79 rfl ?_
            refine va_get (D := (dC, dI)) (ci := 10) (v := .int z.2.2.2.2.2.2.2.2.2.2.2.2.1) (C := RX11) (T := TX11) (N := 17) hx hb hts inX11 hown hK hP 0 rfl rfl 12 (by decide) (hts _ q_fl_X11_169) (fun _ h9 => h9) rfl dX11_number_80 ?_
            refine lv_iconst (v := 1) hx hb dX11_number_83 (by decide) ?_
            refine lv_iadd hx hb dX11_number_84 ?_
            refine lv_topi (fun x_46 ex_46 => ?_)
            have hf := hf x_46 ex_46
            refine z_put (w' := cl_X11 cI cJ a (z.1, z.2.1, z.2.2.1, z.2.2.2.1, z.2.2.2.2.1, z.2.2.2.2.2.1, z.2.2.2.2.2.2.1, z.2.2.2.2.2.2.2.1, z.2.2.2.2.2.2.2.2.1, z.2.2.2.2.2.2.2.2.2.1, z.2.2.2.2.2.2.2.2.2.2.1, z.2.2.2.2.2.2.2.2.2.2.2.1, x_46, z.2.2.2.2.2.2.2.2.2.2.2.2.2)) (ci := 10) (v := .int x_46) (ty := .int) (Cn := RX11) (T := TX11) (N := 17) X inX11 tyX11 tyX11_ok nmX11 hP hD hS 0 rfl rfl 12 (by decide) (hts _ q_fl_X11_169) (fun _ h9 => h9) rfl (tyX11_ok 12 (by decide)) rfl rfl (Nat.le_of_ble_eq_true rfl) rfl dX11_number_85 (fun H locs hP hD hS => ?_)
            refine lv_goto (tgt := 18) hx hb dX11_number_88 (by decide) ?_
            obtain ⟨k_47, hk_47, hf⟩ := hf
            exact (ih k_47 hk_47) _ _ (z.1, z.2.1, z.2.2.1, z.2.2.2.1, z.2.2.2.2.1, z.2.2.2.2.2.1, z.2.2.2.2.2.2.1, z.2.2.2.2.2.2.2.1, z.2.2.2.2.2.2.2.2.1, z.2.2.2.2.2.2.2.2.2.1, z.2.2.2.2.2.2.2.2.2.2.1, z.2.2.2.2.2.2.2.2.2.2.2.1, x_46, z.2.2.2.2.2.2.2.2.2.2.2.2.2) _ _ ls hf hP hD hS (lv_sub hl [1, 2, 3, 4, 0] rfl)
  unfold t_X11_number_e at hf
  refine lv_aload_n hx hb dX11_number_0 rfl (lv_at hl 0 rfl) ?_
  refine va_get (D := (dC, dI)) (ci := 10) (v := .int u.2.2.2.2.2.2.2.2.2.2.2.2.2.1) (C := RX11) (T := TX11) (N := 17) hx hb hts inX11 hown hK hP 0 rfl rfl 13 (by decide) (hts _ q_fl_X11_29) (fun _ h9 => h9) rfl dX11_number_1 ?_
  refine lv_iconst (v := (-1)) hx hb dX11_number_4 (by decide) ?_
  refine lv_icmp_eq (tgt := 10) hx hb dX11_number_5 (by decide) (fun c_1 => ?_) (fun c_1 => ?_)
  · have hf := hf.1 c_1
    refine lv_aload_n hx hb dX11_number_10 rfl (lv_at hl 0 rfl) ?_
    refine z_mVi (Wn := (fun u_3 => cl_X11 cI cJ a u_3)) (As := []) (rest := []) (wr := []) X (c_X11_here l dC dI cI cJ cS a u  _ hf _) zc_X11_here q_ml_X11_175 ⟨rfl, rfl⟩ ⟨Nat.le_of_ble_eq_true rfl, Nat.le_of_ble_eq_true rfl⟩ hP hD hS hA [0, 1, 2, 3, 4, 5, 6, 7, 8] [] rfl (by decide) rfl (by decide) (by decide) [0, 1, 2, 3, 4, 5, 6, 7, 8] (by decide) (fun _ => rfl) 10 rfl rfl hl.1 rfl rfl (Nat.le_of_ble_eq_true rfl) ⟨Nat.zero_le _, Nat.zero_le _⟩ dX11_number_11 (fun r_2 u_3 H locs hf hP hD hS => ?_)
    refine lv_istore_n (lv' := [(3, .int r_2), (0, .ref (a 0)), (1, .int x1), (2, .int x2)]) hx hb dX11_number_14 rfl hl (by decide) rfl (fun ls hl => ?_)
    refine lv_iconst (v := 0) hx hb dX11_number_15 (by decide) ?_
    refine lv_istore (lv' := [(4, .int (0 : Int32)), (3, .int r_2), (0, .ref (a 0)), (1, .int x1), (2, .int x2)]) hx hb dX11_number_16 hl (by decide) rfl (fun ls hl => ?_)
    obtain ⟨k_4, hf⟩ := hf
    exact (LP k_4) _ _ u_3 _ _ ls hf hP hD hS (lv_sub hl [2, 3, 4, 1, 0] rfl)
  · have hf := hf.2 c_1
    refine lv_iconst (v := 0) hx hb dX11_number_8 (by decide) ?_
    exact z_retMi (Wf := (fun z => cl_X11 cI cJ a z)) (u := u) X hf hP hD hS dX11_number_9
def nmT (z : zModel) (x1 x2 y3 y4 : Int32) (Q : Int32 → zModel → Prop) : Prop := ((z.2.2.2.2.2.2.2.2.2.2.2.2.1 = y3 → s_X11_wrong z y3 (fun (u_8 : zModel) => Q y4 u_8)) ∧ (¬ z.2.2.2.2.2.2.2.2.2.2.2.2.1 = y3 → (((3 : Int32) < (z.2.2.2.2.2.2.2.2.2.2.2.2.1 - y3) → s_X11_wrong z y3 (fun (u_11 : zModel) => Q y4 u_11)) ∧ (¬ (3 : Int32) < (z.2.2.2.2.2.2.2.2.2.2.2.2.1 - y3) → ((y4 < x1 → s_X11_wrong z y3 (fun (u_14 : zModel) => Q y4 u_14)) ∧ (¬ y4 < x1 → ((y4 ≤ x2 → Q y4 z) ∧ (¬ y4 ≤ x2 → s_X11_wrong z y3 (fun (u_17 : zModel) => Q y4 u_17)))))))))
def s_X11_number (u : zModel) (x1 x2 : Int32) (Q : Int32 → zModel → Prop) : Prop := ∃ N p : Nat, mTx u N p ∧ (¬ u.2.2.2.2.2.2.2.2.2.2.2.2.2.1 = -1 → Q 0 u) ∧ (u.2.2.2.2.2.2.2.2.2.2.2.2.2.1 = -1 → (nmOk (mTp u) N x1 x2 p = true → Q (nmV (mTp u) N p) (mAt u (nI (nmE (mTp u) N p)))) ∧ (nmOk (mTp u) N x1 x2 p = false → ∀ (x : Int32) (q : Nat), q ≤ N → Q x (mFt (mAt u (nI q)) (nI (nmB (mTp u) N p)))))
theorem st_X11_number {u : zModel} {x1 x2 : Int32} {Q : Int32 → zModel → Prop} (h : s_X11_number u x1 x2 Q) : v_X11_number u x1 x2 Q := by
  obtain ⟨N, p, ⟨hN, hp, eN, ep⟩, h0, h1⟩ := h
  by_cases hf : u.2.2.2.2.2.2.2.2.2.2.2.2.2.1 = -1
  · obtain ⟨hok, hbad⟩ := h1 hf
    have hbN := nmB_le (mTp u) hp
    unfold nmOk at hok hbad
    unfold nmV at hok hbad
    generalize eb : nmB (mTp u) N p = b at hok hbad hbN
    have eE : nmE (mTp u) N p = pRun (isDg (mTp u)) N b := by unfold nmE; rw [eb]
    rw [eE] at hok hbad
    -- the end of the reading, behind j figures
    have tail : ∀ j : Nat, j ≤ 4 → b + j ≤ N → ((pRun (isDg (mTp u)) N b = b + j ∧ j ≤ 4) ∨ (j = 4 ∧ b + 4 < pRun (isDg (mTp u)) N b)) → nmT (mAt u (nI (b + j))) x1 x2 (nI b) (pV (mTp u) b j) Q := by
      intro j hj hjN hcase
      have wr : (decide (1 ≤ pRun (isDg (mTp u)) N b - b ∧ pRun (isDg (mTp u)) N b - b ≤ 3 ∧ inR (pV (mTp u) b (pRun (isDg (mTp u)) N b - b)) x1 x2) = false) → ∀ y : Int32, s_X11_wrong (mAt u (nI (b + j))) (nI b) (fun (u_8 : zModel) => Q y u_8) := fun hb y => ⟨fun q => absurd hf q, fun _ => hbad hb y (b + j) hjN⟩
      show ((nI (b + j) = nI b → _) ∧ (¬ nI (b + j) = nI b → (((3 : Int32) < (nI (b + j) - nI b) → _) ∧ (¬ (3 : Int32) < (nI (b + j) - nI b) → _))))
      have es : nI (b + j) - nI b = nI j := by rw [lN_subI (by omega), show b + j - b = j by omega]
      rw [es]
      refine ⟨fun c => wr (decide_eq_false (fun q => ?_)) _, fun c => ⟨fun c2 => wr (decide_eq_false (fun q => ?_)) _, fun c2 => ?_⟩⟩
      · have := (nI_eq (by omega) (by omega)).mp c
        rcases hcase with ⟨q1, -⟩ | ⟨q1, q2⟩ <;> omega
      · have := (nI_ltI (a := 3) (b := j) (by decide) (by omega)).mp c2
        rcases hcase with ⟨q1, -⟩ | ⟨q1, q2⟩ <;> omega
      · have hj3 : j ≤ 3 := by
          have : ¬ 3 < j := fun q => c2 (nI_lt (a := 3) q (by omega))
          omega
        have hj0 : ¬ j = 0 := fun q => c (by rw [q]; rfl)
        have ee : pRun (isDg (mTp u)) N b - b = j := by
          rcases hcase with ⟨q1, -⟩ | ⟨q1, q2⟩ <;> omega
        have ee2 : pRun (isDg (mTp u)) N b = b + j := by
          rcases hcase with ⟨q1, -⟩ | ⟨q1, q2⟩ <;> omega
        rw [ee] at hok hbad wr
        rw [ee2] at hok
        refine ⟨fun c3 => wr (decide_eq_false (fun q => q.2.2.1 c3)) _, fun c3 => ⟨fun c4 => hok (decide_eq_true ⟨by omega, hj3, c3, fun q => n_nlt q c4⟩), fun c4 => wr (decide_eq_false (fun q => q.2.2.2 (n_nle c4))) _⟩⟩
    refine ⟨fun n y3 y4 z => ∃ j : Nat, j ≤ 4 ∧ b + j ≤ N ∧ n = 4 - j ∧ y3 = nI b ∧ y4 = pV (mTp u) b j ∧ z = mAt u (nI (b + j)) ∧ pRun (isDg (mTp u)) N b = pRun (isDg (mTp u)) N (b + j), ?_, ?_⟩
    · rintro n y3 y4 z ⟨j, hj, hjN, rfl, rfl, rfl, rfl, er⟩
      have stop : ¬ (b + j < N ∧ isDg (mTp u) (b + j) = true) → pRun (isDg (mTp u)) N b = b + j := fun c => er.trans (pRun_no c)
      have es : nI (b + j) - nI b = nI j := by rw [lN_subI (by omega), show b + j - b = j by omega]
      show (u.2.2.2.2.2.2.2.2.2.2.2.1 ≤ nI (b + j) → nmT (mAt u (nI (b + j))) x1 x2 (nI b) (pV (mTp u) b j) Q) ∧ (¬ u.2.2.2.2.2.2.2.2.2.2.2.1 ≤ nI (b + j) → vp_in (nI (b + j)) 400 ∧ s_X11_isIn (mTp u (nI (b + j)).toNatClampNeg) (48 : Int32) (57 : Int32) (fun r_18 : Int32 => ((r_18 = 0 → nmT (mAt u (nI (b + j))) x1 x2 (nI b) (pV (mTp u) b j) Q) ∧ (¬ r_18 = 0 → (((3 : Int32) < (nI (b + j) - nI b) → nmT (mAt u (nI (b + j))) x1 x2 (nI b) (pV (mTp u) b j) Q) ∧ (¬ (3 : Int32) < (nI (b + j) - nI b) → vp_in (nI (b + j)) 400 ∧ ∀ x_45 : Int32, x_45 = ((((10 : Int32) * pV (mTp u) b j) + (mTp u (nI (b + j)).toNatClampNeg)) - (48 : Int32)) → ∀ x_46 : Int32, x_46 = (nI (b + j) + (1 : Int32)) → _))))))
      rw [eN, es, nI_clamp (by omega)]
      have HL : ¬ nI N ≤ nI (b + j) → b + j < N := fun c => by
        have : ¬ N ≤ b + j := fun z => c (nI_le z (by omega))
        omega
      refine ⟨fun c => tail j hj hjN (Or.inl ⟨stop (fun z => ?_), hj⟩), fun c => ⟨?_, isIn_of (fun d => ⟨fun q => absurd q (by decide), fun _ => ⟨fun c2 => ?_, fun c2 => ⟨?_, fun x ex x' ex' => ?_⟩⟩⟩) (fun d => ⟨fun _ => tail j hj hjN (Or.inl ⟨stop (fun z => d (of_decide_eq_true z.2)), hj⟩), fun q => absurd rfl q⟩)⟩⟩
      · have := (nI_leI (by omega) (by omega)).mp c
        omega
      · exact vp_in_nI (have := HL c; by omega) (by decide)
      · have h4 : j = 4 := by
          have := (nI_ltI (a := 3) (b := j) (by decide) (by omega)).mp c2
          omega
        refine tail j hj hjN (Or.inr ⟨h4, ?_⟩)
        rw [er, pRun_yes (HL c) (decide_eq_true d)]
        have := pRun_ge (isDg (mTp u)) N (b + j + 1)
        omega
      · exact vp_in_nI (have := HL c; by omega) (by decide)
      · have hj3 : j ≤ 3 := by
          have : ¬ 3 < j := fun q => c2 (nI_lt (a := 3) q (by omega))
          omega
        have hlt := HL c
        refine ⟨4 - (j + 1), by omega, j + 1, by omega, by omega, rfl, rfl, ex, by rw [ex', nI_1]; rfl, ?_⟩
        rw [er]
        exact pRun_yes (HL c) (decide_eq_true d)
    · refine ⟨fun _ => ⟨N, p, ⟨hN, hp, eN, ep⟩, ?_⟩, fun q => absurd hf q⟩
      rw [show pSk (mTp u) N p = b from eb]
      exact ⟨4 - 0, 0, by omega, hbN, rfl, rfl, rfl, rfl, rfl⟩
  · exact ⟨fun _ _ _ _ => False, fun _ _ _ _ q => q.elim, fun q => absurd q hf, fun _ => h0 hf⟩
theorem c_X11_number (l : Launch) (dC : Nat → ClassId) (dI : Nat → Nat → Nat) (cI cJ cS : ClassId) (a : Nat → Nat) (u : zModel) (x1 : Int32) (x2 : Int32) (Q : Int32 → zModel → Prop) (hf : s_X11_number u x1 x2 Q) : ∀ sz : Nat, Met l yX11_number (Cond.code yX11_number cX11_number 5 (some .int) :: zT) rm_X11_number (zPm dC dI cI cJ cS (cl_X11 cI cJ a u) [.ref (a 0), .int x1, .int x2] sz) (va_Qi Q (zB dC dI cI cJ cS (va_A (cl_X11 cI cJ a u) sz) (fun z => cl_X11 cI cJ a z)) (va_A (cl_X11 cI cJ a u) sz)) 0 0 (va_A (cl_X11 cI cJ a u) sz) := by
  obtain ⟨I18, h18, hf⟩ := st_X11_number hf
  exact L_X11_number l dC dI cI cJ cS a u x1 x2 Q I18 h18 hf

def t_X11_feed_e (u : zModel) (x1 : Int32) (x2 : Int32) (x3 : Int32) (x4 : Int32) (x5 : Int32) (K23 : Int32 → zModel → Prop) (Q : Int32 → zModel → Prop) : Prop := (((u.2.2.2.2.2.2.2.2.2.2.1 + (20 : Int32)) ≤ (400 : Int32) → K23 (0 : Int32) ((0 : Int32), u.2)) ∧ (¬ (u.2.2.2.2.2.2.2.2.2.2.1 + (20 : Int32)) ≤ (400 : Int32) → Q (-1 : Int32) ((0 : Int32), u.2)))
def t_X11_feed_23 (x1 : Int32) (x2 : Int32) (x3 : Int32) (x4 : Int32) (x5 : Int32) (y6 : Int32) (z : zModel) (K23 : Int32 → zModel → Prop) (Q : Int32 → zModel → Prop) : Prop := (((20 : Int32) ≤ y6 → Q z.2.2.2.2.2.2.2.2.2.2.1 z) ∧ (¬ (20 : Int32) ≤ y6 → (((4 : Int32) ≤ y6 → (((8 : Int32) ≤ y6 → (((12 : Int32) ≤ y6 → (((16 : Int32) ≤ y6 → (¬ (4 : Int32) = 0) ∧ vp_in z.2.2.2.2.2.2.2.2.2.2.1 400 ∧ ∀ f_8 : Nat → Int32, f_8 = upd z.2.2.2.2.2.2.2.2.2.1 z.2.2.2.2.2.2.2.2.2.2.1.toNatClampNeg (((x5.toUInt32 >>> (((24 : Int32) - ((8 : Int32) * (y6 - y6 / (4 : Int32) * (4 : Int32)))).toUInt32 &&& Int32.toUInt32 31)).toInt32) &&& (255 : Int32)) → ∀ x_9 : Int32, x_9 = (z.2.2.2.2.2.2.2.2.2.2.1 + (1 : Int32)) → ∀ x_10 : Int32, x_10 = y6 + (1 : Int32) → K23 x_10 (z.1, z.2.1, z.2.2.1, z.2.2.2.1, z.2.2.2.2.1, z.2.2.2.2.2.1, z.2.2.2.2.2.2.1, z.2.2.2.2.2.2.2.1, z.2.2.2.2.2.2.2.2.1, f_8, x_9, z.2.2.2.2.2.2.2.2.2.2.2)) ∧ (¬ (16 : Int32) ≤ y6 → (¬ (4 : Int32) = 0) ∧ vp_in z.2.2.2.2.2.2.2.2.2.2.1 400 ∧ ∀ f_12 : Nat → Int32, f_12 = upd z.2.2.2.2.2.2.2.2.2.1 z.2.2.2.2.2.2.2.2.2.2.1.toNatClampNeg (((x4.toUInt32 >>> (((24 : Int32) - ((8 : Int32) * (y6 - y6 / (4 : Int32) * (4 : Int32)))).toUInt32 &&& Int32.toUInt32 31)).toInt32) &&& (255 : Int32)) → ∀ x_13 : Int32, x_13 = (z.2.2.2.2.2.2.2.2.2.2.1 + (1 : Int32)) → ∀ x_14 : Int32, x_14 = y6 + (1 : Int32) → K23 x_14 (z.1, z.2.1, z.2.2.1, z.2.2.2.1, z.2.2.2.2.1, z.2.2.2.2.2.1, z.2.2.2.2.2.2.1, z.2.2.2.2.2.2.2.1, z.2.2.2.2.2.2.2.2.1, f_12, x_13, z.2.2.2.2.2.2.2.2.2.2.2)))) ∧ (¬ (12 : Int32) ≤ y6 → (¬ (4 : Int32) = 0) ∧ vp_in z.2.2.2.2.2.2.2.2.2.2.1 400 ∧ ∀ f_16 : Nat → Int32, f_16 = upd z.2.2.2.2.2.2.2.2.2.1 z.2.2.2.2.2.2.2.2.2.2.1.toNatClampNeg (((x3.toUInt32 >>> (((24 : Int32) - ((8 : Int32) * (y6 - y6 / (4 : Int32) * (4 : Int32)))).toUInt32 &&& Int32.toUInt32 31)).toInt32) &&& (255 : Int32)) → ∀ x_17 : Int32, x_17 = (z.2.2.2.2.2.2.2.2.2.2.1 + (1 : Int32)) → ∀ x_18 : Int32, x_18 = y6 + (1 : Int32) → K23 x_18 (z.1, z.2.1, z.2.2.1, z.2.2.2.1, z.2.2.2.2.1, z.2.2.2.2.2.1, z.2.2.2.2.2.2.1, z.2.2.2.2.2.2.2.1, z.2.2.2.2.2.2.2.2.1, f_16, x_17, z.2.2.2.2.2.2.2.2.2.2.2)))) ∧ (¬ (8 : Int32) ≤ y6 → (¬ (4 : Int32) = 0) ∧ vp_in z.2.2.2.2.2.2.2.2.2.2.1 400 ∧ ∀ f_20 : Nat → Int32, f_20 = upd z.2.2.2.2.2.2.2.2.2.1 z.2.2.2.2.2.2.2.2.2.2.1.toNatClampNeg (((x2.toUInt32 >>> (((24 : Int32) - ((8 : Int32) * (y6 - y6 / (4 : Int32) * (4 : Int32)))).toUInt32 &&& Int32.toUInt32 31)).toInt32) &&& (255 : Int32)) → ∀ x_21 : Int32, x_21 = (z.2.2.2.2.2.2.2.2.2.2.1 + (1 : Int32)) → ∀ x_22 : Int32, x_22 = y6 + (1 : Int32) → K23 x_22 (z.1, z.2.1, z.2.2.1, z.2.2.2.1, z.2.2.2.2.1, z.2.2.2.2.2.1, z.2.2.2.2.2.2.1, z.2.2.2.2.2.2.2.1, z.2.2.2.2.2.2.2.2.1, f_20, x_21, z.2.2.2.2.2.2.2.2.2.2.2)))) ∧ (¬ (4 : Int32) ≤ y6 → (¬ (4 : Int32) = 0) ∧ vp_in z.2.2.2.2.2.2.2.2.2.2.1 400 ∧ ∀ f_24 : Nat → Int32, f_24 = upd z.2.2.2.2.2.2.2.2.2.1 z.2.2.2.2.2.2.2.2.2.2.1.toNatClampNeg (((x1.toUInt32 >>> (((24 : Int32) - ((8 : Int32) * (y6 - y6 / (4 : Int32) * (4 : Int32)))).toUInt32 &&& Int32.toUInt32 31)).toInt32) &&& (255 : Int32)) → ∀ x_25 : Int32, x_25 = (z.2.2.2.2.2.2.2.2.2.2.1 + (1 : Int32)) → ∀ x_26 : Int32, x_26 = y6 + (1 : Int32) → K23 x_26 (z.1, z.2.1, z.2.2.1, z.2.2.2.1, z.2.2.2.2.1, z.2.2.2.2.2.1, z.2.2.2.2.2.2.1, z.2.2.2.2.2.2.2.1, z.2.2.2.2.2.2.2.2.1, f_24, x_25, z.2.2.2.2.2.2.2.2.2.2.2)))))
theorem zc_X11_feed : zCalV RX11 yX11_feed cX11_feed 8 (some .int) 5 := ⟨q_im_X11_feed, q_se_X11_feed, q_in_X11, q_cd_X11_feed, ⟨by decide, by decide, by decide +kernel⟩, rfl⟩
abbrev rm_X11_feed : Room := { frames := 0, cells := 0, slots := 0, locals := 0 }
def v_X11_feed (u : zModel) (x1 : Int32) (x2 : Int32) (x3 : Int32) (x4 : Int32) (x5 : Int32) (Q : Int32 → zModel → Prop) : Prop := ∃ I23 : Nat → Int32 → zModel → Prop, (∀ (n : Nat) (y6 : Int32) (z : zModel), I23 n y6 z → t_X11_feed_23 x1 x2 x3 x4 x5 y6 z (fun q0 q1 => ∃ k : Nat, k < n ∧ I23 k q0 q1) Q) ∧ t_X11_feed_e u x1 x2 x3 x4 x5 (fun q0 q1 => ∃ k : Nat, I23 k q0 q1) Q
set_option maxHeartbeats 4000000 in
set_option maxRecDepth 100000 in
theorem L_X11_feed (l : Launch) (dC : Nat → ClassId) (dI : Nat → Nat → Nat) (cI cJ cS : ClassId) (a : Nat → Nat) (u : zModel) (x1 : Int32) (x2 : Int32) (x3 : Int32) (x4 : Int32) (x5 : Int32) (Q : Int32 → zModel → Prop) (I23 : Nat → Int32 → zModel → Prop) (h23 : ∀ (n : Nat) (y6 : Int32) (z : zModel), I23 n y6 z → t_X11_feed_23 x1 x2 x3 x4 x5 y6 z (fun q0 q1 => ∃ k : Nat, k < n ∧ I23 k q0 q1) Q) (hf : t_X11_feed_e u x1 x2 x3 x4 x5 (fun q0 q1 => ∃ k : Nat, I23 k q0 q1) Q) : ∀ sz : Nat, Met l yX11_feed (Cond.code yX11_feed cX11_feed 8 (some .int) :: zT) rm_X11_feed (zPm dC dI cI cJ cS (cl_X11 cI cJ a u) [.ref (a 0), .int x1, .int x2, .int x3, .int x4, .int x5] sz) (va_Qi Q (zB dC dI cI cJ cS (va_A (cl_X11 cI cJ a u) sz) (fun z => cl_X11 cI cJ a z)) (va_A (cl_X11 cI cJ a u) sz)) 0 0 (va_A (cl_X11 cI cJ a u) sz) := by
  intro sz
  refine z_enterM (Qc := fun A => va_Qi Q (zB dC dI cI cJ cS A (fun z => cl_X11 cI cJ a z)) A) (cc := cX11_feed) (maxL := 8) (ret := (some .int)) (by decide) (Nat.le_of_ble_eq_true rfl) ?_
  intro p e s m below meth c ls A X hP hD hS hA hl
  obtain ⟨⟨hx, hb, hml, hown, hts⟩, hr, hlk, hK⟩ := id X
  have hl : lv_has ls 8 [(0, .ref (a 0)), (1, .int x1), (2, .int x2), (3, .int x3), (4, .int x4), (5, .int x5)] := hl
  have LP : ∀ n : Nat, (∀ (y6 : Int32) (z : zModel) (H : Heap) (locs : List Loc) (ls : Array Slot), I23 n y6 z → va_P (dC, dI) vwCl (cl_X11 cI cJ a z) H → va_D A (cl_X11 cI cJ a z) → va_S A s.heap H locs → lv_has ls 8 [(0, .ref (a 0)), (1, .int x1), (2, .int x2), (3, .int x3), (4, .int x4), (5, .int x5), (6, .int y6)] → W p l e rm_X11_feed s m [.ref (a 0), .int x1, .int x2, .int x3, .int x4, .int x5].toArray below meth c H locs 0 0 (MQ below (va_Qi Q (zB dC dI cI cJ cS A (fun z => cl_X11 cI cJ a z)) A) [.ref (a 0), .int x1, .int x2, .int x3, .int x4, .int x5].toArray s 0 0 A) (F0 m 23 ls [])) := by
    intro n
    induction n using Nat.strongRecOn with
    | _ n ih =>
      intro y6 z H locs ls hI hP hD hS hl
      have hf := h23 n y6 z hI
      unfold t_X11_feed_23 at hf
      refine lv_iload hx hb dX11_feed_23 (lv_at hl 6 rfl) ?_
      refine lv_bipush (v := 20) hx hb dX11_feed_25 (by decide) ?_
      refine lv_icmp_ge (tgt := 120) hx hb dX11_feed_27 (by decide) (fun c_3 => ?_) (fun c_3 => ?_)
      · have hf := hf.1 c_3
        refine lv_aload_n hx hb dX11_feed_120 rfl (lv_at hl 0 rfl) ?_
        refine va_get (D := (dC, dI)) (ci := 10) (v := .int z.2.2.2.2.2.2.2.2.2.2.1) (C := RX11) (T := TX11) (N := 17) hx hb hts inX11 hown hK hP 0 rfl rfl 10 (by decide) (hts _ q_fl_X11_162) (fun _ h9 => h9) rfl dX11_feed_121 ?_
        exact z_retMi (Wf := (fun z => cl_X11 cI cJ a z)) (u := z) X hf hP hD hS dX11_feed_124
      · have hf := hf.2 c_3
        refine lv_iload hx hb dX11_feed_30 (lv_at hl 6 rfl) ?_
        refine lv_iconst (v := 4) hx hb dX11_feed_32 (by decide) ?_
        refine lv_icmp_ge (tgt := 40) hx hb dX11_feed_33 (by decide) (fun c_4 => ?_) (fun c_4 => ?_)
        · have hf := hf.1 c_4
          refine lv_iload hx hb dX11_feed_40 (lv_at hl 6 rfl) ?_
          refine lv_bipush (v := 8) hx hb dX11_feed_42 (by decide) ?_
          refine lv_icmp_ge (tgt := 51) hx hb dX11_feed_44 (by decide) (fun c_5 => ?_) (fun c_5 => ?_)
          · have hf := hf.1 c_5
            refine lv_iload hx hb dX11_feed_51 (lv_at hl 6 rfl) ?_
            refine lv_bipush (v := 12) hx hb dX11_feed_53 (by decide) ?_
            refine lv_icmp_ge (tgt := 62) hx hb dX11_feed_55 (by decide) (fun c_6 => ?_) (fun c_6 => ?_)
            · have hf := hf.1 c_6
              refine lv_iload hx hb dX11_feed_62 (lv_at hl 6 rfl) ?_
              refine lv_bipush (v := 16) hx hb dX11_feed_64 (by decide) ?_
              refine lv_icmp_ge (tgt := 74) hx hb dX11_feed_66 (by decide) (fun c_7 => ?_) (fun c_7 => ?_)
              · have hf := hf.1 c_7
                refine lv_iload hx hb dX11_feed_74 (lv_at hl 5 rfl) ?_
                refine lv_istore (lv' := [(7, .int x5), (0, .ref (a 0)), (1, .int x1), (2, .int x2), (3, .int x3), (4, .int x4), (5, .int x5), (6, .int y6)]) hx hb dX11_feed_76 hl (by decide) rfl (fun ls hl => ?_)
                refine lv_aload_n hx hb dX11_feed_78 rfl (lv_at hl 1 rfl) ?_
                refine va_get (D := (dC, dI)) (ci := 10) (v := .ref (a 6)) (C := RX11) (T := TX11) (N := 17) hx hb hts inX11 hown hK hP 0 rfl rfl 9 (by decide) (hts _ q_fl_X11_26) (fun _ h9 => h9) rfl dX11_feed_79 ?_
                refine lv_aload_n hx hb dX11_feed_82 rfl (lv_at hl 1 rfl) ?_
                refine va_get (D := (dC, dI)) (ci := 10) (v := .int z.2.2.2.2.2.2.2.2.2.2.1) (C := RX11) (T := TX11) (N := 17) hx hb hts inX11 hown hK hP 0 rfl rfl 10 (by decide) (hts _ q_fl_X11_162) (fun _ h9 => h9) rfl dX11_feed_83 ?_
                refine lv_iload hx hb dX11_feed_86 (lv_at hl 0 rfl) ?_
                refine lv_bipush (v := 24) hx hb dX11_feed_88 (by decide) ?_
                refine lv_bipush (v := 8) hx hb dX11_feed_90 (by decide) ?_
                refine lv_iload hx hb dX11_feed_92 (lv_at hl 7 rfl) ?_
                refine lv_iconst (v := 4) hx hb dX11_feed_94 (by decide) ?_
                obtain ⟨hg, hf⟩ := hf
                refine lv_irem hx hb dX11_feed_95 hg ?_
                refine lv_imul hx hb dX11_feed_96 ?_
                refine lv_isub hx hb dX11_feed_97 ?_
                refine lv_iushr hx hb dX11_feed_98 rfl ?_
                refine lv_sipush (v := 255) hx hb dX11_feed_99 (by decide) ?_
                refine lv_iand hx hb dX11_feed_102 ?_
                obtain ⟨hg, hf⟩ := hf
                refine z_iast (Wn := fun f_8 => cl_X11 cI cJ a (z.1, z.2.1, z.2.2.1, z.2.2.2.1, z.2.2.2.2.1, z.2.2.2.2.2.1, z.2.2.2.2.2.2.1, z.2.2.2.2.2.2.2.1, z.2.2.2.2.2.2.2.2.1, f_8, z.2.2.2.2.2.2.2.2.2.2)) X hP hD hS 6 0 rfl rfl hg (fun _ => rfl) dX11_feed_103 (fun f_8 H locs ef_8 hP hD hS => ?_)
                have hf := hf f_8 ef_8
                refine lv_aload_n hx hb dX11_feed_104 rfl (lv_at hl 1 rfl) ?_
                refine lv_dup hx hb dX11_feed_105 rfl ?_
                refine va_get (D := (dC, dI)) (ci := 10) (v := .int z.2.2.2.2.2.2.2.2.2.2.1) (C := RX11) (T := TX11) (N := 17) hx hb hts inX11 hown hK hP 0 rfl rfl 10 (by decide) (hts _ q_fl_X11_162) (fun _ h9 => h9) rfl dX11_feed_106 ?_
                refine lv_iconst (v := 1) hx hb dX11_feed_109 (by decide) ?_
                refine lv_iadd hx hb dX11_feed_110 ?_
                refine lv_topi (fun x_9 ex_9 => ?_)
                have hf := hf x_9 ex_9
                refine z_put (w' := cl_X11 cI cJ a (z.1, z.2.1, z.2.2.1, z.2.2.2.1, z.2.2.2.2.1, z.2.2.2.2.2.1, z.2.2.2.2.2.2.1, z.2.2.2.2.2.2.2.1, z.2.2.2.2.2.2.2.2.1, f_8, x_9, z.2.2.2.2.2.2.2.2.2.2.2)) (ci := 10) (v := .int x_9) (ty := .int) (Cn := RX11) (T := TX11) (N := 17) X inX11 tyX11 tyX11_ok nmX11 hP hD hS 0 rfl rfl 10 (by decide) (hts _ q_fl_X11_162) (fun _ h9 => h9) rfl (tyX11_ok 10 (by decide)) rfl rfl (Nat.le_of_ble_eq_true rfl) rfl dX11_feed_111 (fun H locs hP hD hS => ?_)
                obtain ⟨x_10, ex_10⟩ : ∃ y : Int32, y = y6 + (1 : Int32) := ⟨_, rfl⟩
                have hf := hf x_10 ex_10
                refine lv_iinc (v := x_10) (lv' := [(6, .int x_10), (7, .int x5), (0, .ref (a 0)), (1, .int x1), (2, .int x2), (3, .int x3), (4, .int x4), (5, .int x5)]) hx hb dX11_feed_114 hl (k := 7) rfl (by rw [ex_10]; rfl) (by decide) rfl (fun ls hl => ?_)
                refine lv_goto (tgt := 23) hx hb dX11_feed_117 (by decide) ?_
                obtain ⟨k_11, hk_11, hf⟩ := hf
                exact (ih k_11 hk_11) _ (z.1, z.2.1, z.2.2.1, z.2.2.2.1, z.2.2.2.2.1, z.2.2.2.2.2.1, z.2.2.2.2.2.2.1, z.2.2.2.2.2.2.2.1, z.2.2.2.2.2.2.2.2.1, f_8, x_9, z.2.2.2.2.2.2.2.2.2.2.2) _ _ ls hf hP hD hS (lv_sub hl [2, 3, 4, 5, 6, 7, 0] rfl)
              · have hf := hf.2 c_7
                refine lv_iload hx hb dX11_feed_69 (lv_at hl 4 rfl) ?_
                refine lv_goto (tgt := 76) hx hb dX11_feed_71 (by decide) ?_
                refine lv_istore (lv' := [(7, .int x4), (0, .ref (a 0)), (1, .int x1), (2, .int x2), (3, .int x3), (4, .int x4), (5, .int x5), (6, .int y6)]) hx hb dX11_feed_76 hl (by decide) rfl (fun ls hl => ?_)
                refine lv_aload_n hx hb dX11_feed_78 rfl (lv_at hl 1 rfl) ?_
                refine va_get (D := (dC, dI)) (ci := 10) (v := .ref (a 6)) (C := RX11) (T := TX11) (N := 17) hx hb hts inX11 hown hK hP 0 rfl rfl 9 (by decide) (hts _ q_fl_X11_26) (fun _ h9 => h9) rfl dX11_feed_79 ?_
                refine lv_aload_n hx hb dX11_feed_82 rfl (lv_at hl 1 rfl) ?_
                refine va_get (D := (dC, dI)) (ci := 10) (v := .int z.2.2.2.2.2.2.2.2.2.2.1) (C := RX11) (T := TX11) (N := 17) hx hb hts inX11 hown hK hP 0 rfl rfl 10 (by decide) (hts _ q_fl_X11_162) (fun _ h9 => h9) rfl dX11_feed_83 ?_
                refine lv_iload hx hb dX11_feed_86 (lv_at hl 0 rfl) ?_
                refine lv_bipush (v := 24) hx hb dX11_feed_88 (by decide) ?_
                refine lv_bipush (v := 8) hx hb dX11_feed_90 (by decide) ?_
                refine lv_iload hx hb dX11_feed_92 (lv_at hl 7 rfl) ?_
                refine lv_iconst (v := 4) hx hb dX11_feed_94 (by decide) ?_
                obtain ⟨hg, hf⟩ := hf
                refine lv_irem hx hb dX11_feed_95 hg ?_
                refine lv_imul hx hb dX11_feed_96 ?_
                refine lv_isub hx hb dX11_feed_97 ?_
                refine lv_iushr hx hb dX11_feed_98 rfl ?_
                refine lv_sipush (v := 255) hx hb dX11_feed_99 (by decide) ?_
                refine lv_iand hx hb dX11_feed_102 ?_
                obtain ⟨hg, hf⟩ := hf
                refine z_iast (Wn := fun f_12 => cl_X11 cI cJ a (z.1, z.2.1, z.2.2.1, z.2.2.2.1, z.2.2.2.2.1, z.2.2.2.2.2.1, z.2.2.2.2.2.2.1, z.2.2.2.2.2.2.2.1, z.2.2.2.2.2.2.2.2.1, f_12, z.2.2.2.2.2.2.2.2.2.2)) X hP hD hS 6 0 rfl rfl hg (fun _ => rfl) dX11_feed_103 (fun f_12 H locs ef_12 hP hD hS => ?_)
                have hf := hf f_12 ef_12
                refine lv_aload_n hx hb dX11_feed_104 rfl (lv_at hl 1 rfl) ?_
                refine lv_dup hx hb dX11_feed_105 rfl ?_
                refine va_get (D := (dC, dI)) (ci := 10) (v := .int z.2.2.2.2.2.2.2.2.2.2.1) (C := RX11) (T := TX11) (N := 17) hx hb hts inX11 hown hK hP 0 rfl rfl 10 (by decide) (hts _ q_fl_X11_162) (fun _ h9 => h9) rfl dX11_feed_106 ?_
                refine lv_iconst (v := 1) hx hb dX11_feed_109 (by decide) ?_
                refine lv_iadd hx hb dX11_feed_110 ?_
                refine lv_topi (fun x_13 ex_13 => ?_)
                have hf := hf x_13 ex_13
                refine z_put (w' := cl_X11 cI cJ a (z.1, z.2.1, z.2.2.1, z.2.2.2.1, z.2.2.2.2.1, z.2.2.2.2.2.1, z.2.2.2.2.2.2.1, z.2.2.2.2.2.2.2.1, z.2.2.2.2.2.2.2.2.1, f_12, x_13, z.2.2.2.2.2.2.2.2.2.2.2)) (ci := 10) (v := .int x_13) (ty := .int) (Cn := RX11) (T := TX11) (N := 17) X inX11 tyX11 tyX11_ok nmX11 hP hD hS 0 rfl rfl 10 (by decide) (hts _ q_fl_X11_162) (fun _ h9 => h9) rfl (tyX11_ok 10 (by decide)) rfl rfl (Nat.le_of_ble_eq_true rfl) rfl dX11_feed_111 (fun H locs hP hD hS => ?_)
                obtain ⟨x_14, ex_14⟩ : ∃ y : Int32, y = y6 + (1 : Int32) := ⟨_, rfl⟩
                have hf := hf x_14 ex_14
                refine lv_iinc (v := x_14) (lv' := [(6, .int x_14), (7, .int x4), (0, .ref (a 0)), (1, .int x1), (2, .int x2), (3, .int x3), (4, .int x4), (5, .int x5)]) hx hb dX11_feed_114 hl (k := 7) rfl (by rw [ex_14]; rfl) (by decide) rfl (fun ls hl => ?_)
                refine lv_goto (tgt := 23) hx hb dX11_feed_117 (by decide) ?_
                obtain ⟨k_15, hk_15, hf⟩ := hf
                exact (ih k_15 hk_15) _ (z.1, z.2.1, z.2.2.1, z.2.2.2.1, z.2.2.2.2.1, z.2.2.2.2.2.1, z.2.2.2.2.2.2.1, z.2.2.2.2.2.2.2.1, z.2.2.2.2.2.2.2.2.1, f_12, x_13, z.2.2.2.2.2.2.2.2.2.2.2) _ _ ls hf hP hD hS (lv_sub hl [2, 3, 4, 5, 6, 7, 0] rfl)
            · have hf := hf.2 c_6
              refine lv_iload_n hx hb dX11_feed_58 rfl (lv_at hl 3 rfl) ?_
              refine lv_goto (tgt := 76) hx hb dX11_feed_59 (by decide) ?_
              refine lv_istore (lv' := [(7, .int x3), (0, .ref (a 0)), (1, .int x1), (2, .int x2), (3, .int x3), (4, .int x4), (5, .int x5), (6, .int y6)]) hx hb dX11_feed_76 hl (by decide) rfl (fun ls hl => ?_)
              refine lv_aload_n hx hb dX11_feed_78 rfl (lv_at hl 1 rfl) ?_
              refine va_get (D := (dC, dI)) (ci := 10) (v := .ref (a 6)) (C := RX11) (T := TX11) (N := 17) hx hb hts inX11 hown hK hP 0 rfl rfl 9 (by decide) (hts _ q_fl_X11_26) (fun _ h9 => h9) rfl dX11_feed_79 ?_
              refine lv_aload_n hx hb dX11_feed_82 rfl (lv_at hl 1 rfl) ?_
              refine va_get (D := (dC, dI)) (ci := 10) (v := .int z.2.2.2.2.2.2.2.2.2.2.1) (C := RX11) (T := TX11) (N := 17) hx hb hts inX11 hown hK hP 0 rfl rfl 10 (by decide) (hts _ q_fl_X11_162) (fun _ h9 => h9) rfl dX11_feed_83 ?_
              refine lv_iload hx hb dX11_feed_86 (lv_at hl 0 rfl) ?_
              refine lv_bipush (v := 24) hx hb dX11_feed_88 (by decide) ?_
              refine lv_bipush (v := 8) hx hb dX11_feed_90 (by decide) ?_
              refine lv_iload hx hb dX11_feed_92 (lv_at hl 7 rfl) ?_
              refine lv_iconst (v := 4) hx hb dX11_feed_94 (by decide) ?_
              obtain ⟨hg, hf⟩ := hf
              refine lv_irem hx hb dX11_feed_95 hg ?_
              refine lv_imul hx hb dX11_feed_96 ?_
              refine lv_isub hx hb dX11_feed_97 ?_
              refine lv_iushr hx hb dX11_feed_98 rfl ?_
              refine lv_sipush (v := 255) hx hb dX11_feed_99 (by decide) ?_
              refine lv_iand hx hb dX11_feed_102 ?_
              obtain ⟨hg, hf⟩ := hf
              refine z_iast (Wn := fun f_16 => cl_X11 cI cJ a (z.1, z.2.1, z.2.2.1, z.2.2.2.1, z.2.2.2.2.1, z.2.2.2.2.2.1, z.2.2.2.2.2.2.1, z.2.2.2.2.2.2.2.1, z.2.2.2.2.2.2.2.2.1, f_16, z.2.2.2.2.2.2.2.2.2.2)) X hP hD hS 6 0 rfl rfl hg (fun _ => rfl) dX11_feed_103 (fun f_16 H locs ef_16 hP hD hS => ?_)
              have hf := hf f_16 ef_16
              refine lv_aload_n hx hb dX11_feed_104 rfl (lv_at hl 1 rfl) ?_
              refine lv_dup hx hb dX11_feed_105 rfl ?_
              refine va_get (D := (dC, dI)) (ci := 10) (v := .int z.2.2.2.2.2.2.2.2.2.2.1) (C := RX11) (T := TX11) (N := 17) hx hb hts inX11 hown hK hP 0 rfl rfl 10 (by decide) (hts _ q_fl_X11_162) (fun _ h9 => h9) rfl dX11_feed_106 ?_
              refine lv_iconst (v := 1) hx hb dX11_feed_109 (by decide) ?_
              refine lv_iadd hx hb dX11_feed_110 ?_
              refine lv_topi (fun x_17 ex_17 => ?_)
              have hf := hf x_17 ex_17
              refine z_put (w' := cl_X11 cI cJ a (z.1, z.2.1, z.2.2.1, z.2.2.2.1, z.2.2.2.2.1, z.2.2.2.2.2.1, z.2.2.2.2.2.2.1, z.2.2.2.2.2.2.2.1, z.2.2.2.2.2.2.2.2.1, f_16, x_17, z.2.2.2.2.2.2.2.2.2.2.2)) (ci := 10) (v := .int x_17) (ty := .int) (Cn := RX11) (T := TX11) (N := 17) X inX11 tyX11 tyX11_ok nmX11 hP hD hS 0 rfl rfl 10 (by decide) (hts _ q_fl_X11_162) (fun _ h9 => h9) rfl (tyX11_ok 10 (by decide)) rfl rfl (Nat.le_of_ble_eq_true rfl) rfl dX11_feed_111 (fun H locs hP hD hS => ?_)
              obtain ⟨x_18, ex_18⟩ : ∃ y : Int32, y = y6 + (1 : Int32) := ⟨_, rfl⟩
              have hf := hf x_18 ex_18
              refine lv_iinc (v := x_18) (lv' := [(6, .int x_18), (7, .int x3), (0, .ref (a 0)), (1, .int x1), (2, .int x2), (3, .int x3), (4, .int x4), (5, .int x5)]) hx hb dX11_feed_114 hl (k := 7) rfl (by rw [ex_18]; rfl) (by decide) rfl (fun ls hl => ?_)
              refine lv_goto (tgt := 23) hx hb dX11_feed_117 (by decide) ?_
              obtain ⟨k_19, hk_19, hf⟩ := hf
              exact (ih k_19 hk_19) _ (z.1, z.2.1, z.2.2.1, z.2.2.2.1, z.2.2.2.2.1, z.2.2.2.2.2.1, z.2.2.2.2.2.2.1, z.2.2.2.2.2.2.2.1, z.2.2.2.2.2.2.2.2.1, f_16, x_17, z.2.2.2.2.2.2.2.2.2.2.2) _ _ ls hf hP hD hS (lv_sub hl [2, 3, 4, 5, 6, 7, 0] rfl)
          · have hf := hf.2 c_5
            refine lv_iload_n hx hb dX11_feed_47 rfl (lv_at hl 2 rfl) ?_
            refine lv_goto (tgt := 76) hx hb dX11_feed_48 (by decide) ?_
            refine lv_istore (lv' := [(7, .int x2), (0, .ref (a 0)), (1, .int x1), (2, .int x2), (3, .int x3), (4, .int x4), (5, .int x5), (6, .int y6)]) hx hb dX11_feed_76 hl (by decide) rfl (fun ls hl => ?_)
            refine lv_aload_n hx hb dX11_feed_78 rfl (lv_at hl 1 rfl) ?_
            refine va_get (D := (dC, dI)) (ci := 10) (v := .ref (a 6)) (C := RX11) (T := TX11) (N := 17) hx hb hts inX11 hown hK hP 0 rfl rfl 9 (by decide) (hts _ q_fl_X11_26) (fun _ h9 => h9) rfl dX11_feed_79 ?_
            refine lv_aload_n hx hb dX11_feed_82 rfl (lv_at hl 1 rfl) ?_
            refine va_get (D := (dC, dI)) (ci := 10) (v := .int z.2.2.2.2.2.2.2.2.2.2.1) (C := RX11) (T := TX11) (N := 17) hx hb hts inX11 hown hK hP 0 rfl rfl 10 (by decide) (hts _ q_fl_X11_162) (fun _ h9 => h9) rfl dX11_feed_83 ?_
            refine lv_iload hx hb dX11_feed_86 (lv_at hl 0 rfl) ?_
            refine lv_bipush (v := 24) hx hb dX11_feed_88 (by decide) ?_
            refine lv_bipush (v := 8) hx hb dX11_feed_90 (by decide) ?_
            refine lv_iload hx hb dX11_feed_92 (lv_at hl 7 rfl) ?_
            refine lv_iconst (v := 4) hx hb dX11_feed_94 (by decide) ?_
            obtain ⟨hg, hf⟩ := hf
            refine lv_irem hx hb dX11_feed_95 hg ?_
            refine lv_imul hx hb dX11_feed_96 ?_
            refine lv_isub hx hb dX11_feed_97 ?_
            refine lv_iushr hx hb dX11_feed_98 rfl ?_
            refine lv_sipush (v := 255) hx hb dX11_feed_99 (by decide) ?_
            refine lv_iand hx hb dX11_feed_102 ?_
            obtain ⟨hg, hf⟩ := hf
            refine z_iast (Wn := fun f_20 => cl_X11 cI cJ a (z.1, z.2.1, z.2.2.1, z.2.2.2.1, z.2.2.2.2.1, z.2.2.2.2.2.1, z.2.2.2.2.2.2.1, z.2.2.2.2.2.2.2.1, z.2.2.2.2.2.2.2.2.1, f_20, z.2.2.2.2.2.2.2.2.2.2)) X hP hD hS 6 0 rfl rfl hg (fun _ => rfl) dX11_feed_103 (fun f_20 H locs ef_20 hP hD hS => ?_)
            have hf := hf f_20 ef_20
            refine lv_aload_n hx hb dX11_feed_104 rfl (lv_at hl 1 rfl) ?_
            refine lv_dup hx hb dX11_feed_105 rfl ?_
            refine va_get (D := (dC, dI)) (ci := 10) (v := .int z.2.2.2.2.2.2.2.2.2.2.1) (C := RX11) (T := TX11) (N := 17) hx hb hts inX11 hown hK hP 0 rfl rfl 10 (by decide) (hts _ q_fl_X11_162) (fun _ h9 => h9) rfl dX11_feed_106 ?_
            refine lv_iconst (v := 1) hx hb dX11_feed_109 (by decide) ?_
            refine lv_iadd hx hb dX11_feed_110 ?_
            refine lv_topi (fun x_21 ex_21 => ?_)
            have hf := hf x_21 ex_21
            refine z_put (w' := cl_X11 cI cJ a (z.1, z.2.1, z.2.2.1, z.2.2.2.1, z.2.2.2.2.1, z.2.2.2.2.2.1, z.2.2.2.2.2.2.1, z.2.2.2.2.2.2.2.1, z.2.2.2.2.2.2.2.2.1, f_20, x_21, z.2.2.2.2.2.2.2.2.2.2.2)) (ci := 10) (v := .int x_21) (ty := .int) (Cn := RX11) (T := TX11) (N := 17) X inX11 tyX11 tyX11_ok nmX11 hP hD hS 0 rfl rfl 10 (by decide) (hts _ q_fl_X11_162) (fun _ h9 => h9) rfl (tyX11_ok 10 (by decide)) rfl rfl (Nat.le_of_ble_eq_true rfl) rfl dX11_feed_111 (fun H locs hP hD hS => ?_)
            obtain ⟨x_22, ex_22⟩ : ∃ y : Int32, y = y6 + (1 : Int32) := ⟨_, rfl⟩
            have hf := hf x_22 ex_22
            refine lv_iinc (v := x_22) (lv' := [(6, .int x_22), (7, .int x2), (0, .ref (a 0)), (1, .int x1), (2, .int x2), (3, .int x3), (4, .int x4), (5, .int x5)]) hx hb dX11_feed_114 hl (k := 7) rfl (by rw [ex_22]; rfl) (by decide) rfl (fun ls hl => ?_)
            refine lv_goto (tgt := 23) hx hb dX11_feed_117 (by decide) ?_
            obtain ⟨k_23, hk_23, hf⟩ := hf
            exact (ih k_23 hk_23) _ (z.1, z.2.1, z.2.2.1, z.2.2.2.1, z.2.2.2.2.1, z.2.2.2.2.2.1, z.2.2.2.2.2.2.1, z.2.2.2.2.2.2.2.1, z.2.2.2.2.2.2.2.2.1, f_20, x_21, z.2.2.2.2.2.2.2.2.2.2.2) _ _ ls hf hP hD hS (lv_sub hl [2, 3, 4, 5, 6, 7, 0] rfl)
        · have hf := hf.2 c_4
          refine lv_iload_n hx hb dX11_feed_36 rfl (lv_at hl 1 rfl) ?_
          refine lv_goto (tgt := 76) hx hb dX11_feed_37 (by decide) ?_
          refine lv_istore (lv' := [(7, .int x1), (0, .ref (a 0)), (1, .int x1), (2, .int x2), (3, .int x3), (4, .int x4), (5, .int x5), (6, .int y6)]) hx hb dX11_feed_76 hl (by decide) rfl (fun ls hl => ?_)
          refine lv_aload_n hx hb dX11_feed_78 rfl (lv_at hl 1 rfl) ?_
          refine va_get (D := (dC, dI)) (ci := 10) (v := .ref (a 6)) (C := RX11) (T := TX11) (N := 17) hx hb hts inX11 hown hK hP 0 rfl rfl 9 (by decide) (hts _ q_fl_X11_26) (fun _ h9 => h9) rfl dX11_feed_79 ?_
          refine lv_aload_n hx hb dX11_feed_82 rfl (lv_at hl 1 rfl) ?_
          refine va_get (D := (dC, dI)) (ci := 10) (v := .int z.2.2.2.2.2.2.2.2.2.2.1) (C := RX11) (T := TX11) (N := 17) hx hb hts inX11 hown hK hP 0 rfl rfl 10 (by decide) (hts _ q_fl_X11_162) (fun _ h9 => h9) rfl dX11_feed_83 ?_
          refine lv_iload hx hb dX11_feed_86 (lv_at hl 0 rfl) ?_
          refine lv_bipush (v := 24) hx hb dX11_feed_88 (by decide) ?_
          refine lv_bipush (v := 8) hx hb dX11_feed_90 (by decide) ?_
          refine lv_iload hx hb dX11_feed_92 (lv_at hl 7 rfl) ?_
          refine lv_iconst (v := 4) hx hb dX11_feed_94 (by decide) ?_
          obtain ⟨hg, hf⟩ := hf
          refine lv_irem hx hb dX11_feed_95 hg ?_
          refine lv_imul hx hb dX11_feed_96 ?_
          refine lv_isub hx hb dX11_feed_97 ?_
          refine lv_iushr hx hb dX11_feed_98 rfl ?_
          refine lv_sipush (v := 255) hx hb dX11_feed_99 (by decide) ?_
          refine lv_iand hx hb dX11_feed_102 ?_
          obtain ⟨hg, hf⟩ := hf
          refine z_iast (Wn := fun f_24 => cl_X11 cI cJ a (z.1, z.2.1, z.2.2.1, z.2.2.2.1, z.2.2.2.2.1, z.2.2.2.2.2.1, z.2.2.2.2.2.2.1, z.2.2.2.2.2.2.2.1, z.2.2.2.2.2.2.2.2.1, f_24, z.2.2.2.2.2.2.2.2.2.2)) X hP hD hS 6 0 rfl rfl hg (fun _ => rfl) dX11_feed_103 (fun f_24 H locs ef_24 hP hD hS => ?_)
          have hf := hf f_24 ef_24
          refine lv_aload_n hx hb dX11_feed_104 rfl (lv_at hl 1 rfl) ?_
          refine lv_dup hx hb dX11_feed_105 rfl ?_
          refine va_get (D := (dC, dI)) (ci := 10) (v := .int z.2.2.2.2.2.2.2.2.2.2.1) (C := RX11) (T := TX11) (N := 17) hx hb hts inX11 hown hK hP 0 rfl rfl 10 (by decide) (hts _ q_fl_X11_162) (fun _ h9 => h9) rfl dX11_feed_106 ?_
          refine lv_iconst (v := 1) hx hb dX11_feed_109 (by decide) ?_
          refine lv_iadd hx hb dX11_feed_110 ?_
          refine lv_topi (fun x_25 ex_25 => ?_)
          have hf := hf x_25 ex_25
          refine z_put (w' := cl_X11 cI cJ a (z.1, z.2.1, z.2.2.1, z.2.2.2.1, z.2.2.2.2.1, z.2.2.2.2.2.1, z.2.2.2.2.2.2.1, z.2.2.2.2.2.2.2.1, z.2.2.2.2.2.2.2.2.1, f_24, x_25, z.2.2.2.2.2.2.2.2.2.2.2)) (ci := 10) (v := .int x_25) (ty := .int) (Cn := RX11) (T := TX11) (N := 17) X inX11 tyX11 tyX11_ok nmX11 hP hD hS 0 rfl rfl 10 (by decide) (hts _ q_fl_X11_162) (fun _ h9 => h9) rfl (tyX11_ok 10 (by decide)) rfl rfl (Nat.le_of_ble_eq_true rfl) rfl dX11_feed_111 (fun H locs hP hD hS => ?_)
          obtain ⟨x_26, ex_26⟩ : ∃ y : Int32, y = y6 + (1 : Int32) := ⟨_, rfl⟩
          have hf := hf x_26 ex_26
          refine lv_iinc (v := x_26) (lv' := [(6, .int x_26), (7, .int x1), (0, .ref (a 0)), (1, .int x1), (2, .int x2), (3, .int x3), (4, .int x4), (5, .int x5)]) hx hb dX11_feed_114 hl (k := 7) rfl (by rw [ex_26]; rfl) (by decide) rfl (fun ls hl => ?_)
          refine lv_goto (tgt := 23) hx hb dX11_feed_117 (by decide) ?_
          obtain ⟨k_27, hk_27, hf⟩ := hf
          exact (ih k_27 hk_27) _ (z.1, z.2.1, z.2.2.1, z.2.2.2.1, z.2.2.2.2.1, z.2.2.2.2.2.1, z.2.2.2.2.2.2.1, z.2.2.2.2.2.2.2.1, z.2.2.2.2.2.2.2.2.1, f_24, x_25, z.2.2.2.2.2.2.2.2.2.2.2) _ _ ls hf hP hD hS (lv_sub hl [2, 3, 4, 5, 6, 7, 0] rfl)
  unfold t_X11_feed_e at hf
  refine lv_aload_n hx hb dX11_feed_0 rfl (lv_at hl 0 rfl) ?_
  refine lv_iconst (v := 0) hx hb dX11_feed_1 (by decide) ?_
  refine z_put (w' := cl_X11 cI cJ a ((0 : Int32), u.2)) (ci := 10) (v := .int (0 : Int32)) (ty := .int) (Cn := RX11) (T := TX11) (N := 17) X inX11 tyX11 tyX11_ok nmX11 hP hD hS 0 rfl rfl 0 (by decide) (hts _ q_fl_X11_43) (fun _ h9 => h9) rfl (tyX11_ok 0 (by decide)) rfl rfl (Nat.le_of_ble_eq_true rfl) rfl dX11_feed_2 (fun H locs hP hD hS => ?_)
  refine lv_aload_n hx hb dX11_feed_5 rfl (lv_at hl 0 rfl) ?_
  refine va_get (D := (dC, dI)) (ci := 10) (v := .int u.2.2.2.2.2.2.2.2.2.2.1) (C := RX11) (T := TX11) (N := 17) hx hb hts inX11 hown hK hP 0 rfl rfl 10 (by decide) (hts _ q_fl_X11_162) (fun _ h9 => h9) rfl dX11_feed_6 ?_
  refine lv_bipush (v := 20) hx hb dX11_feed_9 (by decide) ?_
  refine lv_iadd hx hb dX11_feed_11 ?_
  refine lv_sipush (v := 400) hx hb dX11_feed_12 (by decide) ?_
  refine lv_icmp_le (tgt := 20) hx hb dX11_feed_15 (by decide) (fun c_1 => ?_) (fun c_1 => ?_)
  · have hf := hf.1 c_1
    refine lv_iconst (v := 0) hx hb dX11_feed_20 (by decide) ?_
    refine lv_istore (lv' := [(6, .int (0 : Int32)), (0, .ref (a 0)), (1, .int x1), (2, .int x2), (3, .int x3), (4, .int x4), (5, .int x5)]) hx hb dX11_feed_21 hl (by decide) rfl (fun ls hl => ?_)
    obtain ⟨k_2, hf⟩ := hf
    exact (LP k_2) _ ((0 : Int32), u.2) _ _ ls hf hP hD hS (lv_sub hl [1, 2, 3, 4, 5, 6, 0] rfl)
  · have hf := hf.2 c_1
    refine lv_iconst (v := (-1)) hx hb dX11_feed_18 (by decide) ?_
    exact z_retMi (Wf := (fun z => cl_X11 cI cJ a z)) (u := ((0 : Int32), u.2)) X hf hP hD hS dX11_feed_19
def s_X11_feed (u : zModel) (x1 x2 x3 x4 x5 : Int32) (Q : Int32 → zModel → Prop) : Prop := ∃ (B : Nat) (G : zG), okG B G ∧ mG G u ∧ ∀ u' : zModel, mG (fFeed G x1 x2 x3 x4 x5).2 u' → Q (fFeed G x1 x2 x3 x4 x5).1 u'
/-- the row with a TAPE and its size -/
def mFd (u : zModel) (t : Nat → Int32) (x : Int32) : zModel := (0, u.2.1, u.2.2.1, u.2.2.2.1, u.2.2.2.2.1, u.2.2.2.2.2.1, u.2.2.2.2.2.2.1, u.2.2.2.2.2.2.2.1, u.2.2.2.2.2.2.2.2.1, t, x, u.2.2.2.2.2.2.2.2.2.2.2)
theorem fd_step (t : Nat → Int32) (N : Nat) (a b c d e : Int32) (i : Nat) : upd (fdT t N a b c d e i) (N + i) (fdB (fdV a b c d e i) i) = fdT t N a b c d e (i + 1) := by
  funext j
  unfold upd fdT
  by_cases h : j = N + i
  · rw [if_pos h, if_pos (by omega), show j - N = i by omega]
  · rw [if_neg h]
    by_cases h2 : N ≤ j ∧ j < N + i
    · rw [if_pos h2, if_pos (by omega)]
    · rw [if_neg h2, if_neg (by omega)]
theorem st_X11_feed {u : zModel} {x1 x2 x3 x4 x5 : Int32} {Q : Int32 → zModel → Prop} (h : s_X11_feed u x1 x2 x3 x4 x5 Q) : v_X11_feed u x1 x2 x3 x4 x5 Q := by
  obtain ⟨B, G, hG, hm, hQ⟩ := h
  have eT : u.2.2.2.2.2.2.2.2.2.2.1 = nI (gTpN G) := hm.2.2.2.2.1.1
  have h400 := hG.2.2.2
  unfold fFeed at hQ
  generalize eN : gTpN G = N at *
  have e20 : nI N + (20 : Int32) = nI (N + 20) := nI_add N 20
  have cmp : (nI (N + 20) ≤ (400 : Int32)) ↔ N + 20 ≤ 400 := nI_leI (b := 400) (by omega) (by decide)
  by_cases hr : N + 20 ≤ 400
  · rw [if_pos hr] at hQ
    refine zlp2 (T := fun y z K => t_X11_feed_23 x1 x2 x3 x4 x5 y z K Q) (E := fun K => t_X11_feed_e u x1 x2 x3 x4 x5 K Q) 20 (fun i => nI i) (fun i => mFd u (fdT (mTp u) N x1 x2 x3 x4 x5 i) (nI (N + i))) (fun K hK => ?_) ?_ ?_
    · unfold t_X11_feed_e
      rw [eT, e20]
      refine ⟨fun _ => ?_, fun c => absurd (cmp.mpr hr) c⟩
      have hK : K (nI 0) (mFd u (fdT (mTp u) N x1 x2 x3 x4 x5 0) (nI (N + 0))) := hK
      rw [show fdT (mTp u) N x1 x2 x3 x4 x5 0 = mTp u from funext fun j => if_neg (by omega), Nat.add_zero, ← eT] at hK
      exact hK
    · intro i hi K hK
      have e4 : nI i - nI i / (4 : Int32) * (4 : Int32) = nI (i % 4) := fa_rem (k := 2) (by omega) (by decide)
      have e8 : (24 : Int32) - (8 : Int32) * nI (i % 4) = nI (24 - 8 * (i % 4)) := by
        rw [show (8 : Int32) = nI 8 from rfl, n_mul, show (24 : Int32) = nI 24 from rfl]
        exact lN_subI (by omega)
      have go : ∀ v : Int32, v = fdV x1 x2 x3 x4 x5 i → ∀ f : Nat → Int32, f = upd (fdT (mTp u) N x1 x2 x3 x4 x5 i) (nI (N + i)).toNatClampNeg ((v.toUInt32 >>> ((nI (24 - 8 * (i % 4))).toUInt32 &&& Int32.toUInt32 31)).toInt32 &&& (255 : Int32)) → ∀ x : Int32, x = nI (N + i) + 1 → ∀ x' : Int32, x' = nI i + 1 → K x' (mFd u f x) := by
        intro v ev f ef x ex x' ex'
        rw [nI_clamp (by omega), ev, show ((fdV x1 x2 x3 x4 x5 i).toUInt32 >>> ((nI (24 - 8 * (i % 4))).toUInt32 &&& Int32.toUInt32 31)).toInt32 &&& (255 : Int32) = fdB (fdV x1 x2 x3 x4 x5 i) i from rfl, fd_step] at ef
        rw [ex', ex, ef, nI_1, nI_1]; exact hK
      unfold t_X11_feed_23
      rw [e4, e8]
      refine ⟨fun c => absurd c (ge20 hi), fun _ => ⟨fun c1 => ⟨fun c2 => ⟨fun c3 => ⟨fun c4 => ⟨by decide, vp_in_nI (n := N + i) (by omega) (by decide), go x5 ?_⟩, fun c4 => ⟨by decide, vp_in_nI (n := N + i) (by omega) (by decide), go x4 ?_⟩⟩, fun c3 => ⟨by decide, vp_in_nI (n := N + i) (by omega) (by decide), go x3 ?_⟩⟩, fun c2 => ⟨by decide, vp_in_nI (n := N + i) (by omega) (by decide), go x2 ?_⟩⟩, fun c1 => ⟨by decide, vp_in_nI (n := N + i) (by omega) (by decide), go x1 ?_⟩⟩⟩
      · have k1 := (nI_leI (a := 4) (b := i) (by decide) (by omega)).mp c1
        have k2 := (nI_leI (a := 8) (b := i) (by decide) (by omega)).mp c2
        have k3 := (nI_leI (a := 12) (b := i) (by decide) (by omega)).mp c3
        have k4 := (nI_leI (a := 16) (b := i) (by decide) (by omega)).mp c4
        unfold fdV
        rw [if_neg (by omega), if_neg (by omega), if_neg (by omega), if_neg (by omega)]
      · have k3 := (nI_leI (a := 12) (b := i) (by decide) (by omega)).mp c3
        have k4 : ¬ 16 ≤ i := fun q => c4 (nI_le (a := 16) q (by omega))
        unfold fdV
        rw [if_neg (by omega), if_neg (by omega), if_neg (by omega), if_pos (by omega)]
      · have k2 := (nI_leI (a := 8) (b := i) (by decide) (by omega)).mp c2
        have k3 : ¬ 12 ≤ i := fun q => c3 (nI_le (a := 12) q (by omega))
        unfold fdV
        rw [if_neg (by omega), if_neg (by omega), if_pos (by omega)]
      · have k1 := (nI_leI (a := 4) (b := i) (by decide) (by omega)).mp c1
        have k2 : ¬ 8 ≤ i := fun q => c2 (nI_le (a := 8) q (by omega))
        unfold fdV
        rw [if_neg (by omega), if_pos (by omega)]
      · have k1 : ¬ 4 ≤ i := fun q => c1 (nI_le (a := 4) q (by omega))
        unfold fdV
        rw [if_pos (by omega)]
    · intro K
      refine ⟨fun _ => ?_, fun c => absurd (le20 (Nat.le_refl _) (by decide)) c⟩
      refine hQ _ (mG_of hm.now ⟨hm.2.1, hm.2.2.1, hm.2.2.2.1, ⟨rfl, fun j hj => ?_⟩, hm.2.2.2.2.2.1⟩ hm.2.2.2.2.2.2)
      have hj : j < N + 20 := hj
      show fdT (mTp u) N x1 x2 x3 x4 x5 20 j = fdT (gTp G) N x1 x2 x3 x4 x5 20 j
      unfold fdT
      by_cases h2 : N ≤ j ∧ j < N + 20
      · rw [if_pos h2, if_pos h2]
      · rw [if_neg h2, if_neg h2]
        exact hm.2.2.2.2.1.2 j (by rw [eN]; omega)
  · rw [if_neg hr] at hQ
    refine ⟨fun _ _ _ => False, fun _ _ _ q => q.elim, ?_⟩
    unfold t_X11_feed_e
    rw [eT, e20]
    exact ⟨fun c => absurd (cmp.mp c) hr, fun _ => hQ _ (hm.th 0)⟩
theorem c_X11_feed (l : Launch) (dC : Nat → ClassId) (dI : Nat → Nat → Nat) (cI cJ cS : ClassId) (a : Nat → Nat) (u : zModel) (x1 : Int32) (x2 : Int32) (x3 : Int32) (x4 : Int32) (x5 : Int32) (Q : Int32 → zModel → Prop) (hf : s_X11_feed u x1 x2 x3 x4 x5 Q) : ∀ sz : Nat, Met l yX11_feed (Cond.code yX11_feed cX11_feed 8 (some .int) :: zT) rm_X11_feed (zPm dC dI cI cJ cS (cl_X11 cI cJ a u) [.ref (a 0), .int x1, .int x2, .int x3, .int x4, .int x5] sz) (va_Qi Q (zB dC dI cI cJ cS (va_A (cl_X11 cI cJ a u) sz) (fun z => cl_X11 cI cJ a z)) (va_A (cl_X11 cI cJ a u) sz)) 0 0 (va_A (cl_X11 cI cJ a u) sz) := by
  obtain ⟨I23, h23, hf⟩ := st_X11_feed hf
  exact L_X11_feed l dC dI cI cJ cS a u x1 x2 x3 x4 x5 Q I23 h23 hf
