/-! a collection gone through -/
theorem adv_x {ρ β mo lm L S M B : Nat} {v : zState} (h : zP ρ β mo lm L S M B v) (hx : xN v.2.2.2.2.1 < wN v.2.2.2.2.1) : xN (uAdv v).2.2.2.2.1 = xN v.2.2.2.2.1 + 1 ∧ wN (uAdv v).2.2.2.2.1 = wN v.2.2.2.2.1 := by
  have hC := h.2.2.2.2.2.2.2.2.2.1
  have ex : ∀ c : zColl, c = v.2.2.2.2.1 → xN (c.1, c.2.1, c.2.2.1, c.2.2.2 + 1) = xN c + 1 ∧ wN (c.1, c.2.1, c.2.2.1, c.2.2.2 + 1) = wN c := fun c e => by
    subst e
    refine ⟨?_, rfl⟩
    show (v.2.2.2.2.1.2.2.2 + 1).toNatClampNeg = _
    have h1 := hC.1.2
    have h2 := hC.2.1
    rw [h2.1, nI_1, nI_clamp (by omega)]
  unfold uAdv
  rw [if_pos hx]
  by_cases hl : uLiv v (uHd v) = true
  · rw [if_pos hl]
    have ec := uE_col v (kN (uHd v)) (lnN (uHd v)) (sdN (uHd v))
    generalize uEnter v (kN (uHd v)) (lnN (uHd v)) (sdN (uHd v)) = w at ec
    obtain ⟨e1, e2⟩ := ex w.2.2.2.2.1 ec
    rw [← ec]; exact ⟨e1, e2⟩
  · rw [if_neg hl]
    exact ex v.2.2.2.2.1 rfl
theorem uAllN_off {v : zState} (h : v.2.2.2.2.1.2.1 = -1) : ∀ n, uAllN n v = v
  | 0 => rfl
  | n + 1 => by unfold uAllN; rw [if_pos h]
theorem uAllN_blk {v : zState} (h : ¬ v.2.2.2.2.1.2.1 = -1) (hb : uBlk v = true) : ∀ n, uAllN n v = v
  | 0 => rfl
  | n + 1 => by
    unfold uAllN
    have e : (uCol 1 v).2 = v := by
      unfold uCol
      rw [if_neg h, if_pos hb]
    rw [if_neg h, e]
    exact uAllN_blk h hb n
theorem uCol_1 {v : zState} (h : ¬ v.2.2.2.2.1.2.1 = -1) (hb : uBlk v = false) : (uCol 1 v).2 = uOne v := by
  unfold uCol
  rw [if_neg h, if_neg (by rw [hb]; decide)]
  rfl
/-- behind one step there is less to go, or it is off -/
theorem one_x {ρ β mo lm L S M B : Nat} {v : zState} (h : zP ρ β mo lm L S M B v) : (uOne v).2.2.2.2.1.2.1 = -1 ∨ (xN v.2.2.2.2.1 < wN v.2.2.2.2.1 ∧ wN (uOne v).2.2.2.2.1 - xN (uOne v).2.2.2.2.1 + 1 = wN v.2.2.2.2.1 - xN v.2.2.2.2.1) := by
  unfold uOne
  by_cases hx2 : xN (uAdv v).2.2.2.2.1 < wN (uAdv v).2.2.2.2.1
  · rw [if_pos hx2]
    refine Or.inr ?_
    have hx : xN v.2.2.2.2.1 < wN v.2.2.2.2.1 := by
      by_cases q : xN v.2.2.2.2.1 < wN v.2.2.2.2.1
      · exact q
      · unfold uAdv at hx2
        rw [if_neg q] at hx2
        exact absurd hx2 q
    obtain ⟨e1, e2⟩ := adv_x h hx
    rw [e1, e2] at hx2 ⊢
    exact ⟨hx, by omega⟩
  · rw [if_neg hx2]; exact Or.inl rfl
/-- steps until it is through, or there is no room -/
theorem all_end {ρ β mo lm : Nat} : ∀ (n : Nat) {L S M B : Nat} {v : zState}, zP ρ β mo lm L S M B v → B + n ≤ 400000 → wN v.2.2.2.2.1 - xN v.2.2.2.2.1 < n → (uAllN n v).2.2.2.2.1.2.1 = -1 ∨ uBlk (uAllN n v) = true
  | 0, _, _, _, _, _, _, _, h => absurd h (Nat.not_lt_zero _)
  | n + 1, L, S, M, B, v, hP, hB, h => by
    by_cases hoff : v.2.2.2.2.1.2.1 = -1
    · rw [uAllN_off hoff]; exact Or.inl hoff
    · cases hb : uBlk v with
      | true => rw [uAllN_blk hoff hb]; exact Or.inr hb
      | false =>
        have e : uAllN (n + 1) v = uAllN n (uOne v) := by
          show (if v.2.2.2.2.1.2.1 = -1 then v else uAllN n (uCol 1 v).2) = _
          rw [if_neg hoff, uCol_1 hoff hb]
        rw [e]
        obtain ⟨L', S', M', h3⟩ := zPr.one hP (by omega) hoff hb
        rcases one_x hP with q | ⟨q1, q2⟩
        · rw [uAllN_off q]; exact Or.inl q
        · exact all_end n h3 (by omega) (by omega)
def uGo (v : zState) (s : Nat) : zState := uAllN 51 (uNote v s)
def uGoI (v : zState) (s : Nat) : Int32 := if (uGo v s).2.2.2.2.1.2.1 = -1 then 1 else 0
theorem okB.go {B s : Nat} {v : zState} (h : okB B v) (hB : B + 51 ≤ 400000) (hs : s < 12) (hk : v.2.2.1.2.2.2.1 s = 2) : okB (B + 51) (uGo v s) := by
  obtain ⟨ρ, β, mo, lm, L, S, M, h⟩ := h
  obtain ⟨L', S', M', h2⟩ := zPr.all 51 (zPr.note h hs hk) hB
  exact ⟨ρ, β, mo, lm, L', S', M', h2⟩
theorem uRp_0 {v : zState} {s : Nat} (hs : s < 12) (h : uRp v (nI s) = 0) : v.2.2.2.2.1.2.1 = -1 ∧ v.2.2.1.2.2.2.1 s = 2 := by
  unfold uRp at h
  by_cases h1 : v.2.2.2.2.1.2.1 = -1
  · rw [if_pos h1, if_neg (n_neg (by omega)), nI_clamp (by omega)] at h
    refine ⟨h1, ?_⟩
    by_cases h2 : v.2.2.1.2.2.2.1 s = 2
    · exact h2
    · rw [if_neg h2] at h; exact absurd h (by decide)
  · rw [if_neg h1] at h; exact absurd h (by decide)
theorem uRp_1 {v : zState} {s : Nat} (hs : s < 12) (h1 : v.2.2.2.2.1.2.1 = -1) (h2 : v.2.2.1.2.2.2.1 s = 2) : uRp v (nI s) = 0 := by
  unfold uRp
  rw [if_pos h1, if_neg (n_neg (by omega)), nI_clamp (by omega), if_pos h2]
theorem uSel_n (v : zState) {s : Nat} (hs : s < 12) : uSel v (nI s) = nI s := if_neg (n_neg (by omega))
theorem uPoor_seal (v : zState) : ∀ n, n ≤ 12 → ∀ s, s < 12 → (uPoor v n).1 = nI s → v.2.2.1.2.2.2.1 s = 2
  | 0, _, s, hs, h => absurd h.symm (n_neg (by omega))
  | n + 1, hn, s, hs, h => by
    have ih := uPoor_seal v n (by omega) s hs
    unfold uPoor at h
    by_cases c : v.2.2.1.2.2.2.1 n = 2
    · rw [if_pos c] at h
      by_cases c2 : (uPoor v n).1 = -1
      · rw [if_pos c2] at h
        have : n = s := (nI_eq (by omega) (by omega)).mp h
        rw [← this]; exact c
      · rw [if_neg c2] at h
        by_cases c3 : (uPoor v n).2 ≤ uLive v n
        · rw [if_pos c3] at h; exact ih h
        · rw [if_neg c3] at h
          have : n = s := (nI_eq (by omega) (by omega)).mp h
          rw [← this]; exact c
    · rw [if_neg c] at h; exact ih h
def uWouldA (v w : zState) (x : Int32) : Int32 := if x = 0 then w.2.1.2.2.2.1 - v.2.1.2.2.2.1 else if x = 1 then uSpare w - uSpare v else w.2.1.2.2.1 - v.2.1.2.2.1
def fWould (v : zState) (x1 x2 : Int32) : Int32 × Int32 := if inR x1 0 11 then (if inR x2 0 2 then (0, if uRp v x1 = 0 then (if (uGo v x1.toNatClampNeg).2.2.2.2.1.2.1 = -1 then uWouldA v (uGo v x1.toNatClampNeg) x2 else -1000) else -1000) else (2, 0)) else (1, 0)
/-- sweeps: how many came to their end, and what is then -/
def swN : Nat → Nat → zState → Nat × zState
  | 0, c, v => (c, v)
  | n + 1, c, v => if (uPoor v 12).1 = -1 then (c, v) else if (uGo v (uPoor v 12).1.toNatClampNeg).2.2.2.2.1.2.1 = -1 then swN n (c + 1) (uGo v (uPoor v 12).1.toNatClampNeg) else (c, uGo v (uPoor v 12).1.toNatClampNeg)
def uAll (v : zState) : Int32 := uSpare v + l_sum v.2.2.1.2.2.1 12
def uSwA (w : Nat × zState) (x : Int32) : Int32 := if x = 0 then nI w.1 else if x = 1 then uSpare w.2 else 100 * l_sum (uLive w.2) 12 / uAll w.2
def fSweep (v : zState) (x1 x2 : Int32) : Int32 × Int32 := if inR x1 1 6 then (if inR x2 0 2 then (0, uSwA (swN x1.toNatClampNeg 0 v) x2) else (2, 0)) else (1, 0)
theorem l_sub (f g : Nat → Int32) : ∀ n, l_sum f n + l_sum (fun s => g s - f s) n = l_sum g n
  | 0 => rfl
  | n + 1 => by
    have ih := l_sub f g n
    show (l_sum f n + f n) + (l_sum (fun s => g s - f s) n + (g n - f n)) = l_sum g n + g n
    rw [← ih]
    generalize l_sum f n = a
    generalize l_sum (fun s => g s - f s) n = b
    generalize f n = c
    generalize g n = d
    rw [Int32.add_assoc a c, ← Int32.add_assoc c b, Int32.add_comm c b, Int32.add_assoc b c, Int32.add_comm c (d - c), Int32.sub_add_cancel, ← Int32.add_assoc]
theorem all_pos {ρ β mo lm L S M B : Nat} {v : zState} (h : zP ρ β mo lm L S M B v) : 0 < uAll v := by
  obtain ⟨h1, -, -, -, -, hg, -⟩ := h
  have htk := hg.2.2.2.1 _ hg.1.2
  have hleft : uLeft v = nI (ρ - gB v.2.2.1 (gO v.2.2.1) (gN v.2.2.1 (gO v.2.2.1))) := by
    show v.1.1 - v.2.2.1.2.2.1 (gO v.2.2.1) = _
    rw [h1.1, htk.1]
    exact lN_subI htk.2
  have hsum : ∀ n, n ≤ 12 → ∃ T : Nat, l_sum v.2.2.1.2.2.1 n = nI T ∧ T ≤ 200 * n ∧ (gO v.2.2.1 < n → gB v.2.2.1 (gO v.2.2.1) (gN v.2.2.1 (gO v.2.2.1)) ≤ T) := by
    intro n
    induction n with
    | zero => exact fun _ => ⟨0, rfl, by omega, fun q => absurd q (Nat.not_lt_zero _)⟩
    | succ n ih =>
      intro hn
      obtain ⟨T, e, hT, hq⟩ := ih (by omega)
      have ht := hg.2.2.2.1 n (by omega)
      refine ⟨T + gB v.2.2.1 n (gN v.2.2.1 n), ?_, by have := ht.2; omega, fun q => ?_⟩
      · show l_sum v.2.2.1.2.2.1 n + v.2.2.1.2.2.1 n = _
        rw [e, ht.1, nI_add]
      · by_cases q2 : gO v.2.2.1 = n
        · rw [← q2]; omega
        · have := hq (by omega); omega
  obtain ⟨T, e, hT, hq⟩ := hsum 12 (Nat.le_refl _)
  have hq := hq hg.1.2
  have hf : uFree v ≤ 12 := fa_cnt_le _ _
  have hmul : uFree v * ρ ≤ 12 * 200 := Nat.mul_le_mul hf h1.2.2
  unfold uAll uSpare
  rw [hleft, e, h1.1, n_mul, nI_add, nI_add]
  exact nI_lt (a := 0) (by have := htk.2; omega) (by omega)

def t_X11_goesThrough_e (u : zModel) (x1 : Int32) (K10 : zModel → Prop) (Q : Int32 → zModel → Prop) : Prop := s_X11_pick0 u x1 (fun (r_1 : Int32) (u_2 : zModel) => ((r_1 ≤ 0 → K10 u_2) ∧ (¬ r_1 ≤ 0 → Q (0 : Int32) u_2)))
def t_X11_goesThrough_10 (x1 : Int32) (z : zModel) (K10 : zModel → Prop) (Q : Int32 → zModel → Prop) : Prop := vp_in (8 : Int32) 5497 ∧ (((z.2.1 (8 : Int32).toNatClampNeg) = (-1 : Int32) → Q (1 : Int32) z) ∧ (¬ (z.2.1 (8 : Int32).toNatClampNeg) = (-1 : Int32) → s_X11_left z (fun r_6 : Int32 => ((r_6 ≤ 0 → s_X11_left z (fun r_8 : Int32 => ((¬ r_8 = 0 → K10 z) ∧ (r_8 = 0 → s_X11_ends z (fun (u_12 : zModel) => K10 u_12))))) ∧ (¬ r_6 ≤ 0 → s_X11_oneNoted z (fun (r_14 : Int32) (u_15 : zModel) => ((¬ r_14 = (-1 : Int32) → s_X11_left u_15 (fun r_17 : Int32 => ((¬ r_17 = 0 → K10 u_15) ∧ (r_17 = 0 → s_X11_ends u_15 (fun (u_21 : zModel) => K10 u_21))))) ∧ (r_14 = (-1 : Int32) → Q (0 : Int32) u_15))))))))
theorem zc_X11_goesThrough : zCalV RX11 yX11_goesThrough cX11_goesThrough 2 (some .boolean) 1 := ⟨q_im_X11_goesThrough, q_se_X11_goesThrough, q_in_X11, q_cd_X11_goesThrough, ⟨by decide, by decide, by decide +kernel⟩, rfl⟩
abbrev rm_X11_goesThrough : Room := { frames := 8, cells := 0, slots := 0, locals := 180 }
def v_X11_goesThrough (u : zModel) (x1 : Int32) (Q : Int32 → zModel → Prop) : Prop := ∃ I10 : Nat → zModel → Prop, (∀ (n : Nat) (z : zModel), I10 n z → t_X11_goesThrough_10 x1 z (fun q0 => ∃ k : Nat, k < n ∧ I10 k q0) Q) ∧ t_X11_goesThrough_e u x1 (fun q0 => ∃ k : Nat, I10 k q0) Q
set_option maxHeartbeats 4000000 in
set_option maxRecDepth 100000 in
theorem L_X11_goesThrough (l : Launch) (dC : Nat → ClassId) (dI : Nat → Nat → Nat) (cI cJ cS : ClassId) (a : Nat → Nat) (u : zModel) (x1 : Int32) (Q : Int32 → zModel → Prop) (I10 : Nat → zModel → Prop) (h10 : ∀ (n : Nat) (z : zModel), I10 n z → t_X11_goesThrough_10 x1 z (fun q0 => ∃ k : Nat, k < n ∧ I10 k q0) Q) (hf : t_X11_goesThrough_e u x1 (fun q0 => ∃ k : Nat, I10 k q0) Q) : ∀ sz : Nat, Met l yX11_goesThrough (Cond.code yX11_goesThrough cX11_goesThrough 2 (some .boolean) :: zT) rm_X11_goesThrough (zPm dC dI cI cJ cS (cl_X11 cI cJ a u) [.ref (a 0), .int x1] sz) (va_Qi (fun r u => (r = 0 ∨ r = 1) ∧ Q r u) (zB dC dI cI cJ cS (va_A (cl_X11 cI cJ a u) sz) (fun z => cl_X11 cI cJ a z)) (va_A (cl_X11 cI cJ a u) sz)) 0 0 (va_A (cl_X11 cI cJ a u) sz) := by
  intro sz
  refine z_enterM (Qc := fun A => va_Qi (fun r u => (r = 0 ∨ r = 1) ∧ Q r u) (zB dC dI cI cJ cS A (fun z => cl_X11 cI cJ a z)) A) (cc := cX11_goesThrough) (maxL := 2) (ret := (some .boolean)) (by decide) (Nat.le_of_ble_eq_true rfl) ?_
  intro p e s m below meth c ls A X hP hD hS hA hl
  obtain ⟨⟨hx, hb, hml, hown, hts⟩, hr, hlk, hK⟩ := id X
  have hl : lv_has ls 2 [(0, .ref (a 0)), (1, .int x1)] := hl
  have LP : ∀ n : Nat, (∀  (z : zModel) (H : Heap) (locs : List Loc) (ls : Array Slot), I10 n z → va_P (dC, dI) vwCl (cl_X11 cI cJ a z) H → va_D A (cl_X11 cI cJ a z) → va_S A s.heap H locs → lv_has ls 2 [(0, .ref (a 0)), (1, .int x1)] → W p l e rm_X11_goesThrough s m [.ref (a 0), .int x1].toArray below meth c H locs 0 0 (MQ below (va_Qi (fun r u => (r = 0 ∨ r = 1) ∧ Q r u) (zB dC dI cI cJ cS A (fun z => cl_X11 cI cJ a z)) A) [.ref (a 0), .int x1].toArray s 0 0 A) (F0 m 10 ls [])) := by
    intro n
    induction n using Nat.strongRecOn with
    | _ n ih =>
      intro  z H locs ls hI hP hD hS hl
      have hf := h10 n  z hI
      unfold t_X11_goesThrough_10 at hf
      refine lv_aload_n hx hb dX11_goesThrough_10 rfl (lv_at hl 0 rfl) ?_
      refine va_get (D := (dC, dI)) (ci := 10) (v := .ref (a 1)) (C := RX11) (T := TX11) (N := 17) hx hb hts inX11 hown hK hP 0 rfl rfl 1 (by decide) (hts _ q_fl_X11_7) (fun _ h9 => h9) rfl dX11_goesThrough_11 ?_
      refine lv_bipush (v := 8) hx hb dX11_goesThrough_14 (by decide) ?_
      obtain ⟨hg, hf⟩ := hf
      refine va_iald hx hb hK hP 1 0 rfl rfl hg dX11_goesThrough_16 ?_
      refine lv_iconst (v := (-1)) hx hb dX11_goesThrough_17 (by decide) ?_
      refine lv_icmp_eq (tgt := 52) hx hb dX11_goesThrough_18 (by decide) (fun c_5 => ?_) (fun c_5 => ?_)
      · have hf := hf.1 c_5
        refine lv_iconst (v := 1) hx hb dX11_goesThrough_52 (by decide) ?_
        exact z_retMz (Wf := (fun z => cl_X11 cI cJ a z)) (u := z) X (Or.inr rfl) hf hP hD hS dX11_goesThrough_53
      · have hf := hf.2 c_5
        refine lv_aload_n hx hb dX11_goesThrough_21 rfl (lv_at hl 0 rfl) ?_
        refine z_cVi (As := []) (rest := []) X (c_X11_left l dC dI cI cJ cS a z  _ hf) zc_X11_left q_ml_X11_140 ⟨rfl, rfl⟩ ⟨Nat.le_of_ble_eq_true rfl, Nat.le_of_ble_eq_true rfl⟩ hP [0, 1, 2, 3, 4, 5, 6, 7, 8] rfl 10 rfl rfl hl.1 rfl rfl (Nat.le_of_ble_eq_true rfl) ⟨Nat.zero_le _, Nat.zero_le _⟩ dX11_goesThrough_22 (fun r_6 hf => ?_)
        refine lv_if_le (tgt := 38) hx hb dX11_goesThrough_25 (by decide) (fun c_7 => ?_) (fun c_7 => ?_)
        · have hf := hf.1 c_7
          refine lv_aload_n hx hb dX11_goesThrough_38 rfl (lv_at hl 0 rfl) ?_
          refine z_cVi (As := []) (rest := []) X (c_X11_left l dC dI cI cJ cS a z  _ hf) zc_X11_left q_ml_X11_140 ⟨rfl, rfl⟩ ⟨Nat.le_of_ble_eq_true rfl, Nat.le_of_ble_eq_true rfl⟩ hP [0, 1, 2, 3, 4, 5, 6, 7, 8] rfl 10 rfl rfl hl.1 rfl rfl (Nat.le_of_ble_eq_true rfl) ⟨Nat.zero_le _, Nat.zero_le _⟩ dX11_goesThrough_39 (fun r_8 hf => ?_)
          refine lv_if_ne (tgt := 10) hx hb dX11_goesThrough_42 (by decide) (fun c_9 => ?_) (fun c_9 => ?_)
          · have hf := hf.1 c_9
            obtain ⟨k_10, hk_10, hf⟩ := hf
            exact (ih k_10 hk_10)  z _ _ ls hf hP hD hS (lv_sub hl [0, 1] rfl)
          · have hf := hf.2 c_9
            refine lv_aload_n hx hb dX11_goesThrough_45 rfl (lv_at hl 0 rfl) ?_
            refine z_mVv (Wn := (fun u_12 => cl_X11 cI cJ a u_12)) (As := []) (rest := []) (wr := []) X (c_X11_ends l dC dI cI cJ cS a z  _ hf _) zc_X11_ends q_ml_X11_146 ⟨rfl, rfl⟩ ⟨Nat.le_of_ble_eq_true rfl, Nat.le_of_ble_eq_true rfl⟩ hP hD hS hA [0, 1, 2, 3, 4, 5, 6, 7, 8] [] rfl (by decide) rfl (by decide) (by decide) [0, 1, 2, 3, 4, 5, 6, 7, 8] (by decide) (fun _ => rfl) 10 rfl rfl hl.1 rfl rfl (Nat.le_of_ble_eq_true rfl) ⟨Nat.zero_le _, Nat.zero_le _⟩ dX11_goesThrough_46 (fun u_12 H locs hf hP hD hS => ?_)
            refine lv_goto (tgt := 10) hx hb dX11_goesThrough_49 (by decide) ?_
            obtain ⟨k_13, hk_13, hf⟩ := hf
            exact (ih k_13 hk_13)  u_12 _ _ ls hf hP hD hS (lv_sub hl [0, 1] rfl)
        · have hf := hf.2 c_7
          refine lv_aload_n hx hb dX11_goesThrough_28 rfl (lv_at hl 0 rfl) ?_
          refine z_mVi (Wn := (fun u_15 => cl_X11 cI cJ a u_15)) (As := []) (rest := []) (wr := []) X (c_X11_oneNoted l dC dI cI cJ cS a z  _ hf _) zc_X11_oneNoted q_ml_X11_143 ⟨rfl, rfl⟩ ⟨Nat.le_of_ble_eq_true rfl, Nat.le_of_ble_eq_true rfl⟩ hP hD hS hA [0, 1, 2, 3, 4, 5, 6, 7, 8] [] rfl (by decide) rfl (by decide) (by decide) [0, 1, 2, 3, 4, 5, 6, 7, 8] (by decide) (fun _ => rfl) 10 rfl rfl hl.1 rfl rfl (Nat.le_of_ble_eq_true rfl) ⟨Nat.zero_le _, Nat.zero_le _⟩ dX11_goesThrough_29 (fun r_14 u_15 H locs hf hP hD hS => ?_)
          refine lv_iconst (v := (-1)) hx hb dX11_goesThrough_32 (by decide) ?_
          refine lv_icmp_ne (tgt := 38) hx hb dX11_goesThrough_33 (by decide) (fun c_16 => ?_) (fun c_16 => ?_)
          · have hf := hf.1 c_16
            refine lv_aload_n hx hb dX11_goesThrough_38 rfl (lv_at hl 0 rfl) ?_
            refine z_cVi (As := []) (rest := []) X (c_X11_left l dC dI cI cJ cS a u_15  _ hf) zc_X11_left q_ml_X11_140 ⟨rfl, rfl⟩ ⟨Nat.le_of_ble_eq_true rfl, Nat.le_of_ble_eq_true rfl⟩ hP [0, 1, 2, 3, 4, 5, 6, 7, 8] rfl 10 rfl rfl hl.1 rfl rfl (Nat.le_of_ble_eq_true rfl) ⟨Nat.zero_le _, Nat.zero_le _⟩ dX11_goesThrough_39 (fun r_17 hf => ?_)
            refine lv_if_ne (tgt := 10) hx hb dX11_goesThrough_42 (by decide) (fun c_18 => ?_) (fun c_18 => ?_)
            · have hf := hf.1 c_18
              obtain ⟨k_19, hk_19, hf⟩ := hf
              exact (ih k_19 hk_19)  u_15 _ _ ls hf hP hD hS (lv_sub hl [0, 1] rfl)
            · have hf := hf.2 c_18
              refine lv_aload_n hx hb dX11_goesThrough_45 rfl (lv_at hl 0 rfl) ?_
              refine z_mVv (Wn := (fun u_21 => cl_X11 cI cJ a u_21)) (As := []) (rest := []) (wr := []) X (c_X11_ends l dC dI cI cJ cS a u_15  _ hf _) zc_X11_ends q_ml_X11_146 ⟨rfl, rfl⟩ ⟨Nat.le_of_ble_eq_true rfl, Nat.le_of_ble_eq_true rfl⟩ hP hD hS hA [0, 1, 2, 3, 4, 5, 6, 7, 8] [] rfl (by decide) rfl (by decide) (by decide) [0, 1, 2, 3, 4, 5, 6, 7, 8] (by decide) (fun _ => rfl) 10 rfl rfl hl.1 rfl rfl (Nat.le_of_ble_eq_true rfl) ⟨Nat.zero_le _, Nat.zero_le _⟩ dX11_goesThrough_46 (fun u_21 H locs hf hP hD hS => ?_)
              refine lv_goto (tgt := 10) hx hb dX11_goesThrough_49 (by decide) ?_
              obtain ⟨k_22, hk_22, hf⟩ := hf
              exact (ih k_22 hk_22)  u_21 _ _ ls hf hP hD hS (lv_sub hl [0, 1] rfl)
          · have hf := hf.2 c_16
            refine lv_iconst (v := 0) hx hb dX11_goesThrough_36 (by decide) ?_
            exact z_retMz (Wf := (fun z => cl_X11 cI cJ a z)) (u := u_15) X (Or.inl rfl) hf hP hD hS dX11_goesThrough_37
  unfold t_X11_goesThrough_e at hf
  refine lv_aload_n hx hb dX11_goesThrough_0 rfl (lv_at hl 0 rfl) ?_
  refine lv_iload_n hx hb dX11_goesThrough_1 rfl (lv_at hl 1 rfl) ?_
  refine z_mVi (Wn := (fun u_2 => cl_X11 cI cJ a u_2)) (As := [.int x1]) (rest := []) (wr := []) X (c_X11_pick0 l dC dI cI cJ cS a u x1 _ hf _) zc_X11_pick0 q_ml_X11_200 ⟨rfl, rfl⟩ ⟨Nat.le_of_ble_eq_true rfl, Nat.le_of_ble_eq_true rfl⟩ hP hD hS hA [0, 1, 2, 3, 4, 5, 6, 7, 8] [] rfl (by decide) rfl (by decide) (by decide) [0, 1, 2, 3, 4, 5, 6, 7, 8] (by decide) (fun _ => rfl) 10 rfl rfl hl.1 rfl rfl (Nat.le_of_ble_eq_true rfl) ⟨Nat.zero_le _, Nat.zero_le _⟩ dX11_goesThrough_2 (fun r_1 u_2 H locs hf hP hD hS => ?_)
  refine lv_if_le (tgt := 10) hx hb dX11_goesThrough_5 (by decide) (fun c_3 => ?_) (fun c_3 => ?_)
  · have hf := hf.1 c_3
    obtain ⟨k_4, hf⟩ := hf
    exact (LP k_4)  u_2 _ _ ls hf hP hD hS (lv_sub hl [0, 1] rfl)
  · have hf := hf.2 c_3
    refine lv_iconst (v := 0) hx hb dX11_goesThrough_8 (by decide) ?_
    exact z_retMz (Wf := (fun z => cl_X11 cI cJ a z)) (u := u_2) X (Or.inl rfl) hf hP hD hS dX11_goesThrough_9
def s_X11_goesThrough (u : zModel) (x1 : Int32) (Q : Int32 → zModel → Prop) : Prop := ∃ (B : Nat) (v : zState), okB B v ∧ B + 51 ≤ 400000 ∧ mRel v u.2.1 ∧ (x1 = -1 ∨ ∃ s : Nat, s < 12 ∧ x1 = nI s) ∧ (∀ s : Nat, s < 12 → uSel v x1 = nI s → uRp v (uSel v x1) = 0 → ∀ m' : Nat → Int32, mRel (uGo v s) m' → Q (uGoI v s) (u.1, m', u.2.2)) ∧ (¬ uRp v (uSel v x1) = 0 → Q 0 u)
theorem st_X11_goesThrough {u : zModel} {x1 : Int32} {Q : Int32 → zModel → Prop} (h : s_X11_goesThrough u x1 Q) : v_X11_goesThrough u x1 Q := by
  obtain ⟨B0, v, hv, hB0, hr0, hx1, hQ, hQ0⟩ := h
  obtain ⟨ρ, β, mo, lm, L0, S0, M0, hP0⟩ := id hv
  refine ⟨fun n z => ∃ (s i : Nat) (x : zState) (mm : Nat → Int32) (L S M B : Nat), s < 12 ∧ uSel v x1 = nI s ∧ uRp v (uSel v x1) = 0 ∧ i = n ∧ zP ρ β mo lm L S M B x ∧ B + i ≤ 400000 ∧ mRel x mm ∧ z = (u.1, mm, u.2.2) ∧ uAllN i x = uGo v s ∧ (x.2.2.2.2.1.2.1 = -1 ∨ wN x.2.2.2.2.1 - xN x.2.2.2.2.1 < i), ?_, ?_⟩
  · rintro n z ⟨s0, i, x, mm, L, S, M, B, hs0, esel, h00, rfl, hP, hB, hr, rfl, eg, hfuel⟩
    have hQ := hQ s0 hs0 esel h00
    unfold t_X11_goesThrough_10
    dsimp only
    rw [n_c8, hr.1 8 (by decide)]
    refine ⟨vp_in_nI (n := 8) (by decide) (by decide), fun hoff => ?_, fun hon => ?_⟩
    · have hoff : x.2.2.2.2.1.2.1 = -1 := hoff
      rw [uAllN_off hoff] at eg
      unfold uGoI at hQ
      rw [← eg, if_pos hoff] at hQ
      exact hQ mm hr
    · have hon : ¬ x.2.2.2.2.1.2.1 = -1 := hon
      have hfuel := hfuel.resolve_left hon
      obtain ⟨k, rfl⟩ : ∃ k, i = k + 1 := ⟨i - 1, by omega⟩
      have hC := hP.2.2.2.2.2.2.2.2.2.1
      have m9 : mm 9 = nI (wN x.2.2.2.2.1) := (hr.1 9 (by decide)).trans hC.1.1
      have m10 : mm 10 = nI (xN x.2.2.2.2.1) := (hr.1 10 (by decide)).trans hC.2.1.1
      have hxw := hC.2.1.2
      have hw50 := hC.1.2
      obtain ⟨s, hs, es, esg, -⟩ := uHd_rec hP hon
      have nx : uBlk x = false → ∀ m' : Nat → Int32, mRel (uOne x) m' → ∃ k', k' < k + 1 ∧ ∃ (s' i' : Nat) (x' : zState) (mm' : Nat → Int32) (L S M B : Nat), s' < 12 ∧ uSel v x1 = nI s' ∧ uRp v (uSel v x1) = 0 ∧ i' = k' ∧ zP ρ β mo lm L S M B x' ∧ B + i' ≤ 400000 ∧ mRel x' mm' ∧ (u.1, m', u.2.2) = (u.1, mm', u.2.2) ∧ uAllN i' x' = uGo v s' ∧ (x'.2.2.2.2.1.2.1 = -1 ∨ wN x'.2.2.2.2.1 - xN x'.2.2.2.2.1 < i') := by
        intro hb m' hm'
        obtain ⟨L', S', M', h3⟩ := zPr.one hP (by omega) hon hb
        refine ⟨k, by omega, s0, k, uOne x, m', L', S', M', B + 1, hs0, esel, h00, rfl, h3, by omega, hm', rfl, ?_, ?_⟩
        · rw [← eg]
          show _ = if x.2.2.2.2.1.2.1 = -1 then x else uAllN k (uCol 1 x).2
          rw [if_neg hon, uCol_1 hon hb]
        · rcases one_x hP with q | ⟨q1, q2⟩
          · exact Or.inl q
          · exact Or.inr (by omega)
      unfold s_X11_left
      dsimp only
      rw [n_c9, n_c10, m9, m10, lN_subI hxw]
      refine ⟨vp_in_nI (n := 9) (by decide) (by decide), vp_in_nI (n := 10) (by decide) (by decide), fun c1 => ?_, fun c1 => ?_⟩
      · have hx : ¬ xN x.2.2.2.2.1 < wN x.2.2.2.2.1 := by
          have := (nI_leI (b := 0) (by omega) (by decide)).mp c1
          omega
        have hb : uBlk x = false := by unfold uBlk; rw [decide_eq_false hx]; rfl
        have ea : uAdv x = x := by unfold uAdv; rw [if_neg hx]
        have eo : uOne x = uEndC x s := by unfold uOne; rw [ea, if_neg hx, esg]
        have nx := nx hb
        rw [eo] at nx
        refine ⟨vp_in_nI (n := 9) (by decide) (by decide), vp_in_nI (n := 10) (by decide) (by decide), fun c9 => ?_, fun c9 => ⟨x, ρ, β, mo, lm, L, S, M, B, s, hP, hs, es, hr, fun m' hm' => nx m' hm'⟩⟩
        exact absurd (by rw [show wN x.2.2.2.2.1 - xN x.2.2.2.2.1 = 0 by omega]; rfl) c9
      · have hx : xN x.2.2.2.2.1 < wN x.2.2.2.2.1 := by
          have : ¬ wN x.2.2.2.2.1 - xN x.2.2.2.2.1 ≤ 0 := fun q => c1 (nI_le (b := 0) q (by decide))
          omega
        refine ⟨x, ρ, β, mo, lm, L, S, M, B, hP, by omega, hon, hx, hr, fun hb => ⟨fun q => absurd rfl q, fun _ => ?_⟩, fun hb m' hm' => ⟨fun _ => ?_, fun q => absurd q (n_neg (by have := uWr_le x; omega))⟩⟩
        · rw [uAllN_blk hon hb] at eg
          unfold uGoI at hQ
          rw [← eg, if_neg hon] at hQ
          exact hQ mm hr
        · have nx := nx hb
          obtain ⟨⟨L', S', M', ha⟩, eseg⟩ := zPr.adv hP (by omega) hon hb
          have hCa := ha.2.2.2.2.2.2.2.2.2.1
          have a9 : m' 9 = nI (wN (uAdv x).2.2.2.2.1) := (hm'.1 9 (by decide)).trans hCa.1.1
          have a10 : m' 10 = nI (xN (uAdv x).2.2.2.2.1) := (hm'.1 10 (by decide)).trans hCa.2.1.1
          have hxa := hCa.2.1.2
          have hwa := hCa.1.2
          dsimp only
          rw [a9, a10, lN_subI hxa]
          refine ⟨vp_in_nI (n := 9) (by decide) (by decide), vp_in_nI (n := 10) (by decide) (by decide), fun c9 => ?_, fun c9 => ?_⟩
          · have hlt2 : xN (uAdv x).2.2.2.2.1 < wN (uAdv x).2.2.2.2.1 := by
              have : ¬ wN (uAdv x).2.2.2.2.1 - xN (uAdv x).2.2.2.2.1 = 0 := fun q => c9 (by rw [q]; rfl)
              omega
            have eo : uOne x = uAdv x := by unfold uOne; rw [if_pos hlt2]
            rw [eo] at nx
            exact nx m' hm'
          · have hlt2 : ¬ xN (uAdv x).2.2.2.2.1 < wN (uAdv x).2.2.2.2.1 := by
              have := (nI_eq (b := 0) (by omega) (by decide)).mp c9
              omega
            have eo : uOne x = uEndC (uAdv x) s := by unfold uOne; rw [if_neg hlt2, esg]
            rw [eo] at nx
            exact ⟨uAdv x, ρ, β, mo, lm, L', S', M', B + 1, s, ha, hs, eseg.trans es, hm', fun m2 hm2 => nx m2 hm2⟩
  · refine ⟨v, ρ, β, mo, lm, L0, S0, M0, B0, hP0, hr0, hx1, fun s hs es h0 m' hm' => ⟨fun _ => ?_, fun q => absurd (by decide) q⟩, fun h0 => ⟨fun c => ?_, fun _ => hQ0 h0⟩⟩
    · rw [es] at h0
      obtain ⟨-, hk⟩ := uRp_0 hs h0
      have hle : (uNt v s (cN v s)).2 ≤ 50 := Nat.le_trans (uNt_le v s _) (hP0.ok.cl hs)
      refine ⟨51, s, 51, uNote v s, m', L0, S0, M0, B0, hs, es, by rw [es]; exact h0, rfl, zPr.note hP0 hs hk, hB0, hm', rfl, rfl, Or.inr ?_⟩
      have e1 : wN (uNote v s).2.2.2.2.1 = (uNt v s (cN v s)).2 := nI_clamp (n := (uNt v s (cN v s)).2) (by omega)
      rw [e1]; omega
    · exact absurd (by
        have := uRp_pos v (uSel v x1)
        rw [fa_lt] at this
        rw [fa_le] at c
        rw [fa_eq]
        omega) h0
theorem c_X11_goesThrough (l : Launch) (dC : Nat → ClassId) (dI : Nat → Nat → Nat) (cI cJ cS : ClassId) (a : Nat → Nat) (u : zModel) (x1 : Int32) (Q : Int32 → zModel → Prop) (hf : s_X11_goesThrough u x1 Q) : ∀ sz : Nat, Met l yX11_goesThrough (Cond.code yX11_goesThrough cX11_goesThrough 2 (some .boolean) :: zT) rm_X11_goesThrough (zPm dC dI cI cJ cS (cl_X11 cI cJ a u) [.ref (a 0), .int x1] sz) (va_Qi (fun r u => (r = 0 ∨ r = 1) ∧ Q r u) (zB dC dI cI cJ cS (va_A (cl_X11 cI cJ a u) sz) (fun z => cl_X11 cI cJ a z)) (va_A (cl_X11 cI cJ a u) sz)) 0 0 (va_A (cl_X11 cI cJ a u) sz) := by
  obtain ⟨I10, h10, hf⟩ := st_X11_goesThrough hf
  exact L_X11_goesThrough l dC dI cI cJ cS a u x1 Q I10 h10 hf

def t_X11_would (u : zModel) (x1 : Int32) (x2 : Int32) (Q : Int32 → zModel → Prop) : Prop := s_X11_isSegment x1 (fun r_1 : Int32 => ((¬ r_1 = 0 → s_X11_isIn x2 (0 : Int32) (2 : Int32) (fun r_3 : Int32 => ((¬ r_3 = 0 → (((0 : Int32) ≤ 0 → s_X11_keepsTrial ((0 : Int32), u.2) (fun (u_7 : zModel) => s_X11_spare u_7 (fun r_8 : Int32 => s_X11_goesThrough u_7 x1 (fun (r_9 : Int32) (u_10 : zModel) => ((¬ x2 = 0 → ((¬ x2 = (1 : Int32) → vp_in (14 : Int32) 5497 ∧ vp_in (14 : Int32) 5497 ∧ ∀ x_13 : Int32, x_13 = ((u_10.2.1 (14 : Int32).toNatClampNeg) - (u_10.2.2.2.1 (14 : Int32).toNatClampNeg)) → s_X11_trialBack u_10 (fun (u_15 : zModel) => ((r_9 = 0 → Q (-1000 : Int32) u_15) ∧ (¬ r_9 = 0 → Q x_13 u_15)))) ∧ (x2 = (1 : Int32) → s_X11_spare u_10 (fun r_17 : Int32 => ∀ x_18 : Int32, x_18 = (r_17 - r_8) → s_X11_trialBack u_10 (fun (u_20 : zModel) => ((r_9 = 0 → Q (-1000 : Int32) u_20) ∧ (¬ r_9 = 0 → Q x_18 u_20))))))) ∧ (x2 = 0 → vp_in (11 : Int32) 5497 ∧ vp_in (11 : Int32) 5497 ∧ ∀ x_22 : Int32, x_22 = ((u_10.2.1 (11 : Int32).toNatClampNeg) - (u_10.2.2.2.1 (11 : Int32).toNatClampNeg)) → s_X11_trialBack u_10 (fun (u_24 : zModel) => ((r_9 = 0 → Q (-1000 : Int32) u_24) ∧ (¬ r_9 = 0 → Q x_22 u_24))))))))) ∧ (¬ (0 : Int32) ≤ 0 → Q (0 : Int32) ((0 : Int32), u.2)))) ∧ (r_3 = 0 → (((2 : Int32) ≤ 0 → s_X11_keepsTrial ((2 : Int32), u.2) (fun (u_28 : zModel) => s_X11_spare u_28 (fun r_29 : Int32 => s_X11_goesThrough u_28 x1 (fun (r_30 : Int32) (u_31 : zModel) => ((¬ x2 = 0 → ((¬ x2 = (1 : Int32) → vp_in (14 : Int32) 5497 ∧ vp_in (14 : Int32) 5497 ∧ ∀ x_34 : Int32, x_34 = ((u_31.2.1 (14 : Int32).toNatClampNeg) - (u_31.2.2.2.1 (14 : Int32).toNatClampNeg)) → s_X11_trialBack u_31 (fun (u_36 : zModel) => ((r_30 = 0 → Q (-1000 : Int32) u_36) ∧ (¬ r_30 = 0 → Q x_34 u_36)))) ∧ (x2 = (1 : Int32) → s_X11_spare u_31 (fun r_38 : Int32 => ∀ x_39 : Int32, x_39 = (r_38 - r_29) → s_X11_trialBack u_31 (fun (u_41 : zModel) => ((r_30 = 0 → Q (-1000 : Int32) u_41) ∧ (¬ r_30 = 0 → Q x_39 u_41))))))) ∧ (x2 = 0 → vp_in (11 : Int32) 5497 ∧ vp_in (11 : Int32) 5497 ∧ ∀ x_43 : Int32, x_43 = ((u_31.2.1 (11 : Int32).toNatClampNeg) - (u_31.2.2.2.1 (11 : Int32).toNatClampNeg)) → s_X11_trialBack u_31 (fun (u_45 : zModel) => ((r_30 = 0 → Q (-1000 : Int32) u_45) ∧ (¬ r_30 = 0 → Q x_43 u_45))))))))) ∧ (¬ (2 : Int32) ≤ 0 → Q (0 : Int32) ((2 : Int32), u.2))))))) ∧ (r_1 = 0 → (((1 : Int32) ≤ 0 → s_X11_keepsTrial ((1 : Int32), u.2) (fun (u_49 : zModel) => s_X11_spare u_49 (fun r_50 : Int32 => s_X11_goesThrough u_49 x1 (fun (r_51 : Int32) (u_52 : zModel) => ((¬ x2 = 0 → ((¬ x2 = (1 : Int32) → vp_in (14 : Int32) 5497 ∧ vp_in (14 : Int32) 5497 ∧ ∀ x_55 : Int32, x_55 = ((u_52.2.1 (14 : Int32).toNatClampNeg) - (u_52.2.2.2.1 (14 : Int32).toNatClampNeg)) → s_X11_trialBack u_52 (fun (u_57 : zModel) => ((r_51 = 0 → Q (-1000 : Int32) u_57) ∧ (¬ r_51 = 0 → Q x_55 u_57)))) ∧ (x2 = (1 : Int32) → s_X11_spare u_52 (fun r_59 : Int32 => ∀ x_60 : Int32, x_60 = (r_59 - r_50) → s_X11_trialBack u_52 (fun (u_62 : zModel) => ((r_51 = 0 → Q (-1000 : Int32) u_62) ∧ (¬ r_51 = 0 → Q x_60 u_62))))))) ∧ (x2 = 0 → vp_in (11 : Int32) 5497 ∧ vp_in (11 : Int32) 5497 ∧ ∀ x_64 : Int32, x_64 = ((u_52.2.1 (11 : Int32).toNatClampNeg) - (u_52.2.2.2.1 (11 : Int32).toNatClampNeg)) → s_X11_trialBack u_52 (fun (u_66 : zModel) => ((r_51 = 0 → Q (-1000 : Int32) u_66) ∧ (¬ r_51 = 0 → Q x_64 u_66))))))))) ∧ (¬ (1 : Int32) ≤ 0 → Q (0 : Int32) ((1 : Int32), u.2))))))
theorem zc_X11_would : zCalV RX11 yX11_would cX11_would 6 (some .int) 2 := ⟨q_im_X11_would, q_se_X11_would, q_in_X11, q_cd_X11_would, ⟨by decide, by decide, by decide +kernel⟩, rfl⟩
abbrev rm_X11_would : Room := { frames := 9, cells := 0, slots := 0, locals := 201 }
set_option maxHeartbeats 4000000 in
set_option maxRecDepth 100000 in
theorem L_X11_would (l : Launch) (dC : Nat → ClassId) (dI : Nat → Nat → Nat) (cI cJ cS : ClassId) (a : Nat → Nat) (u : zModel) (x1 : Int32) (x2 : Int32) (Q : Int32 → zModel → Prop) (hf : t_X11_would u x1 x2 Q) : ∀ sz : Nat, Met l yX11_would (Cond.code yX11_would cX11_would 6 (some .int) :: zT) rm_X11_would (zPm dC dI cI cJ cS (cl_X11 cI cJ a u) [.ref (a 0), .int x1, .int x2] sz) (va_Qi Q (zB dC dI cI cJ cS (va_A (cl_X11 cI cJ a u) sz) (fun z => cl_X11 cI cJ a z)) (va_A (cl_X11 cI cJ a u) sz)) 0 0 (va_A (cl_X11 cI cJ a u) sz) := by
  intro sz
  refine z_enterM (Qc := fun A => va_Qi Q (zB dC dI cI cJ cS A (fun z => cl_X11 cI cJ a z)) A) (cc := cX11_would) (maxL := 6) (ret := (some .int)) (by decide) (Nat.le_of_ble_eq_true rfl) ?_
  intro p e s m below meth c ls A X hP hD hS hA hl
  obtain ⟨⟨hx, hb, hml, hown, hts⟩, hr, hlk, hK⟩ := id X
  have hl : lv_has ls 6 [(0, .ref (a 0)), (1, .int x1), (2, .int x2)] := hl
  unfold t_X11_would at hf
  refine lv_aload_n hx hb dX11_would_0 rfl (lv_at hl 0 rfl) ?_
  refine lv_iload_n hx hb dX11_would_1 rfl (lv_at hl 1 rfl) ?_
  refine z_cSi (As := [.int x1]) (rest := [.ref (a 0)]) X (c_X11_isSegment l dC dI cI cJ cS   x1 _ hf) zc_X11_isSegment q_ml_X11_263 ⟨rfl, rfl⟩ ⟨Nat.le_of_ble_eq_true rfl, Nat.le_of_ble_eq_true rfl⟩ hP [] rfl hl.1 rfl rfl (Nat.le_of_ble_eq_true rfl) ⟨Nat.zero_le _, Nat.zero_le _⟩ dX11_would_2 (fun r_1 hf => ?_)
  obtain ⟨hbr_1, hf⟩ := hf
  refine lv_if_ne (tgt := 12) hx hb dX11_would_5 (by decide) (fun c_2 => ?_) (fun c_2 => ?_)
  · have hf := hf.1 c_2
    refine lv_iload_n hx hb dX11_would_12 rfl (lv_at hl 2 rfl) ?_
    refine lv_iconst (v := 0) hx hb dX11_would_13 (by decide) ?_
    refine lv_iconst (v := 2) hx hb dX11_would_14 (by decide) ?_
    refine z_cSi (As := [.int x2, .int (0 : Int32), .int (2 : Int32)]) (rest := [.ref (a 0)]) X (c_X11_isIn l dC dI cI cJ cS   x2 (0 : Int32) (2 : Int32) _ hf) zc_X11_isIn q_ml_X11_165 ⟨rfl, rfl⟩ ⟨Nat.le_of_ble_eq_true rfl, Nat.le_of_ble_eq_true rfl⟩ hP [] rfl hl.1 rfl rfl (Nat.le_of_ble_eq_true rfl) ⟨Nat.zero_le _, Nat.zero_le _⟩ dX11_would_15 (fun r_3 hf => ?_)
    obtain ⟨hbr_3, hf⟩ := hf
    refine lv_if_ne (tgt := 25) hx hb dX11_would_18 (by decide) (fun c_4 => ?_) (fun c_4 => ?_)
    · have hf := hf.1 c_4
      refine lv_iconst (v := 0) hx hb dX11_would_25 (by decide) ?_
      refine z_put (w' := cl_X11 cI cJ a ((0 : Int32), u.2)) (ci := 10) (v := .int (0 : Int32)) (ty := .int) (Cn := RX11) (T := TX11) (N := 17) X inX11 tyX11 tyX11_ok nmX11 hP hD hS 0 rfl rfl 0 (by decide) (hts _ q_fl_X11_43) (fun _ h9 => h9) rfl (tyX11_ok 0 (by decide)) rfl rfl (Nat.le_of_ble_eq_true rfl) rfl dX11_would_26 (fun H locs hP hD hS => ?_)
      refine lv_aload_n hx hb dX11_would_29 rfl (lv_at hl 0 rfl) ?_
      refine va_get (D := (dC, dI)) (ci := 10) (v := .int (0 : Int32)) (C := RX11) (T := TX11) (N := 17) hx hb hts inX11 hown hK hP 0 rfl rfl 0 (by decide) (hts _ q_fl_X11_43) (fun _ h9 => h9) rfl dX11_would_30 ?_
      refine lv_if_le (tgt := 38) hx hb dX11_would_33 (by decide) (fun c_5 => ?_) (fun c_5 => ?_)
      · have hf := hf.1 c_5
        refine lv_aload_n hx hb dX11_would_38 rfl (lv_at hl 0 rfl) ?_
        refine z_mVv (Wn := (fun u_7 => cl_X11 cI cJ a u_7)) (As := []) (rest := []) (wr := []) X (c_X11_keepsTrial l dC dI cI cJ cS a ((0 : Int32), u.2)  _ hf _) zc_X11_keepsTrial q_ml_X11_311 ⟨rfl, rfl⟩ ⟨Nat.le_of_ble_eq_true rfl, Nat.le_of_ble_eq_true rfl⟩ hP hD hS hA [0, 1, 2, 3, 4, 5, 6, 7, 8] [] rfl (by decide) rfl (by decide) (by decide) [0, 1, 2, 3, 4, 5, 6, 7, 8] (by decide) (fun _ => rfl) 10 rfl rfl hl.1 rfl rfl (Nat.le_of_ble_eq_true rfl) ⟨Nat.zero_le _, Nat.zero_le _⟩ dX11_would_39 (fun u_7 H locs hf hP hD hS => ?_)
        refine lv_aload_n hx hb dX11_would_42 rfl (lv_at hl 0 rfl) ?_
        refine z_cVi (As := []) (rest := []) X (c_X11_spare l dC dI cI cJ cS a u_7  _ hf) zc_X11_spare q_ml_X11_317 ⟨rfl, rfl⟩ ⟨Nat.le_of_ble_eq_true rfl, Nat.le_of_ble_eq_true rfl⟩ hP [0, 1, 2, 3, 4, 5, 6, 7, 8] rfl 10 rfl rfl hl.1 rfl rfl (Nat.le_of_ble_eq_true rfl) ⟨Nat.zero_le _, Nat.zero_le _⟩ dX11_would_43 (fun r_8 hf => ?_)
        refine lv_istore_n (lv' := [(3, .int r_8), (0, .ref (a 0)), (1, .int x1), (2, .int x2)]) hx hb dX11_would_46 rfl hl (by decide) rfl (fun ls hl => ?_)
        refine lv_aload_n hx hb dX11_would_47 rfl (lv_at hl 1 rfl) ?_
        refine lv_iload_n hx hb dX11_would_48 rfl (lv_at hl 2 rfl) ?_
        refine z_mVi (Wn := (fun u_10 => cl_X11 cI cJ a u_10)) (As := [.int x1]) (rest := []) (wr := []) X (c_X11_goesThrough l dC dI cI cJ cS a u_7 x1 _ hf _) zc_X11_goesThrough q_ml_X11_320 ⟨rfl, rfl⟩ ⟨Nat.le_of_ble_eq_true rfl, Nat.le_of_ble_eq_true rfl⟩ hP hD hS hA [0, 1, 2, 3, 4, 5, 6, 7, 8] [] rfl (by decide) rfl (by decide) (by decide) [0, 1, 2, 3, 4, 5, 6, 7, 8] (by decide) (fun _ => rfl) 10 rfl rfl hl.1 rfl rfl (Nat.le_of_ble_eq_true rfl) ⟨Nat.zero_le _, Nat.zero_le _⟩ dX11_would_49 (fun r_9 u_10 H locs hf hP hD hS => ?_)
        obtain ⟨hbr_9, hf⟩ := hf
        refine lv_istore (lv' := [(4, .int r_9), (3, .int r_8), (0, .ref (a 0)), (1, .int x1), (2, .int x2)]) hx hb dX11_would_52 hl (by decide) rfl (fun ls hl => ?_)
        refine lv_iload_n hx hb dX11_would_54 rfl (lv_at hl 4 rfl) ?_
        refine lv_if_ne (tgt := 76) hx hb dX11_would_55 (by decide) (fun c_11 => ?_) (fun c_11 => ?_)
        · have hf := hf.1 c_11
          refine lv_iload_n hx hb dX11_would_76 rfl (lv_at hl 4 rfl) ?_
          refine lv_iconst (v := 1) hx hb dX11_would_77 (by decide) ?_
          refine lv_icmp_ne (tgt := 90) hx hb dX11_would_78 (by decide) (fun c_12 => ?_) (fun c_12 => ?_)
          · have hf := hf.1 c_12
            refine lv_aload_n hx hb dX11_would_90 rfl (lv_at hl 2 rfl) ?_
            refine va_get (D := (dC, dI)) (ci := 10) (v := .ref (a 1)) (C := RX11) (T := TX11) (N := 17) hx hb hts inX11 hown hK hP 0 rfl rfl 1 (by decide) (hts _ q_fl_X11_7) (fun _ h9 => h9) rfl dX11_would_91 ?_
            refine lv_bipush (v := 14) hx hb dX11_would_94 (by decide) ?_
            obtain ⟨hg, hf⟩ := hf
            refine va_iald hx hb hK hP 1 0 rfl rfl hg dX11_would_96 ?_
            refine lv_aload_n hx hb dX11_would_97 rfl (lv_at hl 2 rfl) ?_
            refine va_get (D := (dC, dI)) (ci := 10) (v := .ref (a 3)) (C := RX11) (T := TX11) (N := 17) hx hb hts inX11 hown hK hP 0 rfl rfl 3 (by decide) (hts _ q_fl_X11_16) (fun _ h9 => h9) rfl dX11_would_98 ?_
            refine lv_bipush (v := 14) hx hb dX11_would_101 (by decide) ?_
            obtain ⟨hg, hf⟩ := hf
            refine va_iald hx hb hK hP 3 0 rfl rfl hg dX11_would_103 ?_
            refine lv_isub hx hb dX11_would_104 ?_
            refine lv_topi (fun x_13 ex_13 => ?_)
            have hf := hf x_13 ex_13
            refine lv_istore (lv' := [(5, .int x_13), (4, .int r_9), (3, .int r_8), (0, .ref (a 0)), (1, .int x1), (2, .int x2)]) hx hb dX11_would_105 hl (by decide) rfl (fun ls hl => ?_)
            refine lv_aload_n hx hb dX11_would_107 rfl (lv_at hl 3 rfl) ?_
            refine z_mVv (Wn := (fun u_15 => cl_X11 cI cJ a u_15)) (As := []) (rest := []) (wr := []) X (c_X11_trialBack l dC dI cI cJ cS a u_10  _ hf _) zc_X11_trialBack q_ml_X11_314 ⟨rfl, rfl⟩ ⟨Nat.le_of_ble_eq_true rfl, Nat.le_of_ble_eq_true rfl⟩ hP hD hS hA [0, 1, 2, 3, 4, 5, 6, 7, 8] [] rfl (by decide) rfl (by decide) (by decide) [0, 1, 2, 3, 4, 5, 6, 7, 8] (by decide) (fun _ => rfl) 10 rfl rfl hl.1 rfl rfl (Nat.le_of_ble_eq_true rfl) ⟨Nat.zero_le _, Nat.zero_le _⟩ dX11_would_108 (fun u_15 H locs hf hP hD hS => ?_)
            refine lv_iload hx hb dX11_would_111 (lv_at hl 1 rfl) ?_
            refine lv_if_eq (tgt := 121) hx hb dX11_would_113 (by decide) (fun c_16 => ?_) (fun c_16 => ?_)
            · have hf := hf.1 c_16
              refine lv_sipush (v := (-1000)) hx hb dX11_would_121 (by decide) ?_
              exact z_retMi (Wf := (fun z => cl_X11 cI cJ a z)) (u := u_15) X hf hP hD hS dX11_would_124
            · have hf := hf.2 c_16
              refine lv_iload hx hb dX11_would_116 (lv_at hl 0 rfl) ?_
              refine lv_goto (tgt := 124) hx hb dX11_would_118 (by decide) ?_
              exact z_retMi (Wf := (fun z => cl_X11 cI cJ a z)) (u := u_15) X hf hP hD hS dX11_would_124
          · have hf := hf.2 c_12
            refine lv_aload_n hx hb dX11_would_81 rfl (lv_at hl 2 rfl) ?_
            refine z_cVi (As := []) (rest := []) X (c_X11_spare l dC dI cI cJ cS a u_10  _ hf) zc_X11_spare q_ml_X11_317 ⟨rfl, rfl⟩ ⟨Nat.le_of_ble_eq_true rfl, Nat.le_of_ble_eq_true rfl⟩ hP [0, 1, 2, 3, 4, 5, 6, 7, 8] rfl 10 rfl rfl hl.1 rfl rfl (Nat.le_of_ble_eq_true rfl) ⟨Nat.zero_le _, Nat.zero_le _⟩ dX11_would_82 (fun r_17 hf => ?_)
            refine lv_iload_n hx hb dX11_would_85 rfl (lv_at hl 1 rfl) ?_
            refine lv_isub hx hb dX11_would_86 ?_
            refine lv_goto (tgt := 105) hx hb dX11_would_87 (by decide) ?_
            refine lv_topi (fun x_18 ex_18 => ?_)
            have hf := hf x_18 ex_18
            refine lv_istore (lv' := [(5, .int x_18), (4, .int r_9), (3, .int r_8), (0, .ref (a 0)), (1, .int x1), (2, .int x2)]) hx hb dX11_would_105 hl (by decide) rfl (fun ls hl => ?_)
            refine lv_aload_n hx hb dX11_would_107 rfl (lv_at hl 3 rfl) ?_
            refine z_mVv (Wn := (fun u_20 => cl_X11 cI cJ a u_20)) (As := []) (rest := []) (wr := []) X (c_X11_trialBack l dC dI cI cJ cS a u_10  _ hf _) zc_X11_trialBack q_ml_X11_314 ⟨rfl, rfl⟩ ⟨Nat.le_of_ble_eq_true rfl, Nat.le_of_ble_eq_true rfl⟩ hP hD hS hA [0, 1, 2, 3, 4, 5, 6, 7, 8] [] rfl (by decide) rfl (by decide) (by decide) [0, 1, 2, 3, 4, 5, 6, 7, 8] (by decide) (fun _ => rfl) 10 rfl rfl hl.1 rfl rfl (Nat.le_of_ble_eq_true rfl) ⟨Nat.zero_le _, Nat.zero_le _⟩ dX11_would_108 (fun u_20 H locs hf hP hD hS => ?_)
            refine lv_iload hx hb dX11_would_111 (lv_at hl 1 rfl) ?_
            refine lv_if_eq (tgt := 121) hx hb dX11_would_113 (by decide) (fun c_21 => ?_) (fun c_21 => ?_)
            · have hf := hf.1 c_21
              refine lv_sipush (v := (-1000)) hx hb dX11_would_121 (by decide) ?_
              exact z_retMi (Wf := (fun z => cl_X11 cI cJ a z)) (u := u_20) X hf hP hD hS dX11_would_124
            · have hf := hf.2 c_21
              refine lv_iload hx hb dX11_would_116 (lv_at hl 0 rfl) ?_
              refine lv_goto (tgt := 124) hx hb dX11_would_118 (by decide) ?_
              exact z_retMi (Wf := (fun z => cl_X11 cI cJ a z)) (u := u_20) X hf hP hD hS dX11_would_124
        · have hf := hf.2 c_11
          refine lv_aload_n hx hb dX11_would_58 rfl (lv_at hl 2 rfl) ?_
          refine va_get (D := (dC, dI)) (ci := 10) (v := .ref (a 1)) (C := RX11) (T := TX11) (N := 17) hx hb hts inX11 hown hK hP 0 rfl rfl 1 (by decide) (hts _ q_fl_X11_7) (fun _ h9 => h9) rfl dX11_would_59 ?_
          refine lv_bipush (v := 11) hx hb dX11_would_62 (by decide) ?_
          obtain ⟨hg, hf⟩ := hf
          refine va_iald hx hb hK hP 1 0 rfl rfl hg dX11_would_64 ?_
          refine lv_aload_n hx hb dX11_would_65 rfl (lv_at hl 2 rfl) ?_
          refine va_get (D := (dC, dI)) (ci := 10) (v := .ref (a 3)) (C := RX11) (T := TX11) (N := 17) hx hb hts inX11 hown hK hP 0 rfl rfl 3 (by decide) (hts _ q_fl_X11_16) (fun _ h9 => h9) rfl dX11_would_66 ?_
          refine lv_bipush (v := 11) hx hb dX11_would_69 (by decide) ?_
          obtain ⟨hg, hf⟩ := hf
          refine va_iald hx hb hK hP 3 0 rfl rfl hg dX11_would_71 ?_
          refine lv_isub hx hb dX11_would_72 ?_
          refine lv_goto (tgt := 105) hx hb dX11_would_73 (by decide) ?_
          refine lv_topi (fun x_22 ex_22 => ?_)
          have hf := hf x_22 ex_22
          refine lv_istore (lv' := [(5, .int x_22), (4, .int r_9), (3, .int r_8), (0, .ref (a 0)), (1, .int x1), (2, .int x2)]) hx hb dX11_would_105 hl (by decide) rfl (fun ls hl => ?_)
          refine lv_aload_n hx hb dX11_would_107 rfl (lv_at hl 3 rfl) ?_
          refine z_mVv (Wn := (fun u_24 => cl_X11 cI cJ a u_24)) (As := []) (rest := []) (wr := []) X (c_X11_trialBack l dC dI cI cJ cS a u_10  _ hf _) zc_X11_trialBack q_ml_X11_314 ⟨rfl, rfl⟩ ⟨Nat.le_of_ble_eq_true rfl, Nat.le_of_ble_eq_true rfl⟩ hP hD hS hA [0, 1, 2, 3, 4, 5, 6, 7, 8] [] rfl (by decide) rfl (by decide) (by decide) [0, 1, 2, 3, 4, 5, 6, 7, 8] (by decide) (fun _ => rfl) 10 rfl rfl hl.1 rfl rfl (Nat.le_of_ble_eq_true rfl) ⟨Nat.zero_le _, Nat.zero_le _⟩ dX11_would_108 (fun u_24 H locs hf hP hD hS => ?_)
          refine lv_iload hx hb dX11_would_111 (lv_at hl 1 rfl) ?_
          refine lv_if_eq (tgt := 121) hx hb dX11_would_113 (by decide) (fun c_25 => ?_) (fun c_25 => ?_)
          · have hf := hf.1 c_25
            refine lv_sipush (v := (-1000)) hx hb dX11_would_121 (by decide) ?_
            exact z_retMi (Wf := (fun z => cl_X11 cI cJ a z)) (u := u_24) X hf hP hD hS dX11_would_124
          · have hf := hf.2 c_25
            refine lv_iload hx hb dX11_would_116 (lv_at hl 0 rfl) ?_
            refine lv_goto (tgt := 124) hx hb dX11_would_118 (by decide) ?_
            exact z_retMi (Wf := (fun z => cl_X11 cI cJ a z)) (u := u_24) X hf hP hD hS dX11_would_124
      · have hf := hf.2 c_5
        refine lv_iconst (v := 0) hx hb dX11_would_36 (by decide) ?_
        exact z_retMi (Wf := (fun z => cl_X11 cI cJ a z)) (u := ((0 : Int32), u.2)) X hf hP hD hS dX11_would_37
    · have hf := hf.2 c_4
      refine lv_iconst (v := 2) hx hb dX11_would_21 (by decide) ?_
      refine lv_goto (tgt := 26) hx hb dX11_would_22 (by decide) ?_
      refine z_put (w' := cl_X11 cI cJ a ((2 : Int32), u.2)) (ci := 10) (v := .int (2 : Int32)) (ty := .int) (Cn := RX11) (T := TX11) (N := 17) X inX11 tyX11 tyX11_ok nmX11 hP hD hS 0 rfl rfl 0 (by decide) (hts _ q_fl_X11_43) (fun _ h9 => h9) rfl (tyX11_ok 0 (by decide)) rfl rfl (Nat.le_of_ble_eq_true rfl) rfl dX11_would_26 (fun H locs hP hD hS => ?_)
      refine lv_aload_n hx hb dX11_would_29 rfl (lv_at hl 0 rfl) ?_
      refine va_get (D := (dC, dI)) (ci := 10) (v := .int (2 : Int32)) (C := RX11) (T := TX11) (N := 17) hx hb hts inX11 hown hK hP 0 rfl rfl 0 (by decide) (hts _ q_fl_X11_43) (fun _ h9 => h9) rfl dX11_would_30 ?_
      refine lv_if_le (tgt := 38) hx hb dX11_would_33 (by decide) (fun c_26 => ?_) (fun c_26 => ?_)
      · have hf := hf.1 c_26
        refine lv_aload_n hx hb dX11_would_38 rfl (lv_at hl 0 rfl) ?_
        refine z_mVv (Wn := (fun u_28 => cl_X11 cI cJ a u_28)) (As := []) (rest := []) (wr := []) X (c_X11_keepsTrial l dC dI cI cJ cS a ((2 : Int32), u.2)  _ hf _) zc_X11_keepsTrial q_ml_X11_311 ⟨rfl, rfl⟩ ⟨Nat.le_of_ble_eq_true rfl, Nat.le_of_ble_eq_true rfl⟩ hP hD hS hA [0, 1, 2, 3, 4, 5, 6, 7, 8] [] rfl (by decide) rfl (by decide) (by decide) [0, 1, 2, 3, 4, 5, 6, 7, 8] (by decide) (fun _ => rfl) 10 rfl rfl hl.1 rfl rfl (Nat.le_of_ble_eq_true rfl) ⟨Nat.zero_le _, Nat.zero_le _⟩ dX11_would_39 (fun u_28 H locs hf hP hD hS => ?_)
        refine lv_aload_n hx hb dX11_would_42 rfl (lv_at hl 0 rfl) ?_
        refine z_cVi (As := []) (rest := []) X (c_X11_spare l dC dI cI cJ cS a u_28  _ hf) zc_X11_spare q_ml_X11_317 ⟨rfl, rfl⟩ ⟨Nat.le_of_ble_eq_true rfl, Nat.le_of_ble_eq_true rfl⟩ hP [0, 1, 2, 3, 4, 5, 6, 7, 8] rfl 10 rfl rfl hl.1 rfl rfl (Nat.le_of_ble_eq_true rfl) ⟨Nat.zero_le _, Nat.zero_le _⟩ dX11_would_43 (fun r_29 hf => ?_)
        refine lv_istore_n (lv' := [(3, .int r_29), (0, .ref (a 0)), (1, .int x1), (2, .int x2)]) hx hb dX11_would_46 rfl hl (by decide) rfl (fun ls hl => ?_)
        refine lv_aload_n hx hb dX11_would_47 rfl (lv_at hl 1 rfl) ?_
        refine lv_iload_n hx hb dX11_would_48 rfl (lv_at hl 2 rfl) ?_
        refine z_mVi (Wn := (fun u_31 => cl_X11 cI cJ a u_31)) (As := [.int x1]) (rest := []) (wr := []) X (c_X11_goesThrough l dC dI cI cJ cS a u_28 x1 _ hf _) zc_X11_goesThrough q_ml_X11_320 ⟨rfl, rfl⟩ ⟨Nat.le_of_ble_eq_true rfl, Nat.le_of_ble_eq_true rfl⟩ hP hD hS hA [0, 1, 2, 3, 4, 5, 6, 7, 8] [] rfl (by decide) rfl (by decide) (by decide) [0, 1, 2, 3, 4, 5, 6, 7, 8] (by decide) (fun _ => rfl) 10 rfl rfl hl.1 rfl rfl (Nat.le_of_ble_eq_true rfl) ⟨Nat.zero_le _, Nat.zero_le _⟩ dX11_would_49 (fun r_30 u_31 H locs hf hP hD hS => ?_)
        obtain ⟨hbr_30, hf⟩ := hf
        refine lv_istore (lv' := [(4, .int r_30), (3, .int r_29), (0, .ref (a 0)), (1, .int x1), (2, .int x2)]) hx hb dX11_would_52 hl (by decide) rfl (fun ls hl => ?_)
        refine lv_iload_n hx hb dX11_would_54 rfl (lv_at hl 4 rfl) ?_
        refine lv_if_ne (tgt := 76) hx hb dX11_would_55 (by decide) (fun c_32 => ?_) (fun c_32 => ?_)
        · have hf := hf.1 c_32
          refine lv_iload_n hx hb dX11_would_76 rfl (lv_at hl 4 rfl) ?_
          refine lv_iconst (v := 1) hx hb dX11_would_77 (by decide) ?_
          refine lv_icmp_ne (tgt := 90) hx hb dX11_would_78 (by decide) (fun c_33 => ?_) (fun c_33 => ?_)
          · have hf := hf.1 c_33
            refine lv_aload_n hx hb dX11_would_90 rfl (lv_at hl 2 rfl) ?_
            refine va_get (D := (dC, dI)) (ci := 10) (v := .ref (a 1)) (C := RX11) (T := TX11) (N := 17) hx hb hts inX11 hown hK hP 0 rfl rfl 1 (by decide) (hts _ q_fl_X11_7) (fun _ h9 => h9) rfl dX11_would_91 ?_
            refine lv_bipush (v := 14) hx hb dX11_would_94 (by decide) ?_
            obtain ⟨hg, hf⟩ := hf
            refine va_iald hx hb hK hP 1 0 rfl rfl hg dX11_would_96 ?_
            refine lv_aload_n hx hb dX11_would_97 rfl (lv_at hl 2 rfl) ?_
            refine va_get (D := (dC, dI)) (ci := 10) (v := .ref (a 3)) (C := RX11) (T := TX11) (N := 17) hx hb hts inX11 hown hK hP 0 rfl rfl 3 (by decide) (hts _ q_fl_X11_16) (fun _ h9 => h9) rfl dX11_would_98 ?_
            refine lv_bipush (v := 14) hx hb dX11_would_101 (by decide) ?_
            obtain ⟨hg, hf⟩ := hf
            refine va_iald hx hb hK hP 3 0 rfl rfl hg dX11_would_103 ?_
            refine lv_isub hx hb dX11_would_104 ?_
            refine lv_topi (fun x_34 ex_34 => ?_)
            have hf := hf x_34 ex_34
            refine lv_istore (lv' := [(5, .int x_34), (4, .int r_30), (3, .int r_29), (0, .ref (a 0)), (1, .int x1), (2, .int x2)]) hx hb dX11_would_105 hl (by decide) rfl (fun ls hl => ?_)
            refine lv_aload_n hx hb dX11_would_107 rfl (lv_at hl 3 rfl) ?_
            refine z_mVv (Wn := (fun u_36 => cl_X11 cI cJ a u_36)) (As := []) (rest := []) (wr := []) X (c_X11_trialBack l dC dI cI cJ cS a u_31  _ hf _) zc_X11_trialBack q_ml_X11_314 ⟨rfl, rfl⟩ ⟨Nat.le_of_ble_eq_true rfl, Nat.le_of_ble_eq_true rfl⟩ hP hD hS hA [0, 1, 2, 3, 4, 5, 6, 7, 8] [] rfl (by decide) rfl (by decide) (by decide) [0, 1, 2, 3, 4, 5, 6, 7, 8] (by decide) (fun _ => rfl) 10 rfl rfl hl.1 rfl rfl (Nat.le_of_ble_eq_true rfl) ⟨Nat.zero_le _, Nat.zero_le _⟩ dX11_would_108 (fun u_36 H locs hf hP hD hS => ?_)
            refine lv_iload hx hb dX11_would_111 (lv_at hl 1 rfl) ?_
            refine lv_if_eq (tgt := 121) hx hb dX11_would_113 (by decide) (fun c_37 => ?_) (fun c_37 => ?_)
            · have hf := hf.1 c_37
              refine lv_sipush (v := (-1000)) hx hb dX11_would_121 (by decide) ?_
              exact z_retMi (Wf := (fun z => cl_X11 cI cJ a z)) (u := u_36) X hf hP hD hS dX11_would_124
            · have hf := hf.2 c_37
              refine lv_iload hx hb dX11_would_116 (lv_at hl 0 rfl) ?_
              refine lv_goto (tgt := 124) hx hb dX11_would_118 (by decide) ?_
              exact z_retMi (Wf := (fun z => cl_X11 cI cJ a z)) (u := u_36) X hf hP hD hS dX11_would_124
          · have hf := hf.2 c_33
            refine lv_aload_n hx hb dX11_would_81 rfl (lv_at hl 2 rfl) ?_
            refine z_cVi (As := []) (rest := []) X (c_X11_spare l dC dI cI cJ cS a u_31  _ hf) zc_X11_spare q_ml_X11_317 ⟨rfl, rfl⟩ ⟨Nat.le_of_ble_eq_true rfl, Nat.le_of_ble_eq_true rfl⟩ hP [0, 1, 2, 3, 4, 5, 6, 7, 8] rfl 10 rfl rfl hl.1 rfl rfl (Nat.le_of_ble_eq_true rfl) ⟨Nat.zero_le _, Nat.zero_le _⟩ dX11_would_82 (fun r_38 hf => ?_)
            refine lv_iload_n hx hb dX11_would_85 rfl (lv_at hl 1 rfl) ?_
            refine lv_isub hx hb dX11_would_86 ?_
            refine lv_goto (tgt := 105) hx hb dX11_would_87 (by decide) ?_
            refine lv_topi (fun x_39 ex_39 => ?_)
            have hf := hf x_39 ex_39
            refine lv_istore (lv' := [(5, .int x_39), (4, .int r_30), (3, .int r_29), (0, .ref (a 0)), (1, .int x1), (2, .int x2)]) hx hb dX11_would_105 hl (by decide) rfl (fun ls hl => ?_)
            refine lv_aload_n hx hb dX11_would_107 rfl (lv_at hl 3 rfl) ?_
            refine z_mVv (Wn := (fun u_41 => cl_X11 cI cJ a u_41)) (As := []) (rest := []) (wr := []) X (c_X11_trialBack l dC dI cI cJ cS a u_31  _ hf _) zc_X11_trialBack q_ml_X11_314 ⟨rfl, rfl⟩ ⟨Nat.le_of_ble_eq_true rfl, Nat.le_of_ble_eq_true rfl⟩ hP hD hS hA [0, 1, 2, 3, 4, 5, 6, 7, 8] [] rfl (by decide) rfl (by decide) (by decide) [0, 1, 2, 3, 4, 5, 6, 7, 8] (by decide) (fun _ => rfl) 10 rfl rfl hl.1 rfl rfl (Nat.le_of_ble_eq_true rfl) ⟨Nat.zero_le _, Nat.zero_le _⟩ dX11_would_108 (fun u_41 H locs hf hP hD hS => ?_)
            refine lv_iload hx hb dX11_would_111 (lv_at hl 1 rfl) ?_
            refine lv_if_eq (tgt := 121) hx hb dX11_would_113 (by decide) (fun c_42 => ?_) (fun c_42 => ?_)
            · have hf := hf.1 c_42
              refine lv_sipush (v := (-1000)) hx hb dX11_would_121 (by decide) ?_
              exact z_retMi (Wf := (fun z => cl_X11 cI cJ a z)) (u := u_41) X hf hP hD hS dX11_would_124
            · have hf := hf.2 c_42
              refine lv_iload hx hb dX11_would_116 (lv_at hl 0 rfl) ?_
              refine lv_goto (tgt := 124) hx hb dX11_would_118 (by decide) ?_
              exact z_retMi (Wf := (fun z => cl_X11 cI cJ a z)) (u := u_41) X hf hP hD hS dX11_would_124
        · have hf := hf.2 c_32
          refine lv_aload_n hx hb dX11_would_58 rfl (lv_at hl 2 rfl) ?_
          refine va_get (D := (dC, dI)) (ci := 10) (v := .ref (a 1)) (C := RX11) (T := TX11) (N := 17) hx hb hts inX11 hown hK hP 0 rfl rfl 1 (by decide) (hts _ q_fl_X11_7) (fun _ h9 => h9) rfl dX11_would_59 ?_
          refine lv_bipush (v := 11) hx hb dX11_would_62 (by decide) ?_
          obtain ⟨hg, hf⟩ := hf
          refine va_iald hx hb hK hP 1 0 rfl rfl hg dX11_would_64 ?_
          refine lv_aload_n hx hb dX11_would_65 rfl (lv_at hl 2 rfl) ?_
          refine va_get (D := (dC, dI)) (ci := 10) (v := .ref (a 3)) (C := RX11) (T := TX11) (N := 17) hx hb hts inX11 hown hK hP 0 rfl rfl 3 (by decide) (hts _ q_fl_X11_16) (fun _ h9 => h9) rfl dX11_would_66 ?_
          refine lv_bipush (v := 11) hx hb dX11_would_69 (by decide) ?_
          obtain ⟨hg, hf⟩ := hf
          refine va_iald hx hb hK hP 3 0 rfl rfl hg dX11_would_71 ?_
          refine lv_isub hx hb dX11_would_72 ?_
          refine lv_goto (tgt := 105) hx hb dX11_would_73 (by decide) ?_
          refine lv_topi (fun x_43 ex_43 => ?_)
          have hf := hf x_43 ex_43
          refine lv_istore (lv' := [(5, .int x_43), (4, .int r_30), (3, .int r_29), (0, .ref (a 0)), (1, .int x1), (2, .int x2)]) hx hb dX11_would_105 hl (by decide) rfl (fun ls hl => ?_)
          refine lv_aload_n hx hb dX11_would_107 rfl (lv_at hl 3 rfl) ?_
          refine z_mVv (Wn := (fun u_45 => cl_X11 cI cJ a u_45)) (As := []) (rest := []) (wr := []) X (c_X11_trialBack l dC dI cI cJ cS a u_31  _ hf _) zc_X11_trialBack q_ml_X11_314 ⟨rfl, rfl⟩ ⟨Nat.le_of_ble_eq_true rfl, Nat.le_of_ble_eq_true rfl⟩ hP hD hS hA [0, 1, 2, 3, 4, 5, 6, 7, 8] [] rfl (by decide) rfl (by decide) (by decide) [0, 1, 2, 3, 4, 5, 6, 7, 8] (by decide) (fun _ => rfl) 10 rfl rfl hl.1 rfl rfl (Nat.le_of_ble_eq_true rfl) ⟨Nat.zero_le _, Nat.zero_le _⟩ dX11_would_108 (fun u_45 H locs hf hP hD hS => ?_)
          refine lv_iload hx hb dX11_would_111 (lv_at hl 1 rfl) ?_
          refine lv_if_eq (tgt := 121) hx hb dX11_would_113 (by decide) (fun c_46 => ?_) (fun c_46 => ?_)
          · have hf := hf.1 c_46
            refine lv_sipush (v := (-1000)) hx hb dX11_would_121 (by decide) ?_
            exact z_retMi (Wf := (fun z => cl_X11 cI cJ a z)) (u := u_45) X hf hP hD hS dX11_would_124
          · have hf := hf.2 c_46
            refine lv_iload hx hb dX11_would_116 (lv_at hl 0 rfl) ?_
            refine lv_goto (tgt := 124) hx hb dX11_would_118 (by decide) ?_
            exact z_retMi (Wf := (fun z => cl_X11 cI cJ a z)) (u := u_45) X hf hP hD hS dX11_would_124
      · have hf := hf.2 c_26
        refine lv_iconst (v := 0) hx hb dX11_would_36 (by decide) ?_
        exact z_retMi (Wf := (fun z => cl_X11 cI cJ a z)) (u := ((2 : Int32), u.2)) X hf hP hD hS dX11_would_37
  · have hf := hf.2 c_2
    refine lv_iconst (v := 1) hx hb dX11_would_8 (by decide) ?_
    refine lv_goto (tgt := 26) hx hb dX11_would_9 (by decide) ?_
    refine z_put (w' := cl_X11 cI cJ a ((1 : Int32), u.2)) (ci := 10) (v := .int (1 : Int32)) (ty := .int) (Cn := RX11) (T := TX11) (N := 17) X inX11 tyX11 tyX11_ok nmX11 hP hD hS 0 rfl rfl 0 (by decide) (hts _ q_fl_X11_43) (fun _ h9 => h9) rfl (tyX11_ok 0 (by decide)) rfl rfl (Nat.le_of_ble_eq_true rfl) rfl dX11_would_26 (fun H locs hP hD hS => ?_)
    refine lv_aload_n hx hb dX11_would_29 rfl (lv_at hl 0 rfl) ?_
    refine va_get (D := (dC, dI)) (ci := 10) (v := .int (1 : Int32)) (C := RX11) (T := TX11) (N := 17) hx hb hts inX11 hown hK hP 0 rfl rfl 0 (by decide) (hts _ q_fl_X11_43) (fun _ h9 => h9) rfl dX11_would_30 ?_
    refine lv_if_le (tgt := 38) hx hb dX11_would_33 (by decide) (fun c_47 => ?_) (fun c_47 => ?_)
    · have hf := hf.1 c_47
      refine lv_aload_n hx hb dX11_would_38 rfl (lv_at hl 0 rfl) ?_
      refine z_mVv (Wn := (fun u_49 => cl_X11 cI cJ a u_49)) (As := []) (rest := []) (wr := []) X (c_X11_keepsTrial l dC dI cI cJ cS a ((1 : Int32), u.2)  _ hf _) zc_X11_keepsTrial q_ml_X11_311 ⟨rfl, rfl⟩ ⟨Nat.le_of_ble_eq_true rfl, Nat.le_of_ble_eq_true rfl⟩ hP hD hS hA [0, 1, 2, 3, 4, 5, 6, 7, 8] [] rfl (by decide) rfl (by decide) (by decide) [0, 1, 2, 3, 4, 5, 6, 7, 8] (by decide) (fun _ => rfl) 10 rfl rfl hl.1 rfl rfl (Nat.le_of_ble_eq_true rfl) ⟨Nat.zero_le _, Nat.zero_le _⟩ dX11_would_39 (fun u_49 H locs hf hP hD hS => ?_)
      refine lv_aload_n hx hb dX11_would_42 rfl (lv_at hl 0 rfl) ?_
      refine z_cVi (As := []) (rest := []) X (c_X11_spare l dC dI cI cJ cS a u_49  _ hf) zc_X11_spare q_ml_X11_317 ⟨rfl, rfl⟩ ⟨Nat.le_of_ble_eq_true rfl, Nat.le_of_ble_eq_true rfl⟩ hP [0, 1, 2, 3, 4, 5, 6, 7, 8] rfl 10 rfl rfl hl.1 rfl rfl (Nat.le_of_ble_eq_true rfl) ⟨Nat.zero_le _, Nat.zero_le _⟩ dX11_would_43 (fun r_50 hf => ?_)
      refine lv_istore_n (lv' := [(3, .int r_50), (0, .ref (a 0)), (1, .int x1), (2, .int x2)]) hx hb dX11_would_46 rfl hl (by decide) rfl (fun ls hl => ?_)
      refine lv_aload_n hx hb dX11_would_47 rfl (lv_at hl 1 rfl) ?_
      refine lv_iload_n hx hb dX11_would_48 rfl (lv_at hl 2 rfl) ?_
      refine z_mVi (Wn := (fun u_52 => cl_X11 cI cJ a u_52)) (As := [.int x1]) (rest := []) (wr := []) X (c_X11_goesThrough l dC dI cI cJ cS a u_49 x1 _ hf _) zc_X11_goesThrough q_ml_X11_320 ⟨rfl, rfl⟩ ⟨Nat.le_of_ble_eq_true rfl, Nat.le_of_ble_eq_true rfl⟩ hP hD hS hA [0, 1, 2, 3, 4, 5, 6, 7, 8] [] rfl (by decide) rfl (by decide) (by decide) [0, 1, 2, 3, 4, 5, 6, 7, 8] (by decide) (fun _ => rfl) 10 rfl rfl hl.1 rfl rfl (Nat.le_of_ble_eq_true rfl) ⟨Nat.zero_le _, Nat.zero_le _⟩ dX11_would_49 (fun r_51 u_52 H locs hf hP hD hS => ?_)
      obtain ⟨hbr_51, hf⟩ := hf
      refine lv_istore (lv' := [(4, .int r_51), (3, .int r_50), (0, .ref (a 0)), (1, .int x1), (2, .int x2)]) hx hb dX11_would_52 hl (by decide) rfl (fun ls hl => ?_)
      refine lv_iload_n hx hb dX11_would_54 rfl (lv_at hl 4 rfl) ?_
      refine lv_if_ne (tgt := 76) hx hb dX11_would_55 (by decide) (fun c_53 => ?_) (fun c_53 => ?_)
      · have hf := hf.1 c_53
        refine lv_iload_n hx hb dX11_would_76 rfl (lv_at hl 4 rfl) ?_
        refine lv_iconst (v := 1) hx hb dX11_would_77 (by decide) ?_
        refine lv_icmp_ne (tgt := 90) hx hb dX11_would_78 (by decide) (fun c_54 => ?_) (fun c_54 => ?_)
        · have hf := hf.1 c_54
          refine lv_aload_n hx hb dX11_would_90 rfl (lv_at hl 2 rfl) ?_
          refine va_get (D := (dC, dI)) (ci := 10) (v := .ref (a 1)) (C := RX11) (T := TX11) (N := 17) hx hb hts inX11 hown hK hP 0 rfl rfl 1 (by decide) (hts _ q_fl_X11_7) (fun _ h9 => h9) rfl dX11_would_91 ?_
          refine lv_bipush (v := 14) hx hb dX11_would_94 (by decide) ?_
          obtain ⟨hg, hf⟩ := hf
          refine va_iald hx hb hK hP 1 0 rfl rfl hg dX11_would_96 ?_
          refine lv_aload_n hx hb dX11_would_97 rfl (lv_at hl 2 rfl) ?_
          refine va_get (D := (dC, dI)) (ci := 10) (v := .ref (a 3)) (C := RX11) (T := TX11) (N := 17) hx hb hts inX11 hown hK hP 0 rfl rfl 3 (by decide) (hts _ q_fl_X11_16) (fun _ h9 => h9) rfl dX11_would_98 ?_
          refine lv_bipush (v := 14) hx hb dX11_would_101 (by decide) ?_
          obtain ⟨hg, hf⟩ := hf
          refine va_iald hx hb hK hP 3 0 rfl rfl hg dX11_would_103 ?_
          refine lv_isub hx hb dX11_would_104 ?_
          refine lv_topi (fun x_55 ex_55 => ?_)
          have hf := hf x_55 ex_55
          refine lv_istore (lv' := [(5, .int x_55), (4, .int r_51), (3, .int r_50), (0, .ref (a 0)), (1, .int x1), (2, .int x2)]) hx hb dX11_would_105 hl (by decide) rfl (fun ls hl => ?_)
          refine lv_aload_n hx hb dX11_would_107 rfl (lv_at hl 3 rfl) ?_
          refine z_mVv (Wn := (fun u_57 => cl_X11 cI cJ a u_57)) (As := []) (rest := []) (wr := []) X (c_X11_trialBack l dC dI cI cJ cS a u_52  _ hf _) zc_X11_trialBack q_ml_X11_314 ⟨rfl, rfl⟩ ⟨Nat.le_of_ble_eq_true rfl, Nat.le_of_ble_eq_true rfl⟩ hP hD hS hA [0, 1, 2, 3, 4, 5, 6, 7, 8] [] rfl (by decide) rfl (by decide) (by decide) [0, 1, 2, 3, 4, 5, 6, 7, 8] (by decide) (fun _ => rfl) 10 rfl rfl hl.1 rfl rfl (Nat.le_of_ble_eq_true rfl) ⟨Nat.zero_le _, Nat.zero_le _⟩ dX11_would_108 (fun u_57 H locs hf hP hD hS => ?_)
          refine lv_iload hx hb dX11_would_111 (lv_at hl 1 rfl) ?_
          refine lv_if_eq (tgt := 121) hx hb dX11_would_113 (by decide) (fun c_58 => ?_) (fun c_58 => ?_)
          · have hf := hf.1 c_58
            refine lv_sipush (v := (-1000)) hx hb dX11_would_121 (by decide) ?_
            exact z_retMi (Wf := (fun z => cl_X11 cI cJ a z)) (u := u_57) X hf hP hD hS dX11_would_124
          · have hf := hf.2 c_58
            refine lv_iload hx hb dX11_would_116 (lv_at hl 0 rfl) ?_
            refine lv_goto (tgt := 124) hx hb dX11_would_118 (by decide) ?_
            exact z_retMi (Wf := (fun z => cl_X11 cI cJ a z)) (u := u_57) X hf hP hD hS dX11_would_124
        · have hf := hf.2 c_54
          refine lv_aload_n hx hb dX11_would_81 rfl (lv_at hl 2 rfl) ?_
          refine z_cVi (As := []) (rest := []) X (c_X11_spare l dC dI cI cJ cS a u_52  _ hf) zc_X11_spare q_ml_X11_317 ⟨rfl, rfl⟩ ⟨Nat.le_of_ble_eq_true rfl, Nat.le_of_ble_eq_true rfl⟩ hP [0, 1, 2, 3, 4, 5, 6, 7, 8] rfl 10 rfl rfl hl.1 rfl rfl (Nat.le_of_ble_eq_true rfl) ⟨Nat.zero_le _, Nat.zero_le _⟩ dX11_would_82 (fun r_59 hf => ?_)
          refine lv_iload_n hx hb dX11_would_85 rfl (lv_at hl 1 rfl) ?_
          refine lv_isub hx hb dX11_would_86 ?_
          refine lv_goto (tgt := 105) hx hb dX11_would_87 (by decide) ?_
          refine lv_topi (fun x_60 ex_60 => ?_)
          have hf := hf x_60 ex_60
          refine lv_istore (lv' := [(5, .int x_60), (4, .int r_51), (3, .int r_50), (0, .ref (a 0)), (1, .int x1), (2, .int x2)]) hx hb dX11_would_105 hl (by decide) rfl (fun ls hl => ?_)
          refine lv_aload_n hx hb dX11_would_107 rfl (lv_at hl 3 rfl) ?_
          refine z_mVv (Wn := (fun u_62 => cl_X11 cI cJ a u_62)) (As := []) (rest := []) (wr := []) X (c_X11_trialBack l dC dI cI cJ cS a u_52  _ hf _) zc_X11_trialBack q_ml_X11_314 ⟨rfl, rfl⟩ ⟨Nat.le_of_ble_eq_true rfl, Nat.le_of_ble_eq_true rfl⟩ hP hD hS hA [0, 1, 2, 3, 4, 5, 6, 7, 8] [] rfl (by decide) rfl (by decide) (by decide) [0, 1, 2, 3, 4, 5, 6, 7, 8] (by decide) (fun _ => rfl) 10 rfl rfl hl.1 rfl rfl (Nat.le_of_ble_eq_true rfl) ⟨Nat.zero_le _, Nat.zero_le _⟩ dX11_would_108 (fun u_62 H locs hf hP hD hS => ?_)
          refine lv_iload hx hb dX11_would_111 (lv_at hl 1 rfl) ?_
          refine lv_if_eq (tgt := 121) hx hb dX11_would_113 (by decide) (fun c_63 => ?_) (fun c_63 => ?_)
          · have hf := hf.1 c_63
            refine lv_sipush (v := (-1000)) hx hb dX11_would_121 (by decide) ?_
            exact z_retMi (Wf := (fun z => cl_X11 cI cJ a z)) (u := u_62) X hf hP hD hS dX11_would_124
          · have hf := hf.2 c_63
            refine lv_iload hx hb dX11_would_116 (lv_at hl 0 rfl) ?_
            refine lv_goto (tgt := 124) hx hb dX11_would_118 (by decide) ?_
            exact z_retMi (Wf := (fun z => cl_X11 cI cJ a z)) (u := u_62) X hf hP hD hS dX11_would_124
      · have hf := hf.2 c_53
        refine lv_aload_n hx hb dX11_would_58 rfl (lv_at hl 2 rfl) ?_
        refine va_get (D := (dC, dI)) (ci := 10) (v := .ref (a 1)) (C := RX11) (T := TX11) (N := 17) hx hb hts inX11 hown hK hP 0 rfl rfl 1 (by decide) (hts _ q_fl_X11_7) (fun _ h9 => h9) rfl dX11_would_59 ?_
        refine lv_bipush (v := 11) hx hb dX11_would_62 (by decide) ?_
        obtain ⟨hg, hf⟩ := hf
        refine va_iald hx hb hK hP 1 0 rfl rfl hg dX11_would_64 ?_
        refine lv_aload_n hx hb dX11_would_65 rfl (lv_at hl 2 rfl) ?_
        refine va_get (D := (dC, dI)) (ci := 10) (v := .ref (a 3)) (C := RX11) (T := TX11) (N := 17) hx hb hts inX11 hown hK hP 0 rfl rfl 3 (by decide) (hts _ q_fl_X11_16) (fun _ h9 => h9) rfl dX11_would_66 ?_
        refine lv_bipush (v := 11) hx hb dX11_would_69 (by decide) ?_
        obtain ⟨hg, hf⟩ := hf
        refine va_iald hx hb hK hP 3 0 rfl rfl hg dX11_would_71 ?_
        refine lv_isub hx hb dX11_would_72 ?_
        refine lv_goto (tgt := 105) hx hb dX11_would_73 (by decide) ?_
        refine lv_topi (fun x_64 ex_64 => ?_)
        have hf := hf x_64 ex_64
        refine lv_istore (lv' := [(5, .int x_64), (4, .int r_51), (3, .int r_50), (0, .ref (a 0)), (1, .int x1), (2, .int x2)]) hx hb dX11_would_105 hl (by decide) rfl (fun ls hl => ?_)
        refine lv_aload_n hx hb dX11_would_107 rfl (lv_at hl 3 rfl) ?_
        refine z_mVv (Wn := (fun u_66 => cl_X11 cI cJ a u_66)) (As := []) (rest := []) (wr := []) X (c_X11_trialBack l dC dI cI cJ cS a u_52  _ hf _) zc_X11_trialBack q_ml_X11_314 ⟨rfl, rfl⟩ ⟨Nat.le_of_ble_eq_true rfl, Nat.le_of_ble_eq_true rfl⟩ hP hD hS hA [0, 1, 2, 3, 4, 5, 6, 7, 8] [] rfl (by decide) rfl (by decide) (by decide) [0, 1, 2, 3, 4, 5, 6, 7, 8] (by decide) (fun _ => rfl) 10 rfl rfl hl.1 rfl rfl (Nat.le_of_ble_eq_true rfl) ⟨Nat.zero_le _, Nat.zero_le _⟩ dX11_would_108 (fun u_66 H locs hf hP hD hS => ?_)
        refine lv_iload hx hb dX11_would_111 (lv_at hl 1 rfl) ?_
        refine lv_if_eq (tgt := 121) hx hb dX11_would_113 (by decide) (fun c_67 => ?_) (fun c_67 => ?_)
        · have hf := hf.1 c_67
          refine lv_sipush (v := (-1000)) hx hb dX11_would_121 (by decide) ?_
          exact z_retMi (Wf := (fun z => cl_X11 cI cJ a z)) (u := u_66) X hf hP hD hS dX11_would_124
        · have hf := hf.2 c_67
          refine lv_iload hx hb dX11_would_116 (lv_at hl 0 rfl) ?_
          refine lv_goto (tgt := 124) hx hb dX11_would_118 (by decide) ?_
          exact z_retMi (Wf := (fun z => cl_X11 cI cJ a z)) (u := u_66) X hf hP hD hS dX11_would_124
    · have hf := hf.2 c_47
      refine lv_iconst (v := 0) hx hb dX11_would_36 (by decide) ?_
      exact z_retMi (Wf := (fun z => cl_X11 cI cJ a z)) (u := ((1 : Int32), u.2)) X hf hP hD hS dX11_would_37
def s_X11_would (u : zModel) (x1 x2 : Int32) (Q : Int32 → zModel → Prop) : Prop := ∃ (B : Nat) (G : zG), okG B G ∧ B + 51 ≤ 400000 ∧ mG G u ∧ ∀ u' : zModel, mG G u' → u'.1 = (fWould (gNow G) x1 x2).1 → Q (fWould (gNow G) x1 x2).2 u'
theorem st_X11_would {u : zModel} {x1 x2 : Int32} {Q : Int32 → zModel → Prop} (h : s_X11_would u x1 x2 Q) : t_X11_would u x1 x2 Q := by
  obtain ⟨B, G, hG, hB, hm, hQ⟩ := h
  unfold fWould at hQ
  have hmk : mOk (gNow G) u.2.1 := hG.1.mok hm.now
  refine isIn_of (fun c1 => ⟨fun _ => isIn_of (fun c2 => ⟨fun _ => ⟨fun _ => ?_, fun q => absurd (by decide) q⟩, fun q => absurd q (by decide)⟩) (fun c2 => ⟨fun q => absurd rfl q, fun _ => ⟨fun q => absurd q (by decide), fun _ => ?_⟩⟩), fun q => absurd q (by decide)⟩) (fun c1 => ⟨fun q => absurd rfl q, fun _ => ⟨fun q => absurd q (by decide), fun _ => ?_⟩⟩)
  · rw [if_pos c1, if_pos c2] at hQ
    obtain ⟨s, hs, rfl, es⟩ := seg_n c1
    rw [es] at hQ
    intro tr htr
    have rtr : mRel (gNow G) tr := hG.1.same hm.now htr
    have t11 := rtr.1 11 (by decide)
    have t14 := rtr.1 14 (by decide)
    refine ⟨gNow G, hmk, B, gNow G, hG.1, hB, hm.now, Or.inr ⟨s, hs, rfl⟩, fun s' hs' es' h0 m' hm' => ?_, fun h0 => ?_⟩
    · rw [uSel_n _ hs] at es' h0
      have ess : s = s' := (nI_eq (by omega) (by omega)).mp es'
      subst ess
      rw [if_pos h0] at hQ
      have hgo := hG.1.go hB hs (uRp_0 hs h0).2
      unfold uGoI
      have m11 := hm'.1 11 (by decide)
      have m14 := hm'.1 14 (by decide)
      have fin : ∀ f : Nat → Int32, (∀ j, j < 5497 → f j = tr j) → ∀ y : Int32, y = uWouldA (gNow G) (uGo (gNow G) s) x2 → (((if (uGo (gNow G) s).2.2.2.2.1.2.1 = -1 then (1 : Int32) else 0) = 0 → Q (-1000 : Int32) ((0 : Int32), f, u.2.2.1, tr, u.2.2.2.2)) ∧ (¬ (if (uGo (gNow G) s).2.2.2.2.1.2.1 = -1 then (1 : Int32) else 0) = 0 → Q y ((0 : Int32), f, u.2.2.1, tr, u.2.2.2.2))) := by
        intro f hf y hy
        have mg : mG G ((0 : Int32), f, u.2.2.1, tr, u.2.2.2.2) := mG_of (hG.1.same rtr hf) hm.r hm.2.2.2.2.2.2
        by_cases c : (uGo (gNow G) s).2.2.2.2.1.2.1 = -1
        · rw [if_pos c] at hQ ⊢
          exact ⟨fun q => absurd q (by decide), fun _ => by rw [hy]; exact hQ _ mg rfl⟩
        · rw [if_neg c] at hQ ⊢
          exact ⟨fun _ => hQ _ mg rfl, fun q => absurd rfl q⟩
      refine ⟨fun d => ⟨fun d2 => ?_, fun d2 => ?_⟩, fun d => ?_⟩
      · dsimp only
        rw [n_c14, m14, t14]
        refine ⟨vp_in_nI (n := 14) (by decide) (by decide), vp_in_nI (n := 14) (by decide) (by decide), fun y ey f hf => fin f hf y ?_⟩
        unfold uWouldA
        rw [if_neg d, if_neg d2]; exact ey
      · refine ⟨uGo (gNow G) s, hgo.mok hm', fun y ey f hf => fin f hf y ?_⟩
        unfold uWouldA
        rw [if_neg d, if_pos d2]; exact ey
      · dsimp only
        rw [n_c11, m11, t11]
        refine ⟨vp_in_nI (n := 11) (by decide) (by decide), vp_in_nI (n := 11) (by decide) (by decide), fun y ey f hf => fin f hf y ?_⟩
        unfold uWouldA
        rw [if_pos d]; exact ey
    · rw [uSel_n _ hs] at h0
      rw [if_neg h0] at hQ
      have fin : ∀ f : Nat → Int32, (∀ j, j < 5497 → f j = tr j) → Q (-1000 : Int32) ((0 : Int32), f, u.2.2.1, tr, u.2.2.2.2) := fun f hf => hQ _ (mG_of (hG.1.same rtr hf) hm.r hm.2.2.2.2.2.2) rfl
      refine ⟨fun d => ⟨fun d2 => ⟨vp_in_nI (n := 14) (by decide) (by decide), vp_in_nI (n := 14) (by decide) (by decide), fun y ey f hf => ⟨fun _ => fin f hf, fun q => absurd rfl q⟩⟩, fun d2 => ⟨gNow G, hmk, fun y ey f hf => ⟨fun _ => fin f hf, fun q => absurd rfl q⟩⟩⟩, fun d => ⟨vp_in_nI (n := 11) (by decide) (by decide), vp_in_nI (n := 11) (by decide) (by decide), fun y ey f hf => ⟨fun _ => fin f hf, fun q => absurd rfl q⟩⟩⟩
  · rw [if_pos c1, if_neg c2] at hQ
    exact hQ _ (hm.th 2) rfl
  · rw [if_neg c1] at hQ
    exact hQ _ (hm.th 1) rfl
theorem c_X11_would (l : Launch) (dC : Nat → ClassId) (dI : Nat → Nat → Nat) (cI cJ cS : ClassId) (a : Nat → Nat) (u : zModel) (x1 : Int32) (x2 : Int32) (Q : Int32 → zModel → Prop) (hf : s_X11_would u x1 x2 Q) : ∀ sz : Nat, Met l yX11_would (Cond.code yX11_would cX11_would 6 (some .int) :: zT) rm_X11_would (zPm dC dI cI cJ cS (cl_X11 cI cJ a u) [.ref (a 0), .int x1, .int x2] sz) (va_Qi Q (zB dC dI cI cJ cS (va_A (cl_X11 cI cJ a u) sz) (fun z => cl_X11 cI cJ a z)) (va_A (cl_X11 cI cJ a u) sz)) 0 0 (va_A (cl_X11 cI cJ a u) sz) := L_X11_would l dC dI cI cJ cS a u x1 x2 Q (st_X11_would hf)
