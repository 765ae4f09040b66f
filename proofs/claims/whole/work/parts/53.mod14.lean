/-! what is asked: answers, both for the class and for the reference (what is thrown, the answer) -/
theorem b256 {a : Nat} (ha : a < 2 ^ 31) : nI a - nI a / (256 : Int32) * (256 : Int32) = nI (a % 256) := fa_rem (k := 8) ha (by decide)
/-- a value as a number -/
theorem vof_eq {v : zState} {k : Nat} (h : uVal v k = true) : uVof v k = nI (64 * sdN (uCur v k) + lnN (uCur v k)) ∧ 1 ≤ lnN (uCur v k) ∧ lnN (uCur v k) < 64 ∧ sdN (uCur v k) < 256 ∧ uLenF v k = nI (lnN (uCur v k)) ∧ uSeedF v k = nI (sdN (uCur v k)) := by
  obtain ⟨q1, q2⟩ := val_ne h
  obtain ⟨e1, l1⟩ := lnN_eq (uCur v k)
  obtain ⟨e2, l2⟩ := sdN_eq (uCur v k)
  have hl : ¬ lnN (uCur v k) = 0 := fun q => q2 (by rw [e1, q]; rfl)
  refine ⟨?_, by omega, l1, l2, ?_, ?_⟩
  · unfold uVof
    rw [if_pos h, e1, e2]
    have es : nI (sdN (uCur v k)) <<< ((6 : Int32) &&& 31) = nI (sdN (uCur v k) * 2 ^ 6) := pk_shlN _ 6 (by decide) (by omega)
    rw [es, Nat.mul_comm]
    exact fa_or_sum (k := 6) _ l1
  · unfold uLenF; rw [if_pos h, e1]
  · unfold uSeedF; rw [if_pos h, e2]
theorem vof_no {v : zState} {k : Nat} (h : uVal v k = false) : uVof v k = -1 ∧ uLenF v k = -1 ∧ uSeedF v k = -1 := by
  unfold uVof uLenF uSeedF
  rw [if_neg (by rw [h]; decide), if_neg (by rw [h]; decide), if_neg (by rw [h]; decide)]
  exact ⟨rfl, rfl, rfl⟩
theorem vof_iff (v w : zState) (k j : Nat) : uVof v k = uVof w j ↔ uLenF v k = uLenF w j ∧ uSeedF v k = uSeedF w j := by
  cases hv : uVal v k with
  | false =>
    obtain ⟨a1, a2, a3⟩ := vof_no hv
    cases hw : uVal w j with
    | false =>
      obtain ⟨b1, b2, b3⟩ := vof_no hw
      rw [a1, a2, a3, b1, b2, b3]; exact ⟨fun _ => ⟨rfl, rfl⟩, fun _ => rfl⟩
    | true =>
      obtain ⟨b1, b2, b3, b4, b5, b6⟩ := vof_eq hw
      rw [a1, a2, b1, b5]
      exact ⟨fun q => absurd q.symm (n_neg (by omega)), fun q => absurd q.1.symm (n_neg (by omega))⟩
  | true =>
    obtain ⟨a1, a2, a3, a4, a5, a6⟩ := vof_eq hv
    cases hw : uVal w j with
    | false =>
      obtain ⟨b1, b2, b3⟩ := vof_no hw
      rw [a1, a5, b1, b2]
      exact ⟨fun q => absurd q (n_neg (by omega)), fun q => absurd q.1 (n_neg (by omega))⟩
    | true =>
      obtain ⟨b1, b2, b3, b4, b5, b6⟩ := vof_eq hw
      rw [a1, a5, a6, b1, b5, b6]
      constructor
      · intro q
        have := (nI_eq (by omega) (by omega)).mp q
        have e1 : sdN (uCur v k) = sdN (uCur w j) := by omega
        have e2 : lnN (uCur v k) = lnN (uCur w j) := by omega
        rw [e1, e2]; exact ⟨rfl, rfl⟩
      · rintro ⟨q1, q2⟩
        have e2 := (nI_eq (by omega) (by omega)).mp q1
        have e1 := (nI_eq (by omega) (by omega)).mp q2
        rw [e1, e2]
def aKey (v : zState) (k : Nat) (x : Int32) : Int32 := if x = 0 then uLenF v k else if x = 1 then uSeedF v k else if x = 2 then uKind v.1.2.1 (uCur v k) else if x = 3 then (if uCur v k = 0 then -1 else cNum (uCur v k)) else if x = 4 then (if uKind v.1.2.1 (uCur v k) = 3 then cSeg (uCur v k) else -1) else if x = 5 then (if uKind v.1.2.1 (uCur v k) = 3 then cBeg (uCur v k) else -1) else if x = 6 then uCost v k else if x = 7 then uLvl v k else if x = 8 then nI (fa_cnt (fun l => zHas v.2.2.2.1.1 l k) (rN v + 1)) else uLenF (uCrash v) k
def fKey (v : zState) (x1 x2 : Int32) : Int32 × Int32 := if inR x1 0 63 then (if inR x2 0 9 then (0, aKey v x1.toNatClampNeg x2) else (2, 0)) else (1, 0)
def fOctet (v : zState) (x1 x2 : Int32) : Int32 × Int32 := if inR x1 0 63 then (0, if inR x2 0 (uLenF v x1.toNatClampNeg - 1) then (uSeedF v x1.toNatClampNeg + 7 * x2) &&& 255 else -1) else (1, 0)
def uFr (v : zState) (x : Int32) : Nat → Nat → Int32 → Int32
  | 0, _, _ => -1
  | n + 1, o, a => if uVal v o then (if a = x then nI o else uFr v x n (o + 1) (a + 1)) else uFr v x n (o + 1) a
def fFrom (v : zState) (x1 x2 : Int32) : Int32 × Int32 := if inR x1 0 63 then (0, uFr v x2 (64 - x1.toNatClampNeg) x1.toNatClampNeg 0) else (1, 0)
def fBelow (v : zState) (x1 : Int32) : Int32 × Int32 := if inR x1 0 63 then (0, nI (fa_cnt (uVal v) x1.toNatClampNeg)) else (1, 0)
def aSeg (v : zState) (s : Nat) (x : Int32) : Int32 := if x = 0 then v.2.2.1.2.2.2.1 s else if x = 1 then v.2.2.1.2.1 s else if x = 2 then v.2.2.1.2.2.1 s else if x = 3 then uLive v s else if x = 4 then v.2.2.1.2.2.1 s - uLive v s else if x = 5 then uLast v s else if v.2.2.1.2.2.2.1 s = 2 then (v.2.2.1.2.2.1 s - uLive v s) - uLive v s else 0
def fSegment (v : zState) (x1 x2 : Int32) : Int32 × Int32 := if inR x1 0 11 then (if inR x2 0 6 then (0, aSeg v x1.toNatClampNeg x2) else (2, 0)) else (1, 0)
def aRec (v : zState) (c : Int64) (x : Int32) : Int32 := if x = 0 then cKey c else if x = 1 then lenI c else if x = 2 then cNum c else if x = 3 then cBeg c else if uLiv v c then 1 else 0
def fRecord (v : zState) (x1 x2 x3 : Int32) : Int32 × Int32 := if inR x1 0 11 then (if inR x3 0 4 then (0, if inR x2 0 (v.2.2.1.2.1 x1.toNatClampNeg - 1) then aRec v (uRec v x1.toNatClampNeg x2.toNatClampNeg) x3 else -1) else (2, 0)) else (1, 0)
/-- the last index with a property, of n; -1 without -/
def zLst (p : Nat → Bool) : Nat → Int32
  | 0 => -1
  | n + 1 => if p n then nI n else zLst p n
noncomputable def aRun (v : zState) (l : Nat) (x : Int32) : Int32 := if x = 0 then nI (fa_cnt (fun k => zHas v.2.2.2.1.1 l k) 64) else if x = 1 then zFst (fun k => zHas v.2.2.2.1.1 l k) 64 else if x = 2 then zLst (fun k => zHas v.2.2.2.1.1 l k) 64 else if x = 3 then nI (fa_cnt (fun k => zHas v.2.2.2.1.1 l k && zDrp (v.2.2.2.1.1 (64 * l + k))) 64) else nI (fa_cnt (fun k => decide (uLvl v k = nI l)) 64)
abbrev isRn (v : zState) (x : Int32) : Prop := inR x 0 (v.2.2.2.1.2.2 - 1)
theorem run_n {v : zState} {x : Int32} (ho : zOk v) (h : isRn v x) : ∃ n : Nat, n < rN v ∧ x = nI n ∧ x.toNatClampNeg = n := by
  have hr := ho.2.1.2
  have h0 : ¬ x < 0 := h.1
  have h1 := h.2
  obtain ⟨n, hn, rfl⟩ := nI_of h0
  refine ⟨n, ?_, rfl, nI_clamp hn⟩
  rw [ho.r] at h1
  by_cases q : rN v = 0
  · rw [q] at h1
    exact absurd (show nI 0 - 1 < nI n from by
      rw [show nI 0 - 1 = (-1 : Int32) by decide, fa_lt, nI_toInt hn]
      have : (-1 : Int32).toInt = -1 := by decide
      omega) h1
  · obtain ⟨r, er⟩ : ∃ r, rN v = r + 1 := ⟨rN v - 1, by omega⟩
    rw [er, nI_pred] at h1
    have : ¬ r < n := fun q => h1 (nI_lt q hn)
    omega
theorem run_of {v : zState} {n : Nat} (ho : zOk v) (h : n < rN v) : isRn v (nI n) := by
  have hr := ho.2.1.2
  refine ⟨nI_pos (by omega), ?_⟩
  rw [ho.r]
  obtain ⟨r, er⟩ : ∃ r, rN v = r + 1 := ⟨rN v - 1, by omega⟩
  rw [er, nI_pred]
  exact nI_nlt (by omega) (by omega)
noncomputable def fRun (v : zState) (x1 x2 : Int32) : Int32 × Int32 := if isRn v x1 then (if inR x2 0 4 then (0, aRun v (x1.toNatClampNeg + 1) x2) else (2, 0)) else (1, 0)
def fEntry (v : zState) (x1 x2 : Int32) : Int32 × Int32 := if x1 = -1 then (0, zNth (fun k => zHas v.2.2.2.1.1 0 k) 64 x2) else if isRn v x1 then (0, zNth (fun k => zHas v.2.2.2.1.1 (x1.toNatClampNeg + 1) k) 64 x2) else (1, 0)
def fOverlap (v : zState) (x1 x2 : Int32) : Int32 × Int32 := if isRn v x1 ∧ isRn v x2 then (if x1 = x2 then (2, 0) else (0, nI (fa_cnt (fun k => zHas v.2.2.2.1.1 (x1.toNatClampNeg + 1) k && zHas v.2.2.2.1.1 (x2.toNatClampNeg + 1) k) 64))) else (1, 0)
def fRank (v : zState) (x1 x2 : Int32) : Int32 × Int32 := if inR x1 0 63 then (0, if uVal v x1.toNatClampNeg then (if x2 = 0 then nI (fa_cnt (fun j => uVal v j && decide (uVof v j < uVof v x1.toNatClampNeg)) 64) else zFst (fun j => decide (¬ j = x1.toNatClampNeg ∧ uVof v j = uVof v x1.toNatClampNeg)) 64) else -1) else (1, 0)
def uElder (v : zState) (j : Nat) : Nat → Nat := fa_cnt (fun o => uVal v o && decide (cNum (uCur v o) < cNum (uCur v j)))
def fOld (v : zState) (x1 : Int32) : Int32 := zFst (fun j => uVal v j && decide (nI (uElder v j 64) = x1)) 64
def trR (v : zState) (x : Int32) (s : Nat) : Nat → Int32 × Int32 × Int32 → Int32 × Int32 × Int32
  | 0, t => t
  | j + 1, t => if cKey (uRec v s j) = x then ((trR v x s j t).1 + 1, (trR v x s j t).2.1 + (4 + cLen (uRec v s j)), (trR v x s j t).2.2 ||| ((1 : Int32) <<< (nI s &&& 31))) else trR v x s j t
def trA (v : zState) (x : Int32) : Nat → Int32 × Int32 × Int32
  | 0 => (0, 0, 0)
  | s + 1 => trR v x s (gN v.2.2.1 s) (trA v x s)
def fTraces (v : zState) (x1 x2 : Int32) : Int32 × Int32 := if inR x1 0 63 then (if inR x2 0 2 then (0, if x2 = 0 then (trA v x1 12).1 else if x2 = 1 then (trA v x1 12).2.1 else (trA v x1 12).2.2) else (2, 0)) else (1, 0)
def fLog (v : zState) (x1 x2 : Int32) : Int32 × Int32 := if inR x2 0 2 then (0, if inR x1 0 (v.2.2.2.2.2.1.2 - 1) then v.2.2.2.2.2.1.1 (3 * x1.toNatClampNeg + x2.toNatClampNeg) else -1) else (1, 0)
def uDoom (v : zState) : Int32 := nI (fa_cnt (fun k => decide (¬ uVof v k = uVof (uCrash v) k)) 64)
/-- asked of the reference, which changes nothing that counts -/
def mAsk (u : zModel) (f : zState → Int32 × Int32) (Q : Int32 → zModel → Prop) : Prop := ∃ (B : Nat) (G : zG), okG B G ∧ mG G u ∧ ∀ u' : zModel, mG G u' → u'.1 = (f (gNow G)).1 → Q (f (gNow G)).2 u'

def s_X11_byteOf (x0 : Int32) (x1 : Int32) (Q : Int32 → Prop) : Prop := (¬ (256 : Int32) = 0) ∧ Q ((x0 + ((7 : Int32) * x1)) - (x0 + ((7 : Int32) * x1)) / (256 : Int32) * (256 : Int32))
theorem zc_X11_byteOf : zCalS yX11_byteOf cX11_byteOf 2 (some .int) 2 := ⟨q_st_X11_byteOf, q_in_X11, q_cd_X11_byteOf, ⟨by decide, by decide, by decide +kernel⟩⟩
abbrev rm_X11_byteOf : Room := { frames := 0, cells := 0, slots := 0, locals := 0 }
set_option maxHeartbeats 4000000 in
set_option maxRecDepth 100000 in
theorem c_X11_byteOf (l : Launch) (dC : Nat → ClassId) (dI : Nat → Nat → Nat) (cI cJ cS : ClassId) (x0 : Int32) (x1 : Int32) (Q : Int32 → Prop) (hf : s_X11_byteOf x0 x1 Q) : Met l yX11_byteOf (Cond.code yX11_byteOf cX11_byteOf 2 (some .int) :: zT) rm_X11_byteOf (zPp dC dI cI cJ cS ([]) [.int x0, .int x1]) (vp_Si Q) 0 0 (fun _ => False) := by
  refine z_enterP (cc := cX11_byteOf) (maxL := 2) (ret := (some .int)) (by decide) (Nat.le_of_ble_eq_true rfl) ?_
  intro p e s m below meth c ls X hP hl
  obtain ⟨⟨hx, hb, hml, hown, hts⟩, hr, hlk, hK⟩ := id X
  have hl : lv_has ls 2 [(0, .int x0), (1, .int x1)] := hl
  unfold s_X11_byteOf at hf
  refine lv_iload_n hx hb dX11_byteOf_0 rfl (lv_at hl 0 rfl) ?_
  refine lv_bipush (v := 7) hx hb dX11_byteOf_1 (by decide) ?_
  refine lv_iload_n hx hb dX11_byteOf_3 rfl (lv_at hl 1 rfl) ?_
  refine lv_imul hx hb dX11_byteOf_4 ?_
  refine lv_iadd hx hb dX11_byteOf_5 ?_
  refine lv_sipush (v := 256) hx hb dX11_byteOf_6 (by decide) ?_
  obtain ⟨hg, hf⟩ := hf
  refine lv_irem hx hb dX11_byteOf_9 hg ?_
  exact z_retPi X hf dX11_byteOf_10

def t_X11_crashes_e (u : zModel) (K2 : Int32 → zModel → Prop) (K34 : Int32 → Int32 → zModel → Prop) (K70 : Int32 → Int32 → zModel → Prop) (Q : zModel → Prop) : Prop := K2 (0 : Int32) u
def t_X11_crashes_2 (y1 : Int32) (z : zModel) (K2 : Int32 → zModel → Prop) (K34 : Int32 → Int32 → zModel → Prop) (K70 : Int32 → Int32 → zModel → Prop) (Q : zModel → Prop) : Prop := (((5497 : Int32) ≤ y1 → s_X11_crash0 z (fun (r_3 : Int32) (u_4 : zModel) => K34 r_3 (0 : Int32) u_4)) ∧ (¬ (5497 : Int32) ≤ y1 → vp_in y1 5497 ∧ vp_in y1 5497 ∧ ∀ f_6 : Nat → Int32, f_6 = upd z.2.2.2.1 y1.toNatClampNeg (z.2.1 y1.toNatClampNeg) → ∀ x_7 : Int32, x_7 = y1 + (1 : Int32) → K2 x_7 (z.1, z.2.1, z.2.2.1, f_6, z.2.2.2.2)))
def t_X11_crashes_34 (y1 : Int32) (y2 : Int32) (z : zModel) (K2 : Int32 → zModel → Prop) (K34 : Int32 → Int32 → zModel → Prop) (K70 : Int32 → Int32 → zModel → Prop) (Q : zModel → Prop) : Prop := (((64 : Int32) ≤ y2 → K70 y1 (0 : Int32) z) ∧ (¬ (64 : Int32) ≤ y2 → s_X11_lengthOf z y2 (fun r_11 : Int32 => vp_in y2 64 ∧ ∀ f_12 : Nat → Int32, f_12 = upd z.2.2.2.2.2.2.2.2.2.2.2.2.2.2.1 y2.toNatClampNeg r_11 → s_X11_seedOf (z.1, z.2.1, z.2.2.1, z.2.2.2.1, z.2.2.2.2.1, z.2.2.2.2.2.1, z.2.2.2.2.2.2.1, z.2.2.2.2.2.2.2.1, z.2.2.2.2.2.2.2.2.1, z.2.2.2.2.2.2.2.2.2.1, z.2.2.2.2.2.2.2.2.2.2.1, z.2.2.2.2.2.2.2.2.2.2.2.1, z.2.2.2.2.2.2.2.2.2.2.2.2.1, z.2.2.2.2.2.2.2.2.2.2.2.2.2.1, f_12, z.2.2.2.2.2.2.2.2.2.2.2.2.2.2.2) y2 (fun r_13 : Int32 => vp_in y2 64 ∧ ∀ f_14 : Nat → Int32, f_14 = upd z.2.2.2.2.2.2.2.2.2.2.2.2.2.2.2.1 y2.toNatClampNeg r_13 → ∀ x_15 : Int32, x_15 = y2 + (1 : Int32) → K34 y1 x_15 (z.1, z.2.1, z.2.2.1, z.2.2.2.1, z.2.2.2.2.1, z.2.2.2.2.2.1, z.2.2.2.2.2.2.1, z.2.2.2.2.2.2.2.1, z.2.2.2.2.2.2.2.2.1, z.2.2.2.2.2.2.2.2.2.1, z.2.2.2.2.2.2.2.2.2.2.1, z.2.2.2.2.2.2.2.2.2.2.2.1, z.2.2.2.2.2.2.2.2.2.2.2.2.1, z.2.2.2.2.2.2.2.2.2.2.2.2.2.1, f_12, f_14, z.2.2.2.2.2.2.2.2.2.2.2.2.2.2.2.2)))))
def t_X11_crashes_70 (y1 : Int32) (y2 : Int32) (z : zModel) (K2 : Int32 → zModel → Prop) (K34 : Int32 → Int32 → zModel → Prop) (K70 : Int32 → Int32 → zModel → Prop) (Q : zModel → Prop) : Prop := (((5497 : Int32) ≤ y2 → Q z) ∧ (¬ (5497 : Int32) ≤ y2 → vp_in y2 5497 ∧ vp_in y2 5497 ∧ ∀ f_18 : Nat → Int32, f_18 = upd z.2.1 y2.toNatClampNeg (z.2.2.2.1 y2.toNatClampNeg) → ∀ x_19 : Int32, x_19 = y2 + (1 : Int32) → K70 y1 x_19 (z.1, f_18, z.2.2)))
theorem zc_X11_crashes : zCalV RX11 yX11_crashes cX11_crashes 3 none 0 := ⟨q_im_X11_crashes, q_se_X11_crashes, q_in_X11, q_cd_X11_crashes, ⟨by decide, by decide, by decide +kernel⟩, rfl⟩
abbrev rm_X11_crashes : Room := { frames := 6, cells := 0, slots := 0, locals := 131 }
def v_X11_crashes (u : zModel) (Q : zModel → Prop) : Prop := ∃ I2 : Nat → Int32 → zModel → Prop, ∃ I34 : Nat → Int32 → Int32 → zModel → Prop, ∃ I70 : Nat → Int32 → Int32 → zModel → Prop, (∀ (n : Nat) (y1 : Int32) (z : zModel), I2 n y1 z → t_X11_crashes_2 y1 z (fun q0 q1 => ∃ k : Nat, k < n ∧ I2 k q0 q1) (fun q0 q1 q2 => ∃ k : Nat, k < n ∧ I34 k q0 q1 q2) (fun q0 q1 q2 => ∃ k : Nat, k < n ∧ I70 k q0 q1 q2) Q) ∧ (∀ (n : Nat) (y1 : Int32) (y2 : Int32) (z : zModel), I34 n y1 y2 z → t_X11_crashes_34 y1 y2 z (fun q0 q1 => ∃ k : Nat, k < n ∧ I2 k q0 q1) (fun q0 q1 q2 => ∃ k : Nat, k < n ∧ I34 k q0 q1 q2) (fun q0 q1 q2 => ∃ k : Nat, k < n ∧ I70 k q0 q1 q2) Q) ∧ (∀ (n : Nat) (y1 : Int32) (y2 : Int32) (z : zModel), I70 n y1 y2 z → t_X11_crashes_70 y1 y2 z (fun q0 q1 => ∃ k : Nat, k < n ∧ I2 k q0 q1) (fun q0 q1 q2 => ∃ k : Nat, k < n ∧ I34 k q0 q1 q2) (fun q0 q1 q2 => ∃ k : Nat, k < n ∧ I70 k q0 q1 q2) Q) ∧ t_X11_crashes_e u (fun q0 q1 => ∃ k : Nat, I2 k q0 q1) (fun q0 q1 q2 => ∃ k : Nat, I34 k q0 q1 q2) (fun q0 q1 q2 => ∃ k : Nat, I70 k q0 q1 q2) Q
set_option maxHeartbeats 4000000 in
set_option maxRecDepth 100000 in
theorem L_X11_crashes (l : Launch) (dC : Nat → ClassId) (dI : Nat → Nat → Nat) (cI cJ cS : ClassId) (a : Nat → Nat) (u : zModel) (Q : zModel → Prop) (I2 : Nat → Int32 → zModel → Prop) (I34 : Nat → Int32 → Int32 → zModel → Prop) (I70 : Nat → Int32 → Int32 → zModel → Prop) (h2 : ∀ (n : Nat) (y1 : Int32) (z : zModel), I2 n y1 z → t_X11_crashes_2 y1 z (fun q0 q1 => ∃ k : Nat, k < n ∧ I2 k q0 q1) (fun q0 q1 q2 => ∃ k : Nat, k < n ∧ I34 k q0 q1 q2) (fun q0 q1 q2 => ∃ k : Nat, k < n ∧ I70 k q0 q1 q2) Q) (h34 : ∀ (n : Nat) (y1 : Int32) (y2 : Int32) (z : zModel), I34 n y1 y2 z → t_X11_crashes_34 y1 y2 z (fun q0 q1 => ∃ k : Nat, k < n ∧ I2 k q0 q1) (fun q0 q1 q2 => ∃ k : Nat, k < n ∧ I34 k q0 q1 q2) (fun q0 q1 q2 => ∃ k : Nat, k < n ∧ I70 k q0 q1 q2) Q) (h70 : ∀ (n : Nat) (y1 : Int32) (y2 : Int32) (z : zModel), I70 n y1 y2 z → t_X11_crashes_70 y1 y2 z (fun q0 q1 => ∃ k : Nat, k < n ∧ I2 k q0 q1) (fun q0 q1 q2 => ∃ k : Nat, k < n ∧ I34 k q0 q1 q2) (fun q0 q1 q2 => ∃ k : Nat, k < n ∧ I70 k q0 q1 q2) Q) (hf : t_X11_crashes_e u (fun q0 q1 => ∃ k : Nat, I2 k q0 q1) (fun q0 q1 q2 => ∃ k : Nat, I34 k q0 q1 q2) (fun q0 q1 q2 => ∃ k : Nat, I70 k q0 q1 q2) Q) : ∀ sz : Nat, Met l yX11_crashes (Cond.code yX11_crashes cX11_crashes 3 none :: zT) rm_X11_crashes (zPm dC dI cI cJ cS (cl_X11 cI cJ a u) [.ref (a 0)] sz) (va_Qv Q (zB dC dI cI cJ cS (va_A (cl_X11 cI cJ a u) sz) (fun z => cl_X11 cI cJ a z)) (va_A (cl_X11 cI cJ a u) sz)) 0 0 (va_A (cl_X11 cI cJ a u) sz) := by
  intro sz
  refine z_enterM (Qc := fun A => va_Qv Q (zB dC dI cI cJ cS A (fun z => cl_X11 cI cJ a z)) A) (cc := cX11_crashes) (maxL := 3) (ret := none) (by decide) (Nat.le_of_ble_eq_true rfl) ?_
  intro p e s m below meth c ls A X hP hD hS hA hl
  obtain ⟨⟨hx, hb, hml, hown, hts⟩, hr, hlk, hK⟩ := id X
  have hl : lv_has ls 3 [(0, .ref (a 0))] := hl
  have LP : ∀ n : Nat, (∀ (y1 : Int32) (z : zModel) (H : Heap) (locs : List Loc) (ls : Array Slot), I2 n y1 z → va_P (dC, dI) vwCl (cl_X11 cI cJ a z) H → va_D A (cl_X11 cI cJ a z) → va_S A s.heap H locs → lv_has ls 3 [(0, .ref (a 0)), (1, .int y1)] → W p l e rm_X11_crashes s m [.ref (a 0)].toArray below meth c H locs 0 0 (MQ below (va_Qv Q (zB dC dI cI cJ cS A (fun z => cl_X11 cI cJ a z)) A) [.ref (a 0)].toArray s 0 0 A) (F0 m 2 ls [])) ∧ (∀ (y1 : Int32) (y2 : Int32) (z : zModel) (H : Heap) (locs : List Loc) (ls : Array Slot), I34 n y1 y2 z → va_P (dC, dI) vwCl (cl_X11 cI cJ a z) H → va_D A (cl_X11 cI cJ a z) → va_S A s.heap H locs → lv_has ls 3 [(0, .ref (a 0)), (1, .int y1), (2, .int y2)] → W p l e rm_X11_crashes s m [.ref (a 0)].toArray below meth c H locs 0 0 (MQ below (va_Qv Q (zB dC dI cI cJ cS A (fun z => cl_X11 cI cJ a z)) A) [.ref (a 0)].toArray s 0 0 A) (F0 m 34 ls [])) ∧ (∀ (y1 : Int32) (y2 : Int32) (z : zModel) (H : Heap) (locs : List Loc) (ls : Array Slot), I70 n y1 y2 z → va_P (dC, dI) vwCl (cl_X11 cI cJ a z) H → va_D A (cl_X11 cI cJ a z) → va_S A s.heap H locs → lv_has ls 3 [(0, .ref (a 0)), (1, .int y1), (2, .int y2)] → W p l e rm_X11_crashes s m [.ref (a 0)].toArray below meth c H locs 0 0 (MQ below (va_Qv Q (zB dC dI cI cJ cS A (fun z => cl_X11 cI cJ a z)) A) [.ref (a 0)].toArray s 0 0 A) (F0 m 70 ls [])) := by
    intro n
    induction n using Nat.strongRecOn with
    | _ n ih =>
      refine ⟨?_, ?_, ?_⟩
      · intro y1 z H locs ls hI hP hD hS hl
        have hf := h2 n y1 z hI
        unfold t_X11_crashes_2 at hf
        refine lv_iload_n hx hb dX11_crashes_2 rfl (lv_at hl 1 rfl) ?_
        refine lv_sipush (v := 5497) hx hb dX11_crashes_3 (by decide) ?_
        refine lv_icmp_ge (tgt := 27) hx hb dX11_crashes_6 (by decide) (fun c_2 => ?_) (fun c_2 => ?_)
        · have hf := hf.1 c_2
          refine lv_aload_n hx hb dX11_crashes_27 rfl (lv_at hl 0 rfl) ?_
          refine z_mVi (Wn := (fun u_4 => cl_X11 cI cJ a u_4)) (As := []) (rest := []) (wr := []) X (c_X11_crash0 l dC dI cI cJ cS a z  _ hf _) zc_X11_crash0 q_ml_X11_228 ⟨rfl, rfl⟩ ⟨Nat.le_of_ble_eq_true rfl, Nat.le_of_ble_eq_true rfl⟩ hP hD hS hA [0, 1, 2, 3, 4, 5, 6, 7, 8] [] rfl (by decide) rfl (by decide) (by decide) [0, 1, 2, 3, 4, 5, 6, 7, 8] (by decide) (fun _ => rfl) 10 rfl rfl hl.1 rfl rfl (Nat.le_of_ble_eq_true rfl) ⟨Nat.zero_le _, Nat.zero_le _⟩ dX11_crashes_28 (fun r_3 u_4 H locs hf hP hD hS => ?_)
          refine lv_istore_n (lv' := [(1, .int r_3), (0, .ref (a 0))]) hx hb dX11_crashes_31 rfl hl (by decide) rfl (fun ls hl => ?_)
          refine lv_iconst (v := 0) hx hb dX11_crashes_32 (by decide) ?_
          refine lv_istore_n (lv' := [(2, .int (0 : Int32)), (1, .int r_3), (0, .ref (a 0))]) hx hb dX11_crashes_33 rfl hl (by decide) rfl (fun ls hl => ?_)
          obtain ⟨k_5, hk_5, hf⟩ := hf
          exact (ih k_5 hk_5).2.1 _ _ u_4 _ _ ls hf hP hD hS (lv_sub hl [2, 1, 0] rfl)
        · have hf := hf.2 c_2
          refine lv_aload_n hx hb dX11_crashes_9 rfl (lv_at hl 0 rfl) ?_
          refine va_get (D := (dC, dI)) (ci := 10) (v := .ref (a 3)) (C := RX11) (T := TX11) (N := 17) hx hb hts inX11 hown hK hP 0 rfl rfl 3 (by decide) (hts _ q_fl_X11_16) (fun _ h9 => h9) rfl dX11_crashes_10 ?_
          refine lv_iload_n hx hb dX11_crashes_13 rfl (lv_at hl 1 rfl) ?_
          refine lv_aload_n hx hb dX11_crashes_14 rfl (lv_at hl 0 rfl) ?_
          refine va_get (D := (dC, dI)) (ci := 10) (v := .ref (a 1)) (C := RX11) (T := TX11) (N := 17) hx hb hts inX11 hown hK hP 0 rfl rfl 1 (by decide) (hts _ q_fl_X11_7) (fun _ h9 => h9) rfl dX11_crashes_15 ?_
          refine lv_iload_n hx hb dX11_crashes_18 rfl (lv_at hl 1 rfl) ?_
          obtain ⟨hg, hf⟩ := hf
          refine va_iald hx hb hK hP 1 0 rfl rfl hg dX11_crashes_19 ?_
          obtain ⟨hg, hf⟩ := hf
          refine z_iast (Wn := fun f_6 => cl_X11 cI cJ a (z.1, z.2.1, z.2.2.1, f_6, z.2.2.2.2)) X hP hD hS 3 0 rfl rfl hg (fun _ => rfl) dX11_crashes_20 (fun f_6 H locs ef_6 hP hD hS => ?_)
          have hf := hf f_6 ef_6
          obtain ⟨x_7, ex_7⟩ : ∃ y : Int32, y = y1 + (1 : Int32) := ⟨_, rfl⟩
          have hf := hf x_7 ex_7
          refine lv_iinc (v := x_7) (lv' := [(1, .int x_7), (0, .ref (a 0))]) hx hb dX11_crashes_21 hl (k := 1) rfl (by rw [ex_7]; rfl) (by decide) rfl (fun ls hl => ?_)
          refine lv_goto (tgt := 2) hx hb dX11_crashes_24 (by decide) ?_
          obtain ⟨k_8, hk_8, hf⟩ := hf
          exact (ih k_8 hk_8).1 _ (z.1, z.2.1, z.2.2.1, f_6, z.2.2.2.2) _ _ ls hf hP hD hS (lv_sub hl [1, 0] rfl)
      · intro y1 y2 z H locs ls hI hP hD hS hl
        have hf := h34 n y1 y2 z hI
        unfold t_X11_crashes_34 at hf
        refine lv_iload_n hx hb dX11_crashes_34 rfl (lv_at hl 2 rfl) ?_
        refine lv_bipush (v := 64) hx hb dX11_crashes_35 (by decide) ?_
        refine lv_icmp_ge (tgt := 68) hx hb dX11_crashes_37 (by decide) (fun c_9 => ?_) (fun c_9 => ?_)
        · have hf := hf.1 c_9
          refine lv_iconst (v := 0) hx hb dX11_crashes_68 (by decide) ?_
          refine lv_istore_n (lv' := [(2, .int (0 : Int32)), (0, .ref (a 0)), (1, .int y1)]) hx hb dX11_crashes_69 rfl hl (by decide) rfl (fun ls hl => ?_)
          obtain ⟨k_10, hk_10, hf⟩ := hf
          exact (ih k_10 hk_10).2.2 _ _ z _ _ ls hf hP hD hS (lv_sub hl [1, 2, 0] rfl)
        · have hf := hf.2 c_9
          refine lv_aload_n hx hb dX11_crashes_40 rfl (lv_at hl 0 rfl) ?_
          refine va_get (D := (dC, dI)) (ci := 10) (v := .ref (a 7)) (C := RX11) (T := TX11) (N := 17) hx hb hts inX11 hown hK hP 0 rfl rfl 14 (by decide) (hts _ q_fl_X11_33) (fun _ h9 => h9) rfl dX11_crashes_41 ?_
          refine lv_iload_n hx hb dX11_crashes_44 rfl (lv_at hl 2 rfl) ?_
          refine lv_aload_n hx hb dX11_crashes_45 rfl (lv_at hl 0 rfl) ?_
          refine lv_iload_n hx hb dX11_crashes_46 rfl (lv_at hl 2 rfl) ?_
          refine z_cVi (As := [.int y2]) (rest := [.int y2, .ref (a 7)]) X (c_X11_lengthOf l dC dI cI cJ cS a z y2 _ hf) zc_X11_lengthOf q_ml_X11_266 ⟨rfl, rfl⟩ ⟨Nat.le_of_ble_eq_true rfl, Nat.le_of_ble_eq_true rfl⟩ hP [0, 1, 2, 3, 4, 5, 6, 7, 8] rfl 10 rfl rfl hl.1 rfl rfl (Nat.le_of_ble_eq_true rfl) ⟨Nat.zero_le _, Nat.zero_le _⟩ dX11_crashes_47 (fun r_11 hf => ?_)
          obtain ⟨hg, hf⟩ := hf
          refine z_iast (Wn := fun f_12 => cl_X11 cI cJ a (z.1, z.2.1, z.2.2.1, z.2.2.2.1, z.2.2.2.2.1, z.2.2.2.2.2.1, z.2.2.2.2.2.2.1, z.2.2.2.2.2.2.2.1, z.2.2.2.2.2.2.2.2.1, z.2.2.2.2.2.2.2.2.2.1, z.2.2.2.2.2.2.2.2.2.2.1, z.2.2.2.2.2.2.2.2.2.2.2.1, z.2.2.2.2.2.2.2.2.2.2.2.2.1, z.2.2.2.2.2.2.2.2.2.2.2.2.2.1, f_12, z.2.2.2.2.2.2.2.2.2.2.2.2.2.2.2)) X hP hD hS 7 0 rfl rfl hg (fun _ => rfl) dX11_crashes_50 (fun f_12 H locs ef_12 hP hD hS => ?_)
          have hf := hf f_12 ef_12
          refine lv_aload_n hx hb dX11_crashes_51 rfl (lv_at hl 0 rfl) ?_
          refine va_get (D := (dC, dI)) (ci := 10) (v := .ref (a 8)) (C := RX11) (T := TX11) (N := 17) hx hb hts inX11 hown hK hP 0 rfl rfl 15 (by decide) (hts _ q_fl_X11_36) (fun _ h9 => h9) rfl dX11_crashes_52 ?_
          refine lv_iload_n hx hb dX11_crashes_55 rfl (lv_at hl 2 rfl) ?_
          refine lv_aload_n hx hb dX11_crashes_56 rfl (lv_at hl 0 rfl) ?_
          refine lv_iload_n hx hb dX11_crashes_57 rfl (lv_at hl 2 rfl) ?_
          refine z_cVi (As := [.int y2]) (rest := [.int y2, .ref (a 8)]) X (c_X11_seedOf l dC dI cI cJ cS a (z.1, z.2.1, z.2.2.1, z.2.2.2.1, z.2.2.2.2.1, z.2.2.2.2.2.1, z.2.2.2.2.2.2.1, z.2.2.2.2.2.2.2.1, z.2.2.2.2.2.2.2.2.1, z.2.2.2.2.2.2.2.2.2.1, z.2.2.2.2.2.2.2.2.2.2.1, z.2.2.2.2.2.2.2.2.2.2.2.1, z.2.2.2.2.2.2.2.2.2.2.2.2.1, z.2.2.2.2.2.2.2.2.2.2.2.2.2.1, f_12, z.2.2.2.2.2.2.2.2.2.2.2.2.2.2.2) y2 _ hf) zc_X11_seedOf q_ml_X11_269 ⟨rfl, rfl⟩ ⟨Nat.le_of_ble_eq_true rfl, Nat.le_of_ble_eq_true rfl⟩ hP [0, 1, 2, 3, 4, 5, 6, 7, 8] rfl 10 rfl rfl hl.1 rfl rfl (Nat.le_of_ble_eq_true rfl) ⟨Nat.zero_le _, Nat.zero_le _⟩ dX11_crashes_58 (fun r_13 hf => ?_)
          obtain ⟨hg, hf⟩ := hf
          refine z_iast (Wn := fun f_14 => cl_X11 cI cJ a (z.1, z.2.1, z.2.2.1, z.2.2.2.1, z.2.2.2.2.1, z.2.2.2.2.2.1, z.2.2.2.2.2.2.1, z.2.2.2.2.2.2.2.1, z.2.2.2.2.2.2.2.2.1, z.2.2.2.2.2.2.2.2.2.1, z.2.2.2.2.2.2.2.2.2.2.1, z.2.2.2.2.2.2.2.2.2.2.2.1, z.2.2.2.2.2.2.2.2.2.2.2.2.1, z.2.2.2.2.2.2.2.2.2.2.2.2.2.1, f_12, f_14, z.2.2.2.2.2.2.2.2.2.2.2.2.2.2.2.2)) X hP hD hS 8 0 rfl rfl hg (fun _ => rfl) dX11_crashes_61 (fun f_14 H locs ef_14 hP hD hS => ?_)
          have hf := hf f_14 ef_14
          obtain ⟨x_15, ex_15⟩ : ∃ y : Int32, y = y2 + (1 : Int32) := ⟨_, rfl⟩
          have hf := hf x_15 ex_15
          refine lv_iinc (v := x_15) (lv' := [(2, .int x_15), (0, .ref (a 0)), (1, .int y1)]) hx hb dX11_crashes_62 hl (k := 2) rfl (by rw [ex_15]; rfl) (by decide) rfl (fun ls hl => ?_)
          refine lv_goto (tgt := 34) hx hb dX11_crashes_65 (by decide) ?_
          obtain ⟨k_16, hk_16, hf⟩ := hf
          exact (ih k_16 hk_16).2.1 _ _ (z.1, z.2.1, z.2.2.1, z.2.2.2.1, z.2.2.2.2.1, z.2.2.2.2.2.1, z.2.2.2.2.2.2.1, z.2.2.2.2.2.2.2.1, z.2.2.2.2.2.2.2.2.1, z.2.2.2.2.2.2.2.2.2.1, z.2.2.2.2.2.2.2.2.2.2.1, z.2.2.2.2.2.2.2.2.2.2.2.1, z.2.2.2.2.2.2.2.2.2.2.2.2.1, z.2.2.2.2.2.2.2.2.2.2.2.2.2.1, f_12, f_14, z.2.2.2.2.2.2.2.2.2.2.2.2.2.2.2.2) _ _ ls hf hP hD hS (lv_sub hl [1, 2, 0] rfl)
      · intro y1 y2 z H locs ls hI hP hD hS hl
        have hf := h70 n y1 y2 z hI
        unfold t_X11_crashes_70 at hf
        refine lv_iload_n hx hb dX11_crashes_70 rfl (lv_at hl 2 rfl) ?_
        refine lv_sipush (v := 5497) hx hb dX11_crashes_71 (by decide) ?_
        refine lv_icmp_ge (tgt := 95) hx hb dX11_crashes_74 (by decide) (fun c_17 => ?_) (fun c_17 => ?_)
        · have hf := hf.1 c_17
          exact z_retMv (Wf := (fun z => cl_X11 cI cJ a z)) (u := z) X hf hP hD hS dX11_crashes_95
        · have hf := hf.2 c_17
          refine lv_aload_n hx hb dX11_crashes_77 rfl (lv_at hl 0 rfl) ?_
          refine va_get (D := (dC, dI)) (ci := 10) (v := .ref (a 1)) (C := RX11) (T := TX11) (N := 17) hx hb hts inX11 hown hK hP 0 rfl rfl 1 (by decide) (hts _ q_fl_X11_7) (fun _ h9 => h9) rfl dX11_crashes_78 ?_
          refine lv_iload_n hx hb dX11_crashes_81 rfl (lv_at hl 2 rfl) ?_
          refine lv_aload_n hx hb dX11_crashes_82 rfl (lv_at hl 0 rfl) ?_
          refine va_get (D := (dC, dI)) (ci := 10) (v := .ref (a 3)) (C := RX11) (T := TX11) (N := 17) hx hb hts inX11 hown hK hP 0 rfl rfl 3 (by decide) (hts _ q_fl_X11_16) (fun _ h9 => h9) rfl dX11_crashes_83 ?_
          refine lv_iload_n hx hb dX11_crashes_86 rfl (lv_at hl 2 rfl) ?_
          obtain ⟨hg, hf⟩ := hf
          refine va_iald hx hb hK hP 3 0 rfl rfl hg dX11_crashes_87 ?_
          obtain ⟨hg, hf⟩ := hf
          refine z_iast (Wn := fun f_18 => cl_X11 cI cJ a (z.1, f_18, z.2.2)) X hP hD hS 1 0 rfl rfl hg (fun _ => rfl) dX11_crashes_88 (fun f_18 H locs ef_18 hP hD hS => ?_)
          have hf := hf f_18 ef_18
          obtain ⟨x_19, ex_19⟩ : ∃ y : Int32, y = y2 + (1 : Int32) := ⟨_, rfl⟩
          have hf := hf x_19 ex_19
          refine lv_iinc (v := x_19) (lv' := [(2, .int x_19), (0, .ref (a 0)), (1, .int y1)]) hx hb dX11_crashes_89 hl (k := 2) rfl (by rw [ex_19]; rfl) (by decide) rfl (fun ls hl => ?_)
          refine lv_goto (tgt := 70) hx hb dX11_crashes_92 (by decide) ?_
          obtain ⟨k_20, hk_20, hf⟩ := hf
          exact (ih k_20 hk_20).2.2 _ _ (z.1, f_18, z.2.2) _ _ ls hf hP hD hS (lv_sub hl [1, 2, 0] rfl)
  unfold t_X11_crashes_e at hf
  refine lv_iconst (v := 0) hx hb dX11_crashes_0 (by decide) ?_
  refine lv_istore_n (lv' := [(1, .int (0 : Int32)), (0, .ref (a 0))]) hx hb dX11_crashes_1 rfl hl (by decide) rfl (fun ls hl => ?_)
  obtain ⟨k_1, hf⟩ := hf
  exact (LP k_1).1 _ u _ _ ls hf hP hD hS (lv_sub hl [1, 0] rfl)
def s_X11_crashes (u : zModel) (Q : zModel → Prop) : Prop := ∃ (B : Nat) (v : zState), okB B v ∧ mRel v u.2.1 ∧ ∀ m' tr lo se : Nat → Int32, (∀ j, j < 5497 → m' j = u.2.1 j) → (∀ k, k < 64 → lo k = uLenF (uCrash v) k ∧ se k = uSeedF (uCrash v) k) → Q (u.1, m', u.2.2.1, tr, u.2.2.2.2.1, u.2.2.2.2.2.1, u.2.2.2.2.2.2.1, u.2.2.2.2.2.2.2.1, u.2.2.2.2.2.2.2.2.1, u.2.2.2.2.2.2.2.2.2.1, u.2.2.2.2.2.2.2.2.2.2.1, u.2.2.2.2.2.2.2.2.2.2.2.1, u.2.2.2.2.2.2.2.2.2.2.2.2.1, u.2.2.2.2.2.2.2.2.2.2.2.2.2.1, lo, se, u.2.2.2.2.2.2.2.2.2.2.2.2.2.2.2.2)
theorem st_X11_crashes {u : zModel} {Q : zModel → Prop} (h : s_X11_crashes u Q) : v_X11_crashes u Q := by
  obtain ⟨B, v, hB, hr, hQ⟩ := h
  obtain ⟨ρ, β, mo, lm, L, S, M, hP⟩ := id hB
  have hPc := zPr.crash hP
  refine ⟨fun n y1 z => ∃ i : Nat, i ≤ 5497 ∧ n = 20000 + (5497 - i) ∧ y1 = nI i ∧ z = (u.1, u.2.1, u.2.2.1, fa_fill u.2.1 u.2.2.2.1 i, u.2.2.2.2),
    fun n y1 y2 z => ∃ (k : Nat) (mc tr lo se : Nat → Int32), k ≤ 64 ∧ n = 10000 + (64 - k) ∧ y2 = nI k ∧ mRel (uCrash v) mc ∧ (∀ j, j < 5497 → tr j = u.2.1 j) ∧ (∀ j, j < k → lo j = uLenF (uCrash v) j ∧ se j = uSeedF (uCrash v) j) ∧ z = (u.1, mc, u.2.2.1, tr, u.2.2.2.2.1, u.2.2.2.2.2.1, u.2.2.2.2.2.2.1, u.2.2.2.2.2.2.2.1, u.2.2.2.2.2.2.2.2.1, u.2.2.2.2.2.2.2.2.2.1, u.2.2.2.2.2.2.2.2.2.2.1, u.2.2.2.2.2.2.2.2.2.2.2.1, u.2.2.2.2.2.2.2.2.2.2.2.2.1, u.2.2.2.2.2.2.2.2.2.2.2.2.2.1, lo, se, u.2.2.2.2.2.2.2.2.2.2.2.2.2.2.2.2),
    fun n y1 y2 z => ∃ (i : Nat) (mc tr lo se : Nat → Int32), i ≤ 5497 ∧ n = 5497 - i ∧ y2 = nI i ∧ (∀ j, j < i → mc j = u.2.1 j) ∧ (∀ j, j < 5497 → tr j = u.2.1 j) ∧ (∀ j, j < 64 → lo j = uLenF (uCrash v) j ∧ se j = uSeedF (uCrash v) j) ∧ z = (u.1, mc, u.2.2.1, tr, u.2.2.2.2.1, u.2.2.2.2.2.1, u.2.2.2.2.2.2.1, u.2.2.2.2.2.2.2.1, u.2.2.2.2.2.2.2.2.1, u.2.2.2.2.2.2.2.2.2.1, u.2.2.2.2.2.2.2.2.2.2.1, u.2.2.2.2.2.2.2.2.2.2.2.1, u.2.2.2.2.2.2.2.2.2.2.2.2.1, u.2.2.2.2.2.2.2.2.2.2.2.2.2.1, lo, se, u.2.2.2.2.2.2.2.2.2.2.2.2.2.2.2.2), ?_, ?_, ?_, ?_⟩
  · rintro n y1 z ⟨i, hi, rfl, rfl, rfl⟩
    refine ⟨fun c => ?_, fun c => ?_⟩
    · have : i = 5497 := by
        have := (nI_leI (a := 5497) (b := i) (by decide) (by omega)).mp c
        omega
      subst this
      exact ⟨v, ρ, β, mo, lm, L, S, M, B, hP, hr, fun m' hm' => ⟨10000 + (64 - 0), by omega, 0, m', fa_fill u.2.1 u.2.2.2.1 5497, u.2.2.2.2.2.2.2.2.2.2.2.2.2.2.1, u.2.2.2.2.2.2.2.2.2.2.2.2.2.2.2.1, by omega, rfl, rfl, hm', fun j hj => fa_fill_in hj, fun j hj => absurd hj (Nat.not_lt_zero j), rfl⟩⟩
    · have hi : i < 5497 := by
        have : ¬ 5497 ≤ i := fun q => c (nI_le (a := 5497) q (by omega))
        omega
      refine ⟨vp_in_nI hi (by decide), vp_in_nI hi (by decide), fun f e x e' => ⟨20000 + (5497 - (i + 1)), by omega, i + 1, by omega, rfl, by rw [e', nI_1], ?_⟩⟩
      have e : f = upd (fa_fill u.2.1 u.2.2.2.1 i) (nI i).toNatClampNeg (u.2.1 (nI i).toNatClampNeg) := e
      rw [nI_clamp (by omega), fa_fill_succ u.2.1 u.2.2.2.1 i] at e
      rw [e]
  · rintro n y1 y2 z ⟨k, mc, tr, lo, se, hk, rfl, rfl, hmc, htr, hls, rfl⟩
    refine ⟨fun c => ?_, fun c => ?_⟩
    · have : k = 64 := by
        have := (nI_leI (a := 64) (b := k) (by decide) (by omega)).mp c
        omega
      subst this
      exact ⟨5497 - 0, by omega, 0, mc, tr, lo, se, by omega, rfl, rfl, fun j hj => absurd hj (Nat.not_lt_zero j), htr, hls, rfl⟩
    · have hk : k < 64 := by
        have : ¬ 64 ≤ k := fun q => c (le64 q (by omega))
        omega
      refine ⟨uCrash v, k, mOk.of hPc hmc, hk, rfl, vp_in_nI hk (by decide), fun f e => ⟨uCrash v, k, mOk.of hPc hmc, hk, rfl, vp_in_nI hk (by decide), fun g e2 x e3 => ⟨10000 + (64 - (k + 1)), by omega, k + 1, mc, tr, f, g, by omega, rfl, by rw [e3, nI_1], hmc, htr, fun j hj => ?_, rfl⟩⟩⟩
      have e : f = upd lo (nI k).toNatClampNeg (uLenF (uCrash v) k) := e
      have e2 : g = upd se (nI k).toNatClampNeg (uSeedF (uCrash v) k) := e2
      rw [nI_clamp (by omega)] at e e2
      rw [e, e2]
      by_cases hjk : j = k
      · subst hjk; rw [up_eq rfl, up_eq rfl]; exact ⟨rfl, rfl⟩
      · rw [up_ne hjk, up_ne hjk]; exact hls j (by omega)
  · rintro n y1 y2 z ⟨i, mc, tr, lo, se, hi, rfl, rfl, hmc, htr, hls, rfl⟩
    refine ⟨fun c => ?_, fun c => ?_⟩
    · have : i = 5497 := by
        have := (nI_leI (a := 5497) (b := i) (by decide) (by omega)).mp c
        omega
      subst this
      exact hQ mc tr lo se hmc hls
    · have hi : i < 5497 := by
        have : ¬ 5497 ≤ i := fun q => c (nI_le (a := 5497) q (by omega))
        omega
      refine ⟨vp_in_nI hi (by decide), vp_in_nI hi (by decide), fun f e x e' => ⟨5497 - (i + 1), by omega, i + 1, f, tr, lo, se, by omega, rfl, by rw [e', nI_1], fun j hj => ?_, htr, hls, rfl⟩⟩
      have e : f = upd mc (nI i).toNatClampNeg (tr (nI i).toNatClampNeg) := e
      rw [nI_clamp (by omega)] at e
      rw [e]
      by_cases hji : j = i
      · subst hji; rw [up_eq rfl]; exact htr j hi
      · rw [up_ne hji]; exact hmc j (by omega)
  · refine ⟨20000 + (5497 - 0), 0, by omega, rfl, rfl, ?_⟩
    rw [fa_fill_0]
theorem c_X11_crashes (l : Launch) (dC : Nat → ClassId) (dI : Nat → Nat → Nat) (cI cJ cS : ClassId) (a : Nat → Nat) (u : zModel) (Q : zModel → Prop) (hf : s_X11_crashes u Q) : ∀ sz : Nat, Met l yX11_crashes (Cond.code yX11_crashes cX11_crashes 3 none :: zT) rm_X11_crashes (zPm dC dI cI cJ cS (cl_X11 cI cJ a u) [.ref (a 0)] sz) (va_Qv Q (zB dC dI cI cJ cS (va_A (cl_X11 cI cJ a u) sz) (fun z => cl_X11 cI cJ a z)) (va_A (cl_X11 cI cJ a u) sz)) 0 0 (va_A (cl_X11 cI cJ a u) sz) := by
  obtain ⟨I2, I34, I70, h2, h34, h70, hf⟩ := st_X11_crashes hf
  exact L_X11_crashes l dC dI cI cJ cS a u Q I2 I34 I70 h2 h34 h70 hf

def t_X11_octet (u : zModel) (x1 : Int32) (x2 : Int32) (Q : Int32 → zModel → Prop) : Prop := s_X11_isKey x1 (fun r_1 : Int32 => ((r_1 = 0 → (((1 : Int32) ≤ 0 → s_X11_lengthOf ((1 : Int32), u.2) x1 (fun r_4 : Int32 => s_X11_isIn x2 (0 : Int32) (r_4 - (1 : Int32)) (fun r_5 : Int32 => ((r_5 = 0 → Q (-1 : Int32) ((1 : Int32), u.2)) ∧ (¬ r_5 = 0 → s_X11_seedOf ((1 : Int32), u.2) x1 (fun r_7 : Int32 => s_X11_byteOf r_7 x2 (fun r_8 : Int32 => Q r_8 ((1 : Int32), u.2)))))))) ∧ (¬ (1 : Int32) ≤ 0 → Q (0 : Int32) ((1 : Int32), u.2)))) ∧ (¬ r_1 = 0 → (((0 : Int32) ≤ 0 → s_X11_lengthOf ((0 : Int32), u.2) x1 (fun r_10 : Int32 => s_X11_isIn x2 (0 : Int32) (r_10 - (1 : Int32)) (fun r_11 : Int32 => ((r_11 = 0 → Q (-1 : Int32) ((0 : Int32), u.2)) ∧ (¬ r_11 = 0 → s_X11_seedOf ((0 : Int32), u.2) x1 (fun r_13 : Int32 => s_X11_byteOf r_13 x2 (fun r_14 : Int32 => Q r_14 ((0 : Int32), u.2)))))))) ∧ (¬ (0 : Int32) ≤ 0 → Q (0 : Int32) ((0 : Int32), u.2))))))
theorem zc_X11_octet : zCalV RX11 yX11_octet cX11_octet 3 (some .int) 2 := ⟨q_im_X11_octet, q_se_X11_octet, q_in_X11, q_cd_X11_octet, ⟨by decide, by decide, by decide +kernel⟩, rfl⟩
abbrev rm_X11_octet : Room := { frames := 6, cells := 0, slots := 0, locals := 131 }
set_option maxHeartbeats 4000000 in
set_option maxRecDepth 100000 in
theorem L_X11_octet (l : Launch) (dC : Nat → ClassId) (dI : Nat → Nat → Nat) (cI cJ cS : ClassId) (a : Nat → Nat) (u : zModel) (x1 : Int32) (x2 : Int32) (Q : Int32 → zModel → Prop) (hf : t_X11_octet u x1 x2 Q) : ∀ sz : Nat, Met l yX11_octet (Cond.code yX11_octet cX11_octet 3 (some .int) :: zT) rm_X11_octet (zPm dC dI cI cJ cS (cl_X11 cI cJ a u) [.ref (a 0), .int x1, .int x2] sz) (va_Qi Q (zB dC dI cI cJ cS (va_A (cl_X11 cI cJ a u) sz) (fun z => cl_X11 cI cJ a z)) (va_A (cl_X11 cI cJ a u) sz)) 0 0 (va_A (cl_X11 cI cJ a u) sz) := by
  intro sz
  refine z_enterM (Qc := fun A => va_Qi Q (zB dC dI cI cJ cS A (fun z => cl_X11 cI cJ a z)) A) (cc := cX11_octet) (maxL := 3) (ret := (some .int)) (by decide) (Nat.le_of_ble_eq_true rfl) ?_
  intro p e s m below meth c ls A X hP hD hS hA hl
  obtain ⟨⟨hx, hb, hml, hown, hts⟩, hr, hlk, hK⟩ := id X
  have hl : lv_has ls 3 [(0, .ref (a 0)), (1, .int x1), (2, .int x2)] := hl
  unfold t_X11_octet at hf
  refine lv_aload_n hx hb dX11_octet_0 rfl (lv_at hl 0 rfl) ?_
  refine lv_iload_n hx hb dX11_octet_1 rfl (lv_at hl 1 rfl) ?_
  refine z_cSi (As := [.int x1]) (rest := [.ref (a 0)]) X (c_X11_isKey l dC dI cI cJ cS   x1 _ hf) zc_X11_isKey q_ml_X11_254 ⟨rfl, rfl⟩ ⟨Nat.le_of_ble_eq_true rfl, Nat.le_of_ble_eq_true rfl⟩ hP [] rfl hl.1 rfl rfl (Nat.le_of_ble_eq_true rfl) ⟨Nat.zero_le _, Nat.zero_le _⟩ dX11_octet_2 (fun r_1 hf => ?_)
  obtain ⟨hbr_1, hf⟩ := hf
  refine lv_if_eq (tgt := 12) hx hb dX11_octet_5 (by decide) (fun c_2 => ?_) (fun c_2 => ?_)
  · have hf := hf.1 c_2
    refine lv_iconst (v := 1) hx hb dX11_octet_12 (by decide) ?_
    refine z_put (w' := cl_X11 cI cJ a ((1 : Int32), u.2)) (ci := 10) (v := .int (1 : Int32)) (ty := .int) (Cn := RX11) (T := TX11) (N := 17) X inX11 tyX11 tyX11_ok nmX11 hP hD hS 0 rfl rfl 0 (by decide) (hts _ q_fl_X11_43) (fun _ h9 => h9) rfl (tyX11_ok 0 (by decide)) rfl rfl (Nat.le_of_ble_eq_true rfl) rfl dX11_octet_13 (fun H locs hP hD hS => ?_)
    refine lv_aload_n hx hb dX11_octet_16 rfl (lv_at hl 0 rfl) ?_
    refine va_get (D := (dC, dI)) (ci := 10) (v := .int (1 : Int32)) (C := RX11) (T := TX11) (N := 17) hx hb hts inX11 hown hK hP 0 rfl rfl 0 (by decide) (hts _ q_fl_X11_43) (fun _ h9 => h9) rfl dX11_octet_17 ?_
    refine lv_if_le (tgt := 25) hx hb dX11_octet_20 (by decide) (fun c_3 => ?_) (fun c_3 => ?_)
    · have hf := hf.1 c_3
      refine lv_iload_n hx hb dX11_octet_25 rfl (lv_at hl 2 rfl) ?_
      refine lv_iconst (v := 0) hx hb dX11_octet_26 (by decide) ?_
      refine lv_aload_n hx hb dX11_octet_27 rfl (lv_at hl 0 rfl) ?_
      refine lv_iload_n hx hb dX11_octet_28 rfl (lv_at hl 1 rfl) ?_
      refine z_cVi (As := [.int x1]) (rest := [.int (0 : Int32), .int x2]) X (c_X11_lengthOf l dC dI cI cJ cS a ((1 : Int32), u.2) x1 _ hf) zc_X11_lengthOf q_ml_X11_266 ⟨rfl, rfl⟩ ⟨Nat.le_of_ble_eq_true rfl, Nat.le_of_ble_eq_true rfl⟩ hP [0, 1, 2, 3, 4, 5, 6, 7, 8] rfl 10 rfl rfl hl.1 rfl rfl (Nat.le_of_ble_eq_true rfl) ⟨Nat.zero_le _, Nat.zero_le _⟩ dX11_octet_29 (fun r_4 hf => ?_)
      refine lv_iconst (v := 1) hx hb dX11_octet_32 (by decide) ?_
      refine lv_isub hx hb dX11_octet_33 ?_
      refine z_cSi (As := [.int x2, .int (0 : Int32), .int (r_4 - (1 : Int32))]) (rest := []) X (c_X11_isIn l dC dI cI cJ cS   x2 (0 : Int32) (r_4 - (1 : Int32)) _ hf) zc_X11_isIn q_ml_X11_165 ⟨rfl, rfl⟩ ⟨Nat.le_of_ble_eq_true rfl, Nat.le_of_ble_eq_true rfl⟩ hP [] rfl hl.1 rfl rfl (Nat.le_of_ble_eq_true rfl) ⟨Nat.zero_le _, Nat.zero_le _⟩ dX11_octet_34 (fun r_5 hf => ?_)
      obtain ⟨hbr_5, hf⟩ := hf
      refine lv_if_eq (tgt := 52) hx hb dX11_octet_37 (by decide) (fun c_6 => ?_) (fun c_6 => ?_)
      · have hf := hf.1 c_6
        refine lv_iconst (v := (-1)) hx hb dX11_octet_52 (by decide) ?_
        exact z_retMi (Wf := (fun z => cl_X11 cI cJ a z)) (u := ((1 : Int32), u.2)) X hf hP hD hS dX11_octet_53
      · have hf := hf.2 c_6
        refine lv_aload_n hx hb dX11_octet_40 rfl (lv_at hl 0 rfl) ?_
        refine lv_iload_n hx hb dX11_octet_41 rfl (lv_at hl 1 rfl) ?_
        refine z_cVi (As := [.int x1]) (rest := []) X (c_X11_seedOf l dC dI cI cJ cS a ((1 : Int32), u.2) x1 _ hf) zc_X11_seedOf q_ml_X11_269 ⟨rfl, rfl⟩ ⟨Nat.le_of_ble_eq_true rfl, Nat.le_of_ble_eq_true rfl⟩ hP [0, 1, 2, 3, 4, 5, 6, 7, 8] rfl 10 rfl rfl hl.1 rfl rfl (Nat.le_of_ble_eq_true rfl) ⟨Nat.zero_le _, Nat.zero_le _⟩ dX11_octet_42 (fun r_7 hf => ?_)
        refine lv_iload_n hx hb dX11_octet_45 rfl (lv_at hl 2 rfl) ?_
        refine z_cSi (As := [.int r_7, .int x2]) (rest := []) X (c_X11_byteOf l dC dI cI cJ cS   r_7 x2 _ hf) zc_X11_byteOf q_ml_X11_284 ⟨rfl, rfl⟩ ⟨Nat.le_of_ble_eq_true rfl, Nat.le_of_ble_eq_true rfl⟩ hP [] rfl hl.1 rfl rfl (Nat.le_of_ble_eq_true rfl) ⟨Nat.zero_le _, Nat.zero_le _⟩ dX11_octet_46 (fun r_8 hf => ?_)
        refine lv_goto (tgt := 53) hx hb dX11_octet_49 (by decide) ?_
        exact z_retMi (Wf := (fun z => cl_X11 cI cJ a z)) (u := ((1 : Int32), u.2)) X hf hP hD hS dX11_octet_53
    · have hf := hf.2 c_3
      refine lv_iconst (v := 0) hx hb dX11_octet_23 (by decide) ?_
      exact z_retMi (Wf := (fun z => cl_X11 cI cJ a z)) (u := ((1 : Int32), u.2)) X hf hP hD hS dX11_octet_24
  · have hf := hf.2 c_2
    refine lv_iconst (v := 0) hx hb dX11_octet_8 (by decide) ?_
    refine lv_goto (tgt := 13) hx hb dX11_octet_9 (by decide) ?_
    refine z_put (w' := cl_X11 cI cJ a ((0 : Int32), u.2)) (ci := 10) (v := .int (0 : Int32)) (ty := .int) (Cn := RX11) (T := TX11) (N := 17) X inX11 tyX11 tyX11_ok nmX11 hP hD hS 0 rfl rfl 0 (by decide) (hts _ q_fl_X11_43) (fun _ h9 => h9) rfl (tyX11_ok 0 (by decide)) rfl rfl (Nat.le_of_ble_eq_true rfl) rfl dX11_octet_13 (fun H locs hP hD hS => ?_)
    refine lv_aload_n hx hb dX11_octet_16 rfl (lv_at hl 0 rfl) ?_
    refine va_get (D := (dC, dI)) (ci := 10) (v := .int (0 : Int32)) (C := RX11) (T := TX11) (N := 17) hx hb hts inX11 hown hK hP 0 rfl rfl 0 (by decide) (hts _ q_fl_X11_43) (fun _ h9 => h9) rfl dX11_octet_17 ?_
    refine lv_if_le (tgt := 25) hx hb dX11_octet_20 (by decide) (fun c_9 => ?_) (fun c_9 => ?_)
    · have hf := hf.1 c_9
      refine lv_iload_n hx hb dX11_octet_25 rfl (lv_at hl 2 rfl) ?_
      refine lv_iconst (v := 0) hx hb dX11_octet_26 (by decide) ?_
      refine lv_aload_n hx hb dX11_octet_27 rfl (lv_at hl 0 rfl) ?_
      refine lv_iload_n hx hb dX11_octet_28 rfl (lv_at hl 1 rfl) ?_
      refine z_cVi (As := [.int x1]) (rest := [.int (0 : Int32), .int x2]) X (c_X11_lengthOf l dC dI cI cJ cS a ((0 : Int32), u.2) x1 _ hf) zc_X11_lengthOf q_ml_X11_266 ⟨rfl, rfl⟩ ⟨Nat.le_of_ble_eq_true rfl, Nat.le_of_ble_eq_true rfl⟩ hP [0, 1, 2, 3, 4, 5, 6, 7, 8] rfl 10 rfl rfl hl.1 rfl rfl (Nat.le_of_ble_eq_true rfl) ⟨Nat.zero_le _, Nat.zero_le _⟩ dX11_octet_29 (fun r_10 hf => ?_)
      refine lv_iconst (v := 1) hx hb dX11_octet_32 (by decide) ?_
      refine lv_isub hx hb dX11_octet_33 ?_
      refine z_cSi (As := [.int x2, .int (0 : Int32), .int (r_10 - (1 : Int32))]) (rest := []) X (c_X11_isIn l dC dI cI cJ cS   x2 (0 : Int32) (r_10 - (1 : Int32)) _ hf) zc_X11_isIn q_ml_X11_165 ⟨rfl, rfl⟩ ⟨Nat.le_of_ble_eq_true rfl, Nat.le_of_ble_eq_true rfl⟩ hP [] rfl hl.1 rfl rfl (Nat.le_of_ble_eq_true rfl) ⟨Nat.zero_le _, Nat.zero_le _⟩ dX11_octet_34 (fun r_11 hf => ?_)
      obtain ⟨hbr_11, hf⟩ := hf
      refine lv_if_eq (tgt := 52) hx hb dX11_octet_37 (by decide) (fun c_12 => ?_) (fun c_12 => ?_)
      · have hf := hf.1 c_12
        refine lv_iconst (v := (-1)) hx hb dX11_octet_52 (by decide) ?_
        exact z_retMi (Wf := (fun z => cl_X11 cI cJ a z)) (u := ((0 : Int32), u.2)) X hf hP hD hS dX11_octet_53
      · have hf := hf.2 c_12
        refine lv_aload_n hx hb dX11_octet_40 rfl (lv_at hl 0 rfl) ?_
        refine lv_iload_n hx hb dX11_octet_41 rfl (lv_at hl 1 rfl) ?_
        refine z_cVi (As := [.int x1]) (rest := []) X (c_X11_seedOf l dC dI cI cJ cS a ((0 : Int32), u.2) x1 _ hf) zc_X11_seedOf q_ml_X11_269 ⟨rfl, rfl⟩ ⟨Nat.le_of_ble_eq_true rfl, Nat.le_of_ble_eq_true rfl⟩ hP [0, 1, 2, 3, 4, 5, 6, 7, 8] rfl 10 rfl rfl hl.1 rfl rfl (Nat.le_of_ble_eq_true rfl) ⟨Nat.zero_le _, Nat.zero_le _⟩ dX11_octet_42 (fun r_13 hf => ?_)
        refine lv_iload_n hx hb dX11_octet_45 rfl (lv_at hl 2 rfl) ?_
        refine z_cSi (As := [.int r_13, .int x2]) (rest := []) X (c_X11_byteOf l dC dI cI cJ cS   r_13 x2 _ hf) zc_X11_byteOf q_ml_X11_284 ⟨rfl, rfl⟩ ⟨Nat.le_of_ble_eq_true rfl, Nat.le_of_ble_eq_true rfl⟩ hP [] rfl hl.1 rfl rfl (Nat.le_of_ble_eq_true rfl) ⟨Nat.zero_le _, Nat.zero_le _⟩ dX11_octet_46 (fun r_14 hf => ?_)
        refine lv_goto (tgt := 53) hx hb dX11_octet_49 (by decide) ?_
        exact z_retMi (Wf := (fun z => cl_X11 cI cJ a z)) (u := ((0 : Int32), u.2)) X hf hP hD hS dX11_octet_53
    · have hf := hf.2 c_9
      refine lv_iconst (v := 0) hx hb dX11_octet_23 (by decide) ?_
      exact z_retMi (Wf := (fun z => cl_X11 cI cJ a z)) (u := ((0 : Int32), u.2)) X hf hP hD hS dX11_octet_24
def s_X11_octet (u : zModel) (x1 x2 : Int32) (Q : Int32 → zModel → Prop) : Prop := mAsk u (fun v => fOctet v x1 x2) Q
theorem byte_eq {s : Nat} {n : Nat} (hs : s < 256) (hn : n < 64) : (nI s + (7 : Int32) * nI n) - (nI s + (7 : Int32) * nI n) / (256 : Int32) * (256 : Int32) = (nI s + 7 * nI n) &&& 255 := by
  rw [show (7 : Int32) = nI 7 from rfl, n_mul, nI_add, b256 (by omega)]
  exact (fa_mask (s + 7 * n) 8).symm
theorem st_X11_octet {u : zModel} {x1 x2 : Int32} {Q : Int32 → zModel → Prop} (h : s_X11_octet u x1 x2 Q) : t_X11_octet u x1 x2 Q := by
  obtain ⟨B, G, hG, hm, hQ⟩ := h
  dsimp only at hQ
  unfold fOctet at hQ
  have hmk : mOk (gNow G) u.2.1 := hG.1.mok hm.now
  refine isIn_of (fun c1 => ⟨fun q => absurd q (by decide), fun _ => ⟨fun _ => ?_, fun q => absurd (by decide) q⟩⟩) (fun c1 => ⟨fun _ => ⟨fun q => absurd q (by decide), fun _ => ?_⟩, fun q => absurd rfl q⟩)
  · rw [if_pos c1] at hQ
    obtain ⟨k, hk, rfl, ek⟩ := key_n c1
    rw [ek] at hQ
    refine ⟨gNow G, k, hmk, hk, rfl, isIn_of (fun c2 => ⟨fun q => absurd q (by decide), fun _ => ⟨gNow G, k, hmk, hk, rfl, by decide, ?_⟩⟩) (fun c2 => ⟨fun _ => ?_, fun q => absurd rfl q⟩)⟩
    · rw [if_pos c2] at hQ
      cases hv : uVal (gNow G) k with
      | false =>
        rw [(vof_no hv).2.1] at c2
        exact absurd (show (-1 : Int32) - 1 < x2 from by
          have h0 := c2.1
          rw [fa_lt] at h0 ⊢
          have e1 : ((-1 : Int32) - 1).toInt = -2 := by decide
          have e2 : (0 : Int32).toInt = 0 := by decide
          omega) c2.2
      | true =>
        obtain ⟨b1, b2, b3, b4, b5, b6⟩ := vof_eq hv
        rw [b5] at c2
        obtain ⟨n, hn, rfl⟩ := nI_of c2.1
        have hn2 : n < 64 := by
          obtain ⟨r, er⟩ : ∃ r, lnN (uCur (gNow G) k) = r + 1 := ⟨lnN (uCur (gNow G) k) - 1, by omega⟩
          have c3 := c2.2
          rw [er, nI_pred] at c3
          have : ¬ r < n := fun q => c3 (nI_lt q hn)
          omega
        rw [b6] at hQ ⊢
        rw [byte_eq b4 hn2]
        exact hQ _ (hm.th 0) rfl
    · rw [if_neg c2] at hQ
      exact hQ _ (hm.th 0) rfl
  · rw [if_neg c1] at hQ
    exact hQ _ (hm.th 1) rfl
theorem c_X11_octet (l : Launch) (dC : Nat → ClassId) (dI : Nat → Nat → Nat) (cI cJ cS : ClassId) (a : Nat → Nat) (u : zModel) (x1 : Int32) (x2 : Int32) (Q : Int32 → zModel → Prop) (hf : s_X11_octet u x1 x2 Q) : ∀ sz : Nat, Met l yX11_octet (Cond.code yX11_octet cX11_octet 3 (some .int) :: zT) rm_X11_octet (zPm dC dI cI cJ cS (cl_X11 cI cJ a u) [.ref (a 0), .int x1, .int x2] sz) (va_Qi Q (zB dC dI cI cJ cS (va_A (cl_X11 cI cJ a u) sz) (fun z => cl_X11 cI cJ a z)) (va_A (cl_X11 cI cJ a u) sz)) 0 0 (va_A (cl_X11 cI cJ a u) sz) := L_X11_octet l dC dI cI cJ cS a u x1 x2 Q (st_X11_octet hf)

def t_X11_from_e (u : zModel) (x1 : Int32) (x2 : Int32) (K30 : Int32 → Int32 → zModel → Prop) (Q : Int32 → zModel → Prop) : Prop := s_X11_isKey x1 (fun r_1 : Int32 => ((r_1 = 0 → (((1 : Int32) ≤ 0 → K30 (0 : Int32) x1 ((1 : Int32), u.2)) ∧ (¬ (1 : Int32) ≤ 0 → Q (0 : Int32) ((1 : Int32), u.2)))) ∧ (¬ r_1 = 0 → (((0 : Int32) ≤ 0 → K30 (0 : Int32) x1 ((0 : Int32), u.2)) ∧ (¬ (0 : Int32) ≤ 0 → Q (0 : Int32) ((0 : Int32), u.2))))))
def t_X11_from_30 (x1 : Int32) (x2 : Int32) (y3 : Int32) (y4 : Int32) (z : zModel) (K30 : Int32 → Int32 → zModel → Prop) (Q : Int32 → zModel → Prop) : Prop := (((64 : Int32) ≤ y4 → Q (-1 : Int32) z) ∧ (¬ (64 : Int32) ≤ y4 → s_X11_hasValue z y4 (fun r_8 : Int32 => ((¬ r_8 = 0 → ((¬ y3 = x2 → ∀ x_11 : Int32, x_11 = y3 + (1 : Int32) → ∀ x_12 : Int32, x_12 = y4 + (1 : Int32) → K30 x_11 x_12 z) ∧ (y3 = x2 → Q y4 z))) ∧ (r_8 = 0 → ∀ x_14 : Int32, x_14 = y4 + (1 : Int32) → K30 y3 x_14 z)))))
theorem zc_X11_from : zCalV RX11 yX11_from cX11_from 5 (some .int) 2 := ⟨q_im_X11_from, q_se_X11_from, q_in_X11, q_cd_X11_from, ⟨by decide, by decide, by decide +kernel⟩, rfl⟩
abbrev rm_X11_from : Room := { frames := 5, cells := 0, slots := 0, locals := 109 }
def v_X11_from (u : zModel) (x1 : Int32) (x2 : Int32) (Q : Int32 → zModel → Prop) : Prop := ∃ I30 : Nat → Int32 → Int32 → zModel → Prop, (∀ (n : Nat) (y3 : Int32) (y4 : Int32) (z : zModel), I30 n y3 y4 z → t_X11_from_30 x1 x2 y3 y4 z (fun q0 q1 q2 => ∃ k : Nat, k < n ∧ I30 k q0 q1 q2) Q) ∧ t_X11_from_e u x1 x2 (fun q0 q1 q2 => ∃ k : Nat, I30 k q0 q1 q2) Q
set_option maxHeartbeats 4000000 in
set_option maxRecDepth 100000 in
theorem L_X11_from (l : Launch) (dC : Nat → ClassId) (dI : Nat → Nat → Nat) (cI cJ cS : ClassId) (a : Nat → Nat) (u : zModel) (x1 : Int32) (x2 : Int32) (Q : Int32 → zModel → Prop) (I30 : Nat → Int32 → Int32 → zModel → Prop) (h30 : ∀ (n : Nat) (y3 : Int32) (y4 : Int32) (z : zModel), I30 n y3 y4 z → t_X11_from_30 x1 x2 y3 y4 z (fun q0 q1 q2 => ∃ k : Nat, k < n ∧ I30 k q0 q1 q2) Q) (hf : t_X11_from_e u x1 x2 (fun q0 q1 q2 => ∃ k : Nat, I30 k q0 q1 q2) Q) : ∀ sz : Nat, Met l yX11_from (Cond.code yX11_from cX11_from 5 (some .int) :: zT) rm_X11_from (zPm dC dI cI cJ cS (cl_X11 cI cJ a u) [.ref (a 0), .int x1, .int x2] sz) (va_Qi Q (zB dC dI cI cJ cS (va_A (cl_X11 cI cJ a u) sz) (fun z => cl_X11 cI cJ a z)) (va_A (cl_X11 cI cJ a u) sz)) 0 0 (va_A (cl_X11 cI cJ a u) sz) := by
  intro sz
  refine z_enterM (Qc := fun A => va_Qi Q (zB dC dI cI cJ cS A (fun z => cl_X11 cI cJ a z)) A) (cc := cX11_from) (maxL := 5) (ret := (some .int)) (by decide) (Nat.le_of_ble_eq_true rfl) ?_
  intro p e s m below meth c ls A X hP hD hS hA hl
  obtain ⟨⟨hx, hb, hml, hown, hts⟩, hr, hlk, hK⟩ := id X
  have hl : lv_has ls 5 [(0, .ref (a 0)), (1, .int x1), (2, .int x2)] := hl
  have LP : ∀ n : Nat, (∀ (y3 : Int32) (y4 : Int32) (z : zModel) (H : Heap) (locs : List Loc) (ls : Array Slot), I30 n y3 y4 z → va_P (dC, dI) vwCl (cl_X11 cI cJ a z) H → va_D A (cl_X11 cI cJ a z) → va_S A s.heap H locs → lv_has ls 5 [(0, .ref (a 0)), (1, .int x1), (2, .int x2), (3, .int y3), (4, .int y4)] → W p l e rm_X11_from s m [.ref (a 0), .int x1, .int x2].toArray below meth c H locs 0 0 (MQ below (va_Qi Q (zB dC dI cI cJ cS A (fun z => cl_X11 cI cJ a z)) A) [.ref (a 0), .int x1, .int x2].toArray s 0 0 A) (F0 m 30 ls [])) := by
    intro n
    induction n using Nat.strongRecOn with
    | _ n ih =>
      intro y3 y4 z H locs ls hI hP hD hS hl
      have hf := h30 n y3 y4 z hI
      unfold t_X11_from_30 at hf
      refine lv_iload hx hb dX11_from_30 (lv_at hl 4 rfl) ?_
      refine lv_bipush (v := 64) hx hb dX11_from_32 (by decide) ?_
      refine lv_icmp_ge (tgt := 66) hx hb dX11_from_34 (by decide) (fun c_7 => ?_) (fun c_7 => ?_)
      · have hf := hf.1 c_7
        refine lv_iconst (v := (-1)) hx hb dX11_from_66 (by decide) ?_
        exact z_retMi (Wf := (fun z => cl_X11 cI cJ a z)) (u := z) X hf hP hD hS dX11_from_67
      · have hf := hf.2 c_7
        refine lv_aload_n hx hb dX11_from_37 rfl (lv_at hl 0 rfl) ?_
        refine lv_iload hx hb dX11_from_38 (lv_at hl 4 rfl) ?_
        refine z_cVi (As := [.int y4]) (rest := []) X (c_X11_hasValue l dC dI cI cJ cS a z y4 _ hf) zc_X11_hasValue q_ml_X11_81 ⟨rfl, rfl⟩ ⟨Nat.le_of_ble_eq_true rfl, Nat.le_of_ble_eq_true rfl⟩ hP [0, 1, 2, 3, 4, 5, 6, 7, 8] rfl 10 rfl rfl hl.1 rfl rfl (Nat.le_of_ble_eq_true rfl) ⟨Nat.zero_le _, Nat.zero_le _⟩ dX11_from_40 (fun r_8 hf => ?_)
        obtain ⟨hbr_8, hf⟩ := hf
        refine lv_if_ne (tgt := 49) hx hb dX11_from_43 (by decide) (fun c_9 => ?_) (fun c_9 => ?_)
        · have hf := hf.1 c_9
          refine lv_iload_n hx hb dX11_from_49 rfl (lv_at hl 3 rfl) ?_
          refine lv_iload_n hx hb dX11_from_50 rfl (lv_at hl 2 rfl) ?_
          refine lv_icmp_ne (tgt := 57) hx hb dX11_from_51 (by decide) (fun c_10 => ?_) (fun c_10 => ?_)
          · have hf := hf.1 c_10
            obtain ⟨x_11, ex_11⟩ : ∃ y : Int32, y = y3 + (1 : Int32) := ⟨_, rfl⟩
            have hf := hf x_11 ex_11
            refine lv_iinc (v := x_11) (lv' := [(3, .int x_11), (0, .ref (a 0)), (1, .int x1), (2, .int x2), (4, .int y4)]) hx hb dX11_from_57 hl (k := 3) rfl (by rw [ex_11]; rfl) (by decide) rfl (fun ls hl => ?_)
            obtain ⟨x_12, ex_12⟩ : ∃ y : Int32, y = y4 + (1 : Int32) := ⟨_, rfl⟩
            have hf := hf x_12 ex_12
            refine lv_iinc (v := x_12) (lv' := [(4, .int x_12), (3, .int x_11), (0, .ref (a 0)), (1, .int x1), (2, .int x2)]) hx hb dX11_from_60 hl (k := 4) rfl (by rw [ex_12]; rfl) (by decide) rfl (fun ls hl => ?_)
            refine lv_goto (tgt := 30) hx hb dX11_from_63 (by decide) ?_
            obtain ⟨k_13, hk_13, hf⟩ := hf
            exact (ih k_13 hk_13) _ _ z _ _ ls hf hP hD hS (lv_sub hl [2, 3, 4, 1, 0] rfl)
          · have hf := hf.2 c_10
            refine lv_iload hx hb dX11_from_54 (lv_at hl 4 rfl) ?_
            exact z_retMi (Wf := (fun z => cl_X11 cI cJ a z)) (u := z) X hf hP hD hS dX11_from_56
        · have hf := hf.2 c_9
          refine lv_goto (tgt := 60) hx hb dX11_from_46 (by decide) ?_
          obtain ⟨x_14, ex_14⟩ : ∃ y : Int32, y = y4 + (1 : Int32) := ⟨_, rfl⟩
          have hf := hf x_14 ex_14
          refine lv_iinc (v := x_14) (lv' := [(4, .int x_14), (0, .ref (a 0)), (1, .int x1), (2, .int x2), (3, .int y3)]) hx hb dX11_from_60 hl (k := 4) rfl (by rw [ex_14]; rfl) (by decide) rfl (fun ls hl => ?_)
          refine lv_goto (tgt := 30) hx hb dX11_from_63 (by decide) ?_
          obtain ⟨k_15, hk_15, hf⟩ := hf
          exact (ih k_15 hk_15) _ _ z _ _ ls hf hP hD hS (lv_sub hl [1, 2, 3, 4, 0] rfl)
  unfold t_X11_from_e at hf
  refine lv_aload_n hx hb dX11_from_0 rfl (lv_at hl 0 rfl) ?_
  refine lv_iload_n hx hb dX11_from_1 rfl (lv_at hl 1 rfl) ?_
  refine z_cSi (As := [.int x1]) (rest := [.ref (a 0)]) X (c_X11_isKey l dC dI cI cJ cS   x1 _ hf) zc_X11_isKey q_ml_X11_254 ⟨rfl, rfl⟩ ⟨Nat.le_of_ble_eq_true rfl, Nat.le_of_ble_eq_true rfl⟩ hP [] rfl hl.1 rfl rfl (Nat.le_of_ble_eq_true rfl) ⟨Nat.zero_le _, Nat.zero_le _⟩ dX11_from_2 (fun r_1 hf => ?_)
  obtain ⟨hbr_1, hf⟩ := hf
  refine lv_if_eq (tgt := 12) hx hb dX11_from_5 (by decide) (fun c_2 => ?_) (fun c_2 => ?_)
  · have hf := hf.1 c_2
    refine lv_iconst (v := 1) hx hb dX11_from_12 (by decide) ?_
    refine z_put (w' := cl_X11 cI cJ a ((1 : Int32), u.2)) (ci := 10) (v := .int (1 : Int32)) (ty := .int) (Cn := RX11) (T := TX11) (N := 17) X inX11 tyX11 tyX11_ok nmX11 hP hD hS 0 rfl rfl 0 (by decide) (hts _ q_fl_X11_43) (fun _ h9 => h9) rfl (tyX11_ok 0 (by decide)) rfl rfl (Nat.le_of_ble_eq_true rfl) rfl dX11_from_13 (fun H locs hP hD hS => ?_)
    refine lv_aload_n hx hb dX11_from_16 rfl (lv_at hl 0 rfl) ?_
    refine va_get (D := (dC, dI)) (ci := 10) (v := .int (1 : Int32)) (C := RX11) (T := TX11) (N := 17) hx hb hts inX11 hown hK hP 0 rfl rfl 0 (by decide) (hts _ q_fl_X11_43) (fun _ h9 => h9) rfl dX11_from_17 ?_
    refine lv_if_le (tgt := 25) hx hb dX11_from_20 (by decide) (fun c_3 => ?_) (fun c_3 => ?_)
    · have hf := hf.1 c_3
      refine lv_iconst (v := 0) hx hb dX11_from_25 (by decide) ?_
      refine lv_istore_n (lv' := [(3, .int (0 : Int32)), (0, .ref (a 0)), (1, .int x1), (2, .int x2)]) hx hb dX11_from_26 rfl hl (by decide) rfl (fun ls hl => ?_)
      refine lv_iload_n hx hb dX11_from_27 rfl (lv_at hl 2 rfl) ?_
      refine lv_istore (lv' := [(4, .int x1), (3, .int (0 : Int32)), (0, .ref (a 0)), (1, .int x1), (2, .int x2)]) hx hb dX11_from_28 hl (by decide) rfl (fun ls hl => ?_)
      obtain ⟨k_4, hf⟩ := hf
      exact (LP k_4) _ _ ((1 : Int32), u.2) _ _ ls hf hP hD hS (lv_sub hl [2, 3, 4, 1, 0] rfl)
    · have hf := hf.2 c_3
      refine lv_iconst (v := 0) hx hb dX11_from_23 (by decide) ?_
      exact z_retMi (Wf := (fun z => cl_X11 cI cJ a z)) (u := ((1 : Int32), u.2)) X hf hP hD hS dX11_from_24
  · have hf := hf.2 c_2
    refine lv_iconst (v := 0) hx hb dX11_from_8 (by decide) ?_
    refine lv_goto (tgt := 13) hx hb dX11_from_9 (by decide) ?_
    refine z_put (w' := cl_X11 cI cJ a ((0 : Int32), u.2)) (ci := 10) (v := .int (0 : Int32)) (ty := .int) (Cn := RX11) (T := TX11) (N := 17) X inX11 tyX11 tyX11_ok nmX11 hP hD hS 0 rfl rfl 0 (by decide) (hts _ q_fl_X11_43) (fun _ h9 => h9) rfl (tyX11_ok 0 (by decide)) rfl rfl (Nat.le_of_ble_eq_true rfl) rfl dX11_from_13 (fun H locs hP hD hS => ?_)
    refine lv_aload_n hx hb dX11_from_16 rfl (lv_at hl 0 rfl) ?_
    refine va_get (D := (dC, dI)) (ci := 10) (v := .int (0 : Int32)) (C := RX11) (T := TX11) (N := 17) hx hb hts inX11 hown hK hP 0 rfl rfl 0 (by decide) (hts _ q_fl_X11_43) (fun _ h9 => h9) rfl dX11_from_17 ?_
    refine lv_if_le (tgt := 25) hx hb dX11_from_20 (by decide) (fun c_5 => ?_) (fun c_5 => ?_)
    · have hf := hf.1 c_5
      refine lv_iconst (v := 0) hx hb dX11_from_25 (by decide) ?_
      refine lv_istore_n (lv' := [(3, .int (0 : Int32)), (0, .ref (a 0)), (1, .int x1), (2, .int x2)]) hx hb dX11_from_26 rfl hl (by decide) rfl (fun ls hl => ?_)
      refine lv_iload_n hx hb dX11_from_27 rfl (lv_at hl 2 rfl) ?_
      refine lv_istore (lv' := [(4, .int x1), (3, .int (0 : Int32)), (0, .ref (a 0)), (1, .int x1), (2, .int x2)]) hx hb dX11_from_28 hl (by decide) rfl (fun ls hl => ?_)
      obtain ⟨k_6, hf⟩ := hf
      exact (LP k_6) _ _ ((0 : Int32), u.2) _ _ ls hf hP hD hS (lv_sub hl [2, 3, 4, 1, 0] rfl)
    · have hf := hf.2 c_5
      refine lv_iconst (v := 0) hx hb dX11_from_23 (by decide) ?_
      exact z_retMi (Wf := (fun z => cl_X11 cI cJ a z)) (u := ((0 : Int32), u.2)) X hf hP hD hS dX11_from_24
def s_X11_from (u : zModel) (x1 x2 : Int32) (Q : Int32 → zModel → Prop) : Prop := mAsk u (fun v => fFrom v x1 x2) Q
theorem st_X11_from {u : zModel} {x1 x2 : Int32} {Q : Int32 → zModel → Prop} (h : s_X11_from u x1 x2 Q) : v_X11_from u x1 x2 Q := by
  obtain ⟨B, G, hG, hm, hQ⟩ := h
  dsimp only at hQ
  unfold fFrom at hQ
  have hmk : mOk (gNow G) u.2.1 := hG.1.mok hm.now
  refine ⟨fun n y3 y4 z => ∃ o : Nat, o ≤ 64 ∧ n = 64 - o ∧ y4 = nI o ∧ z = ((0 : Int32), u.2) ∧ Q (uFr (gNow G) x2 (64 - o) o y3) ((0 : Int32), u.2), ?_, ?_⟩
  · rintro n y3 y4 z ⟨o, ho, rfl, rfl, rfl, hq⟩
    refine ⟨fun c => ?_, fun c => ?_⟩
    · have : o = 64 := by
        have := (nI_leI (a := 64) (b := o) (by decide) (by omega)).mp c
        omega
      subst this
      exact hq
    · have ho : o < 64 := by
        have : ¬ 64 ≤ o := fun q => c (le64 q (by omega))
        omega
      obtain ⟨n, en⟩ : ∃ n, 64 - o = n + 1 := ⟨63 - o, by omega⟩
      have en' : 64 - (o + 1) = n := by omega
      rw [en] at hq
      unfold uFr at hq
      refine ⟨gNow G, o, hmk, ho, rfl, fun hv => ⟨fun _ => ⟨fun c2 x e x' e' => ?_, fun c2 => ?_⟩, fun q => absurd q (by decide)⟩, fun hv => ⟨fun q => absurd rfl q, fun _ x e => ?_⟩⟩
      · rw [if_pos hv, if_neg c2] at hq
        exact ⟨64 - (o + 1), by omega, o + 1, by omega, rfl, by rw [e', nI_1], rfl, by rw [en', e]; exact hq⟩
      · rw [if_pos hv, if_pos c2] at hq; exact hq
      · rw [if_neg (by rw [hv]; decide)] at hq
        exact ⟨64 - (o + 1), by omega, o + 1, by omega, rfl, by rw [e, nI_1], rfl, by rw [en']; exact hq⟩
  · refine isIn_of (fun c1 => ⟨fun q => absurd q (by decide), fun _ => ⟨fun _ => ?_, fun q => absurd (by decide) q⟩⟩) (fun c1 => ⟨fun _ => ⟨fun q => absurd q (by decide), fun _ => ?_⟩, fun q => absurd rfl q⟩)
    · rw [if_pos c1] at hQ
      obtain ⟨k, hk, rfl, ek⟩ := key_n c1
      rw [ek] at hQ
      exact ⟨64 - k, k, by omega, rfl, rfl, rfl, hQ _ (hm.th 0) rfl⟩
    · rw [if_neg c1] at hQ
      exact hQ _ (hm.th 1) rfl
theorem c_X11_from (l : Launch) (dC : Nat → ClassId) (dI : Nat → Nat → Nat) (cI cJ cS : ClassId) (a : Nat → Nat) (u : zModel) (x1 : Int32) (x2 : Int32) (Q : Int32 → zModel → Prop) (hf : s_X11_from u x1 x2 Q) : ∀ sz : Nat, Met l yX11_from (Cond.code yX11_from cX11_from 5 (some .int) :: zT) rm_X11_from (zPm dC dI cI cJ cS (cl_X11 cI cJ a u) [.ref (a 0), .int x1, .int x2] sz) (va_Qi Q (zB dC dI cI cJ cS (va_A (cl_X11 cI cJ a u) sz) (fun z => cl_X11 cI cJ a z)) (va_A (cl_X11 cI cJ a u) sz)) 0 0 (va_A (cl_X11 cI cJ a u) sz) := by
  obtain ⟨I30, h30, hf⟩ := st_X11_from hf
  exact L_X11_from l dC dI cI cJ cS a u x1 x2 Q I30 h30 hf

def t_X11_below (u : zModel) (x1 : Int32) (Q : Int32 → zModel → Prop) : Prop := s_X11_isKey x1 (fun r_1 : Int32 => ((r_1 = 0 → (((1 : Int32) ≤ 0 → s_X11_valuesBelow ((1 : Int32), u.2) x1 (fun r_4 : Int32 => Q r_4 ((1 : Int32), u.2))) ∧ (¬ (1 : Int32) ≤ 0 → Q (0 : Int32) ((1 : Int32), u.2)))) ∧ (¬ r_1 = 0 → (((0 : Int32) ≤ 0 → s_X11_valuesBelow ((0 : Int32), u.2) x1 (fun r_6 : Int32 => Q r_6 ((0 : Int32), u.2))) ∧ (¬ (0 : Int32) ≤ 0 → Q (0 : Int32) ((0 : Int32), u.2))))))
theorem zc_X11_below : zCalV RX11 yX11_below cX11_below 2 (some .int) 1 := ⟨q_im_X11_below, q_se_X11_below, q_in_X11, q_cd_X11_below, ⟨by decide, by decide, by decide +kernel⟩, rfl⟩
abbrev rm_X11_below : Room := { frames := 6, cells := 0, slots := 0, locals := 132 }
set_option maxHeartbeats 4000000 in
set_option maxRecDepth 100000 in
theorem L_X11_below (l : Launch) (dC : Nat → ClassId) (dI : Nat → Nat → Nat) (cI cJ cS : ClassId) (a : Nat → Nat) (u : zModel) (x1 : Int32) (Q : Int32 → zModel → Prop) (hf : t_X11_below u x1 Q) : ∀ sz : Nat, Met l yX11_below (Cond.code yX11_below cX11_below 2 (some .int) :: zT) rm_X11_below (zPm dC dI cI cJ cS (cl_X11 cI cJ a u) [.ref (a 0), .int x1] sz) (va_Qi Q (zB dC dI cI cJ cS (va_A (cl_X11 cI cJ a u) sz) (fun z => cl_X11 cI cJ a z)) (va_A (cl_X11 cI cJ a u) sz)) 0 0 (va_A (cl_X11 cI cJ a u) sz) := by
  intro sz
  refine z_enterM (Qc := fun A => va_Qi Q (zB dC dI cI cJ cS A (fun z => cl_X11 cI cJ a z)) A) (cc := cX11_below) (maxL := 2) (ret := (some .int)) (by decide) (Nat.le_of_ble_eq_true rfl) ?_
  intro p e s m below meth c ls A X hP hD hS hA hl
  obtain ⟨⟨hx, hb, hml, hown, hts⟩, hr, hlk, hK⟩ := id X
  have hl : lv_has ls 2 [(0, .ref (a 0)), (1, .int x1)] := hl
  unfold t_X11_below at hf
  refine lv_aload_n hx hb dX11_below_0 rfl (lv_at hl 0 rfl) ?_
  refine lv_iload_n hx hb dX11_below_1 rfl (lv_at hl 1 rfl) ?_
  refine z_cSi (As := [.int x1]) (rest := [.ref (a 0)]) X (c_X11_isKey l dC dI cI cJ cS   x1 _ hf) zc_X11_isKey q_ml_X11_254 ⟨rfl, rfl⟩ ⟨Nat.le_of_ble_eq_true rfl, Nat.le_of_ble_eq_true rfl⟩ hP [] rfl hl.1 rfl rfl (Nat.le_of_ble_eq_true rfl) ⟨Nat.zero_le _, Nat.zero_le _⟩ dX11_below_2 (fun r_1 hf => ?_)
  obtain ⟨hbr_1, hf⟩ := hf
  refine lv_if_eq (tgt := 12) hx hb dX11_below_5 (by decide) (fun c_2 => ?_) (fun c_2 => ?_)
  · have hf := hf.1 c_2
    refine lv_iconst (v := 1) hx hb dX11_below_12 (by decide) ?_
    refine z_put (w' := cl_X11 cI cJ a ((1 : Int32), u.2)) (ci := 10) (v := .int (1 : Int32)) (ty := .int) (Cn := RX11) (T := TX11) (N := 17) X inX11 tyX11 tyX11_ok nmX11 hP hD hS 0 rfl rfl 0 (by decide) (hts _ q_fl_X11_43) (fun _ h9 => h9) rfl (tyX11_ok 0 (by decide)) rfl rfl (Nat.le_of_ble_eq_true rfl) rfl dX11_below_13 (fun H locs hP hD hS => ?_)
    refine lv_aload_n hx hb dX11_below_16 rfl (lv_at hl 0 rfl) ?_
    refine va_get (D := (dC, dI)) (ci := 10) (v := .int (1 : Int32)) (C := RX11) (T := TX11) (N := 17) hx hb hts inX11 hown hK hP 0 rfl rfl 0 (by decide) (hts _ q_fl_X11_43) (fun _ h9 => h9) rfl dX11_below_17 ?_
    refine lv_if_le (tgt := 27) hx hb dX11_below_20 (by decide) (fun c_3 => ?_) (fun c_3 => ?_)
    · have hf := hf.1 c_3
      refine lv_aload_n hx hb dX11_below_27 rfl (lv_at hl 0 rfl) ?_
      refine lv_iload_n hx hb dX11_below_28 rfl (lv_at hl 1 rfl) ?_
      refine z_cVi (As := [.int x1]) (rest := []) X (c_X11_valuesBelow l dC dI cI cJ cS a ((1 : Int32), u.2) x1 _ hf) zc_X11_valuesBelow q_ml_X11_287 ⟨rfl, rfl⟩ ⟨Nat.le_of_ble_eq_true rfl, Nat.le_of_ble_eq_true rfl⟩ hP [0, 1, 2, 3, 4, 5, 6, 7, 8] rfl 10 rfl rfl hl.1 rfl rfl (Nat.le_of_ble_eq_true rfl) ⟨Nat.zero_le _, Nat.zero_le _⟩ dX11_below_29 (fun r_4 hf => ?_)
      exact z_retMi (Wf := (fun z => cl_X11 cI cJ a z)) (u := ((1 : Int32), u.2)) X hf hP hD hS dX11_below_32
    · have hf := hf.2 c_3
      refine lv_iconst (v := 0) hx hb dX11_below_23 (by decide) ?_
      refine lv_goto (tgt := 32) hx hb dX11_below_24 (by decide) ?_
      exact z_retMi (Wf := (fun z => cl_X11 cI cJ a z)) (u := ((1 : Int32), u.2)) X hf hP hD hS dX11_below_32
  · have hf := hf.2 c_2
    refine lv_iconst (v := 0) hx hb dX11_below_8 (by decide) ?_
    refine lv_goto (tgt := 13) hx hb dX11_below_9 (by decide) ?_
    refine z_put (w' := cl_X11 cI cJ a ((0 : Int32), u.2)) (ci := 10) (v := .int (0 : Int32)) (ty := .int) (Cn := RX11) (T := TX11) (N := 17) X inX11 tyX11 tyX11_ok nmX11 hP hD hS 0 rfl rfl 0 (by decide) (hts _ q_fl_X11_43) (fun _ h9 => h9) rfl (tyX11_ok 0 (by decide)) rfl rfl (Nat.le_of_ble_eq_true rfl) rfl dX11_below_13 (fun H locs hP hD hS => ?_)
    refine lv_aload_n hx hb dX11_below_16 rfl (lv_at hl 0 rfl) ?_
    refine va_get (D := (dC, dI)) (ci := 10) (v := .int (0 : Int32)) (C := RX11) (T := TX11) (N := 17) hx hb hts inX11 hown hK hP 0 rfl rfl 0 (by decide) (hts _ q_fl_X11_43) (fun _ h9 => h9) rfl dX11_below_17 ?_
    refine lv_if_le (tgt := 27) hx hb dX11_below_20 (by decide) (fun c_5 => ?_) (fun c_5 => ?_)
    · have hf := hf.1 c_5
      refine lv_aload_n hx hb dX11_below_27 rfl (lv_at hl 0 rfl) ?_
      refine lv_iload_n hx hb dX11_below_28 rfl (lv_at hl 1 rfl) ?_
      refine z_cVi (As := [.int x1]) (rest := []) X (c_X11_valuesBelow l dC dI cI cJ cS a ((0 : Int32), u.2) x1 _ hf) zc_X11_valuesBelow q_ml_X11_287 ⟨rfl, rfl⟩ ⟨Nat.le_of_ble_eq_true rfl, Nat.le_of_ble_eq_true rfl⟩ hP [0, 1, 2, 3, 4, 5, 6, 7, 8] rfl 10 rfl rfl hl.1 rfl rfl (Nat.le_of_ble_eq_true rfl) ⟨Nat.zero_le _, Nat.zero_le _⟩ dX11_below_29 (fun r_6 hf => ?_)
      exact z_retMi (Wf := (fun z => cl_X11 cI cJ a z)) (u := ((0 : Int32), u.2)) X hf hP hD hS dX11_below_32
    · have hf := hf.2 c_5
      refine lv_iconst (v := 0) hx hb dX11_below_23 (by decide) ?_
      refine lv_goto (tgt := 32) hx hb dX11_below_24 (by decide) ?_
      exact z_retMi (Wf := (fun z => cl_X11 cI cJ a z)) (u := ((0 : Int32), u.2)) X hf hP hD hS dX11_below_32
def s_X11_below (u : zModel) (x1 : Int32) (Q : Int32 → zModel → Prop) : Prop := mAsk u (fun v => fBelow v x1) Q
theorem st_X11_below {u : zModel} {x1 : Int32} {Q : Int32 → zModel → Prop} (h : s_X11_below u x1 Q) : t_X11_below u x1 Q := by
  obtain ⟨B, G, hG, hm, hQ⟩ := h
  dsimp only at hQ
  unfold fBelow at hQ
  have hmk : mOk (gNow G) u.2.1 := hG.1.mok hm.now
  refine isIn_of (fun c1 => ⟨fun q => absurd q (by decide), fun _ => ⟨fun _ => ?_, fun q => absurd (by decide) q⟩⟩) (fun c1 => ⟨fun _ => ⟨fun q => absurd q (by decide), fun _ => ?_⟩, fun q => absurd rfl q⟩)
  · rw [if_pos c1] at hQ
    obtain ⟨k, hk, rfl, ek⟩ := key_n c1
    rw [ek] at hQ
    exact ⟨gNow G, k, hmk, by omega, rfl, hQ _ (hm.th 0) rfl⟩
  · rw [if_neg c1] at hQ
    exact hQ _ (hm.th 1) rfl
theorem c_X11_below (l : Launch) (dC : Nat → ClassId) (dI : Nat → Nat → Nat) (cI cJ cS : ClassId) (a : Nat → Nat) (u : zModel) (x1 : Int32) (Q : Int32 → zModel → Prop) (hf : s_X11_below u x1 Q) : ∀ sz : Nat, Met l yX11_below (Cond.code yX11_below cX11_below 2 (some .int) :: zT) rm_X11_below (zPm dC dI cI cJ cS (cl_X11 cI cJ a u) [.ref (a 0), .int x1] sz) (va_Qi Q (zB dC dI cI cJ cS (va_A (cl_X11 cI cJ a u) sz) (fun z => cl_X11 cI cJ a z)) (va_A (cl_X11 cI cJ a u) sz)) 0 0 (va_A (cl_X11 cI cJ a u) sz) := L_X11_below l dC dI cI cJ cS a u x1 Q (st_X11_below hf)

def t_X11_segment (u : zModel) (x1 : Int32) (x2 : Int32) (Q : Int32 → zModel → Prop) : Prop := s_X11_isSegment x1 (fun r_1 : Int32 => ((¬ r_1 = 0 → s_X11_isIn x2 (0 : Int32) (6 : Int32) (fun r_3 : Int32 => ((¬ r_3 = 0 → (((0 : Int32) ≤ 0 → ((x2 = (0 : Int32) → s_X11_segmentAt ((0 : Int32), u.2) x1 (0 : Int32) (fun r_7 : Int32 => Q r_7 ((0 : Int32), u.2))) ∧ (¬ x2 = (0 : Int32) → ((x2 = (1 : Int32) → s_X11_segmentAt ((0 : Int32), u.2) x1 (1 : Int32) (fun r_9 : Int32 => Q r_9 ((0 : Int32), u.2))) ∧ (¬ x2 = (1 : Int32) → ((x2 = (2 : Int32) → s_X11_segmentAt ((0 : Int32), u.2) x1 (2 : Int32) (fun r_11 : Int32 => Q r_11 ((0 : Int32), u.2))) ∧ (¬ x2 = (2 : Int32) → ((x2 = (3 : Int32) → s_X11_liveOf ((0 : Int32), u.2) x1 (1 : Int32) (fun r_13 : Int32 => Q r_13 ((0 : Int32), u.2))) ∧ (¬ x2 = (3 : Int32) → ((x2 = (4 : Int32) → s_X11_liveOf ((0 : Int32), u.2) x1 (0 : Int32) (fun r_15 : Int32 => Q r_15 ((0 : Int32), u.2))) ∧ (¬ x2 = (4 : Int32) → ((x2 = (5 : Int32) → s_X11_lastIn ((0 : Int32), u.2) x1 (fun r_17 : Int32 => Q r_17 ((0 : Int32), u.2))) ∧ (¬ x2 = (5 : Int32) → s_X11_segmentAt ((0 : Int32), u.2) x1 (0 : Int32) (fun r_18 : Int32 => ((¬ r_18 = (2 : Int32) → Q (0 : Int32) ((0 : Int32), u.2)) ∧ (r_18 = (2 : Int32) → s_X11_liveOf ((0 : Int32), u.2) x1 (0 : Int32) (fun r_20 : Int32 => s_X11_liveOf ((0 : Int32), u.2) x1 (1 : Int32) (fun r_21 : Int32 => Q (r_20 - r_21) ((0 : Int32), u.2))))))))))))))))))) ∧ (¬ (0 : Int32) ≤ 0 → Q (0 : Int32) ((0 : Int32), u.2)))) ∧ (r_3 = 0 → (((2 : Int32) ≤ 0 → ((x2 = (0 : Int32) → s_X11_segmentAt ((2 : Int32), u.2) x1 (0 : Int32) (fun r_24 : Int32 => Q r_24 ((2 : Int32), u.2))) ∧ (¬ x2 = (0 : Int32) → ((x2 = (1 : Int32) → s_X11_segmentAt ((2 : Int32), u.2) x1 (1 : Int32) (fun r_26 : Int32 => Q r_26 ((2 : Int32), u.2))) ∧ (¬ x2 = (1 : Int32) → ((x2 = (2 : Int32) → s_X11_segmentAt ((2 : Int32), u.2) x1 (2 : Int32) (fun r_28 : Int32 => Q r_28 ((2 : Int32), u.2))) ∧ (¬ x2 = (2 : Int32) → ((x2 = (3 : Int32) → s_X11_liveOf ((2 : Int32), u.2) x1 (1 : Int32) (fun r_30 : Int32 => Q r_30 ((2 : Int32), u.2))) ∧ (¬ x2 = (3 : Int32) → ((x2 = (4 : Int32) → s_X11_liveOf ((2 : Int32), u.2) x1 (0 : Int32) (fun r_32 : Int32 => Q r_32 ((2 : Int32), u.2))) ∧ (¬ x2 = (4 : Int32) → ((x2 = (5 : Int32) → s_X11_lastIn ((2 : Int32), u.2) x1 (fun r_34 : Int32 => Q r_34 ((2 : Int32), u.2))) ∧ (¬ x2 = (5 : Int32) → s_X11_segmentAt ((2 : Int32), u.2) x1 (0 : Int32) (fun r_35 : Int32 => ((¬ r_35 = (2 : Int32) → Q (0 : Int32) ((2 : Int32), u.2)) ∧ (r_35 = (2 : Int32) → s_X11_liveOf ((2 : Int32), u.2) x1 (0 : Int32) (fun r_37 : Int32 => s_X11_liveOf ((2 : Int32), u.2) x1 (1 : Int32) (fun r_38 : Int32 => Q (r_37 - r_38) ((2 : Int32), u.2))))))))))))))))))) ∧ (¬ (2 : Int32) ≤ 0 → Q (0 : Int32) ((2 : Int32), u.2))))))) ∧ (r_1 = 0 → (((1 : Int32) ≤ 0 → ((x2 = (0 : Int32) → s_X11_segmentAt ((1 : Int32), u.2) x1 (0 : Int32) (fun r_41 : Int32 => Q r_41 ((1 : Int32), u.2))) ∧ (¬ x2 = (0 : Int32) → ((x2 = (1 : Int32) → s_X11_segmentAt ((1 : Int32), u.2) x1 (1 : Int32) (fun r_43 : Int32 => Q r_43 ((1 : Int32), u.2))) ∧ (¬ x2 = (1 : Int32) → ((x2 = (2 : Int32) → s_X11_segmentAt ((1 : Int32), u.2) x1 (2 : Int32) (fun r_45 : Int32 => Q r_45 ((1 : Int32), u.2))) ∧ (¬ x2 = (2 : Int32) → ((x2 = (3 : Int32) → s_X11_liveOf ((1 : Int32), u.2) x1 (1 : Int32) (fun r_47 : Int32 => Q r_47 ((1 : Int32), u.2))) ∧ (¬ x2 = (3 : Int32) → ((x2 = (4 : Int32) → s_X11_liveOf ((1 : Int32), u.2) x1 (0 : Int32) (fun r_49 : Int32 => Q r_49 ((1 : Int32), u.2))) ∧ (¬ x2 = (4 : Int32) → ((x2 = (5 : Int32) → s_X11_lastIn ((1 : Int32), u.2) x1 (fun r_51 : Int32 => Q r_51 ((1 : Int32), u.2))) ∧ (¬ x2 = (5 : Int32) → s_X11_segmentAt ((1 : Int32), u.2) x1 (0 : Int32) (fun r_52 : Int32 => ((¬ r_52 = (2 : Int32) → Q (0 : Int32) ((1 : Int32), u.2)) ∧ (r_52 = (2 : Int32) → s_X11_liveOf ((1 : Int32), u.2) x1 (0 : Int32) (fun r_54 : Int32 => s_X11_liveOf ((1 : Int32), u.2) x1 (1 : Int32) (fun r_55 : Int32 => Q (r_54 - r_55) ((1 : Int32), u.2))))))))))))))))))) ∧ (¬ (1 : Int32) ≤ 0 → Q (0 : Int32) ((1 : Int32), u.2))))))
theorem zc_X11_segment : zCalV RX11 yX11_segment cX11_segment 3 (some .int) 2 := ⟨q_im_X11_segment, q_se_X11_segment, q_in_X11, q_cd_X11_segment, ⟨by decide, by decide, by decide +kernel⟩, rfl⟩
abbrev rm_X11_segment : Room := { frames := 6, cells := 0, slots := 0, locals := 135 }
set_option maxHeartbeats 4000000 in
set_option maxRecDepth 100000 in
theorem L_X11_segment (l : Launch) (dC : Nat → ClassId) (dI : Nat → Nat → Nat) (cI cJ cS : ClassId) (a : Nat → Nat) (u : zModel) (x1 : Int32) (x2 : Int32) (Q : Int32 → zModel → Prop) (hf : t_X11_segment u x1 x2 Q) : ∀ sz : Nat, Met l yX11_segment (Cond.code yX11_segment cX11_segment 3 (some .int) :: zT) rm_X11_segment (zPm dC dI cI cJ cS (cl_X11 cI cJ a u) [.ref (a 0), .int x1, .int x2] sz) (va_Qi Q (zB dC dI cI cJ cS (va_A (cl_X11 cI cJ a u) sz) (fun z => cl_X11 cI cJ a z)) (va_A (cl_X11 cI cJ a u) sz)) 0 0 (va_A (cl_X11 cI cJ a u) sz) := by
  intro sz
  refine z_enterM (Qc := fun A => va_Qi Q (zB dC dI cI cJ cS A (fun z => cl_X11 cI cJ a z)) A) (cc := cX11_segment) (maxL := 3) (ret := (some .int)) (by decide) (Nat.le_of_ble_eq_true rfl) ?_
  intro p e s m below meth c ls A X hP hD hS hA hl
  obtain ⟨⟨hx, hb, hml, hown, hts⟩, hr, hlk, hK⟩ := id X
  have hl : lv_has ls 3 [(0, .ref (a 0)), (1, .int x1), (2, .int x2)] := hl
  unfold t_X11_segment at hf
  refine lv_aload_n hx hb dX11_segment_0 rfl (lv_at hl 0 rfl) ?_
  refine lv_iload_n hx hb dX11_segment_1 rfl (lv_at hl 1 rfl) ?_
  refine z_cSi (As := [.int x1]) (rest := [.ref (a 0)]) X (c_X11_isSegment l dC dI cI cJ cS   x1 _ hf) zc_X11_isSegment q_ml_X11_263 ⟨rfl, rfl⟩ ⟨Nat.le_of_ble_eq_true rfl, Nat.le_of_ble_eq_true rfl⟩ hP [] rfl hl.1 rfl rfl (Nat.le_of_ble_eq_true rfl) ⟨Nat.zero_le _, Nat.zero_le _⟩ dX11_segment_2 (fun r_1 hf => ?_)
  obtain ⟨hbr_1, hf⟩ := hf
  refine lv_if_ne (tgt := 12) hx hb dX11_segment_5 (by decide) (fun c_2 => ?_) (fun c_2 => ?_)
  · have hf := hf.1 c_2
    refine lv_iload_n hx hb dX11_segment_12 rfl (lv_at hl 2 rfl) ?_
    refine lv_iconst (v := 0) hx hb dX11_segment_13 (by decide) ?_
    refine lv_bipush (v := 6) hx hb dX11_segment_14 (by decide) ?_
    refine z_cSi (As := [.int x2, .int (0 : Int32), .int (6 : Int32)]) (rest := [.ref (a 0)]) X (c_X11_isIn l dC dI cI cJ cS   x2 (0 : Int32) (6 : Int32) _ hf) zc_X11_isIn q_ml_X11_165 ⟨rfl, rfl⟩ ⟨Nat.le_of_ble_eq_true rfl, Nat.le_of_ble_eq_true rfl⟩ hP [] rfl hl.1 rfl rfl (Nat.le_of_ble_eq_true rfl) ⟨Nat.zero_le _, Nat.zero_le _⟩ dX11_segment_16 (fun r_3 hf => ?_)
    obtain ⟨hbr_3, hf⟩ := hf
    refine lv_if_ne (tgt := 26) hx hb dX11_segment_19 (by decide) (fun c_4 => ?_) (fun c_4 => ?_)
    · have hf := hf.1 c_4
      refine lv_iconst (v := 0) hx hb dX11_segment_26 (by decide) ?_
      refine z_put (w' := cl_X11 cI cJ a ((0 : Int32), u.2)) (ci := 10) (v := .int (0 : Int32)) (ty := .int) (Cn := RX11) (T := TX11) (N := 17) X inX11 tyX11 tyX11_ok nmX11 hP hD hS 0 rfl rfl 0 (by decide) (hts _ q_fl_X11_43) (fun _ h9 => h9) rfl (tyX11_ok 0 (by decide)) rfl rfl (Nat.le_of_ble_eq_true rfl) rfl dX11_segment_27 (fun H locs hP hD hS => ?_)
      refine lv_aload_n hx hb dX11_segment_30 rfl (lv_at hl 0 rfl) ?_
      refine va_get (D := (dC, dI)) (ci := 10) (v := .int (0 : Int32)) (C := RX11) (T := TX11) (N := 17) hx hb hts inX11 hown hK hP 0 rfl rfl 0 (by decide) (hts _ q_fl_X11_43) (fun _ h9 => h9) rfl dX11_segment_31 ?_
      refine lv_if_le (tgt := 39) hx hb dX11_segment_34 (by decide) (fun c_5 => ?_) (fun c_5 => ?_)
      · have hf := hf.1 c_5
        refine lv_iload_n hx hb dX11_segment_39 rfl (lv_at hl 2 rfl) ?_
        by_cases c_6 : x2 = (0 : Int32)
        · have hf := hf.1 c_6
          refine lv_tableIn (off := 40) (tgt := 80) hx hb dX11_segment_40 (by rw [c_6]; decide) (by rw [c_6]; decide) (by rw [c_6]; decide) (by decide) ?_
          refine lv_aload_n hx hb dX11_segment_80 rfl (lv_at hl 0 rfl) ?_
          refine lv_iload_n hx hb dX11_segment_81 rfl (lv_at hl 1 rfl) ?_
          refine lv_iconst (v := 0) hx hb dX11_segment_82 (by decide) ?_
          refine z_cVi (As := [.int x1, .int (0 : Int32)]) (rest := []) X (c_X11_segmentAt l dC dI cI cJ cS a ((0 : Int32), u.2) x1 (0 : Int32) _ hf) zc_X11_segmentAt q_ml_X11_53 ⟨rfl, rfl⟩ ⟨Nat.le_of_ble_eq_true rfl, Nat.le_of_ble_eq_true rfl⟩ hP [0, 1, 2, 3, 4, 5, 6, 7, 8] rfl 10 rfl rfl hl.1 rfl rfl (Nat.le_of_ble_eq_true rfl) ⟨Nat.zero_le _, Nat.zero_le _⟩ dX11_segment_83 (fun r_7 hf => ?_)
          exact z_retMi (Wf := (fun z => cl_X11 cI cJ a z)) (u := ((0 : Int32), u.2)) X hf hP hD hS dX11_segment_86
        have hf := hf.2 c_6
        by_cases c_8 : x2 = (1 : Int32)
        · have hf := hf.1 c_8
          refine lv_tableIn (off := 47) (tgt := 87) hx hb dX11_segment_40 (by rw [c_8]; decide) (by rw [c_8]; decide) (by rw [c_8]; decide) (by decide) ?_
          refine lv_aload_n hx hb dX11_segment_87 rfl (lv_at hl 0 rfl) ?_
          refine lv_iload_n hx hb dX11_segment_88 rfl (lv_at hl 1 rfl) ?_
          refine lv_iconst (v := 1) hx hb dX11_segment_89 (by decide) ?_
          refine z_cVi (As := [.int x1, .int (1 : Int32)]) (rest := []) X (c_X11_segmentAt l dC dI cI cJ cS a ((0 : Int32), u.2) x1 (1 : Int32) _ hf) zc_X11_segmentAt q_ml_X11_53 ⟨rfl, rfl⟩ ⟨Nat.le_of_ble_eq_true rfl, Nat.le_of_ble_eq_true rfl⟩ hP [0, 1, 2, 3, 4, 5, 6, 7, 8] rfl 10 rfl rfl hl.1 rfl rfl (Nat.le_of_ble_eq_true rfl) ⟨Nat.zero_le _, Nat.zero_le _⟩ dX11_segment_90 (fun r_9 hf => ?_)
          exact z_retMi (Wf := (fun z => cl_X11 cI cJ a z)) (u := ((0 : Int32), u.2)) X hf hP hD hS dX11_segment_93
        have hf := hf.2 c_8
        by_cases c_10 : x2 = (2 : Int32)
        · have hf := hf.1 c_10
          refine lv_tableIn (off := 54) (tgt := 94) hx hb dX11_segment_40 (by rw [c_10]; decide) (by rw [c_10]; decide) (by rw [c_10]; decide) (by decide) ?_
          refine lv_aload_n hx hb dX11_segment_94 rfl (lv_at hl 0 rfl) ?_
          refine lv_iload_n hx hb dX11_segment_95 rfl (lv_at hl 1 rfl) ?_
          refine lv_iconst (v := 2) hx hb dX11_segment_96 (by decide) ?_
          refine z_cVi (As := [.int x1, .int (2 : Int32)]) (rest := []) X (c_X11_segmentAt l dC dI cI cJ cS a ((0 : Int32), u.2) x1 (2 : Int32) _ hf) zc_X11_segmentAt q_ml_X11_53 ⟨rfl, rfl⟩ ⟨Nat.le_of_ble_eq_true rfl, Nat.le_of_ble_eq_true rfl⟩ hP [0, 1, 2, 3, 4, 5, 6, 7, 8] rfl 10 rfl rfl hl.1 rfl rfl (Nat.le_of_ble_eq_true rfl) ⟨Nat.zero_le _, Nat.zero_le _⟩ dX11_segment_97 (fun r_11 hf => ?_)
          exact z_retMi (Wf := (fun z => cl_X11 cI cJ a z)) (u := ((0 : Int32), u.2)) X hf hP hD hS dX11_segment_100
        have hf := hf.2 c_10
        by_cases c_12 : x2 = (3 : Int32)
        · have hf := hf.1 c_12
          refine lv_tableIn (off := 61) (tgt := 101) hx hb dX11_segment_40 (by rw [c_12]; decide) (by rw [c_12]; decide) (by rw [c_12]; decide) (by decide) ?_
          refine lv_aload_n hx hb dX11_segment_101 rfl (lv_at hl 0 rfl) ?_
          refine lv_iload_n hx hb dX11_segment_102 rfl (lv_at hl 1 rfl) ?_
          refine lv_iconst (v := 1) hx hb dX11_segment_103 (by decide) ?_
          refine z_cVi (As := [.int x1, .int (1 : Int32)]) (rest := []) X (c_X11_liveOf l dC dI cI cJ cS a ((0 : Int32), u.2) x1 (1 : Int32) _ hf) zc_X11_liveOf q_ml_X11_130 ⟨rfl, rfl⟩ ⟨Nat.le_of_ble_eq_true rfl, Nat.le_of_ble_eq_true rfl⟩ hP [0, 1, 2, 3, 4, 5, 6, 7, 8] rfl 10 rfl rfl hl.1 rfl rfl (Nat.le_of_ble_eq_true rfl) ⟨Nat.zero_le _, Nat.zero_le _⟩ dX11_segment_104 (fun r_13 hf => ?_)
          exact z_retMi (Wf := (fun z => cl_X11 cI cJ a z)) (u := ((0 : Int32), u.2)) X hf hP hD hS dX11_segment_107
        have hf := hf.2 c_12
        by_cases c_14 : x2 = (4 : Int32)
        · have hf := hf.1 c_14
          refine lv_tableIn (off := 68) (tgt := 108) hx hb dX11_segment_40 (by rw [c_14]; decide) (by rw [c_14]; decide) (by rw [c_14]; decide) (by decide) ?_
          refine lv_aload_n hx hb dX11_segment_108 rfl (lv_at hl 0 rfl) ?_
          refine lv_iload_n hx hb dX11_segment_109 rfl (lv_at hl 1 rfl) ?_
          refine lv_iconst (v := 0) hx hb dX11_segment_110 (by decide) ?_
          refine z_cVi (As := [.int x1, .int (0 : Int32)]) (rest := []) X (c_X11_liveOf l dC dI cI cJ cS a ((0 : Int32), u.2) x1 (0 : Int32) _ hf) zc_X11_liveOf q_ml_X11_130 ⟨rfl, rfl⟩ ⟨Nat.le_of_ble_eq_true rfl, Nat.le_of_ble_eq_true rfl⟩ hP [0, 1, 2, 3, 4, 5, 6, 7, 8] rfl 10 rfl rfl hl.1 rfl rfl (Nat.le_of_ble_eq_true rfl) ⟨Nat.zero_le _, Nat.zero_le _⟩ dX11_segment_111 (fun r_15 hf => ?_)
          exact z_retMi (Wf := (fun z => cl_X11 cI cJ a z)) (u := ((0 : Int32), u.2)) X hf hP hD hS dX11_segment_114
        have hf := hf.2 c_14
        by_cases c_16 : x2 = (5 : Int32)
        · have hf := hf.1 c_16
          refine lv_tableIn (off := 75) (tgt := 115) hx hb dX11_segment_40 (by rw [c_16]; decide) (by rw [c_16]; decide) (by rw [c_16]; decide) (by decide) ?_
          refine lv_aload_n hx hb dX11_segment_115 rfl (lv_at hl 0 rfl) ?_
          refine lv_iload_n hx hb dX11_segment_116 rfl (lv_at hl 1 rfl) ?_
          refine z_cVi (As := [.int x1]) (rest := []) X (c_X11_lastIn l dC dI cI cJ cS a ((0 : Int32), u.2) x1 _ hf) zc_X11_lastIn q_ml_X11_290 ⟨rfl, rfl⟩ ⟨Nat.le_of_ble_eq_true rfl, Nat.le_of_ble_eq_true rfl⟩ hP [0, 1, 2, 3, 4, 5, 6, 7, 8] rfl 10 rfl rfl hl.1 rfl rfl (Nat.le_of_ble_eq_true rfl) ⟨Nat.zero_le _, Nat.zero_le _⟩ dX11_segment_117 (fun r_17 hf => ?_)
          exact z_retMi (Wf := (fun z => cl_X11 cI cJ a z)) (u := ((0 : Int32), u.2)) X hf hP hD hS dX11_segment_120
        have hf := hf.2 c_16
        refine lv_tableOut (tgt := 121) hx hb dX11_segment_40 (by have q0 : ¬ x2.toInt = (0 : Int) := fun h => c_6 (Int32.toInt_inj.mp (show x2.toInt = (0 : Int32).toInt from h)); have q1 : ¬ x2.toInt = (1 : Int) := fun h => c_8 (Int32.toInt_inj.mp (show x2.toInt = (1 : Int32).toInt from h)); have q2 : ¬ x2.toInt = (2 : Int) := fun h => c_10 (Int32.toInt_inj.mp (show x2.toInt = (2 : Int32).toInt from h)); have q3 : ¬ x2.toInt = (3 : Int) := fun h => c_12 (Int32.toInt_inj.mp (show x2.toInt = (3 : Int32).toInt from h)); have q4 : ¬ x2.toInt = (4 : Int) := fun h => c_14 (Int32.toInt_inj.mp (show x2.toInt = (4 : Int32).toInt from h)); have q5 : ¬ x2.toInt = (5 : Int) := fun h => c_16 (Int32.toInt_inj.mp (show x2.toInt = (5 : Int32).toInt from h)); omega) (by decide) ?_
        refine lv_aload_n hx hb dX11_segment_121 rfl (lv_at hl 0 rfl) ?_
        refine lv_iload_n hx hb dX11_segment_122 rfl (lv_at hl 1 rfl) ?_
        refine lv_iconst (v := 0) hx hb dX11_segment_123 (by decide) ?_
        refine z_cVi (As := [.int x1, .int (0 : Int32)]) (rest := []) X (c_X11_segmentAt l dC dI cI cJ cS a ((0 : Int32), u.2) x1 (0 : Int32) _ hf) zc_X11_segmentAt q_ml_X11_53 ⟨rfl, rfl⟩ ⟨Nat.le_of_ble_eq_true rfl, Nat.le_of_ble_eq_true rfl⟩ hP [0, 1, 2, 3, 4, 5, 6, 7, 8] rfl 10 rfl rfl hl.1 rfl rfl (Nat.le_of_ble_eq_true rfl) ⟨Nat.zero_le _, Nat.zero_le _⟩ dX11_segment_124 (fun r_18 hf => ?_)
        refine lv_iconst (v := 2) hx hb dX11_segment_127 (by decide) ?_
        refine lv_icmp_ne (tgt := 147) hx hb dX11_segment_128 (by decide) (fun c_19 => ?_) (fun c_19 => ?_)
        · have hf := hf.1 c_19
          refine lv_iconst (v := 0) hx hb dX11_segment_147 (by decide) ?_
          exact z_retMi (Wf := (fun z => cl_X11 cI cJ a z)) (u := ((0 : Int32), u.2)) X hf hP hD hS dX11_segment_148
        · have hf := hf.2 c_19
          refine lv_aload_n hx hb dX11_segment_131 rfl (lv_at hl 0 rfl) ?_
          refine lv_iload_n hx hb dX11_segment_132 rfl (lv_at hl 1 rfl) ?_
          refine lv_iconst (v := 0) hx hb dX11_segment_133 (by decide) ?_
          refine z_cVi (As := [.int x1, .int (0 : Int32)]) (rest := []) X (c_X11_liveOf l dC dI cI cJ cS a ((0 : Int32), u.2) x1 (0 : Int32) _ hf) zc_X11_liveOf q_ml_X11_130 ⟨rfl, rfl⟩ ⟨Nat.le_of_ble_eq_true rfl, Nat.le_of_ble_eq_true rfl⟩ hP [0, 1, 2, 3, 4, 5, 6, 7, 8] rfl 10 rfl rfl hl.1 rfl rfl (Nat.le_of_ble_eq_true rfl) ⟨Nat.zero_le _, Nat.zero_le _⟩ dX11_segment_134 (fun r_20 hf => ?_)
          refine lv_aload_n hx hb dX11_segment_137 rfl (lv_at hl 0 rfl) ?_
          refine lv_iload_n hx hb dX11_segment_138 rfl (lv_at hl 1 rfl) ?_
          refine lv_iconst (v := 1) hx hb dX11_segment_139 (by decide) ?_
          refine z_cVi (As := [.int x1, .int (1 : Int32)]) (rest := [.int r_20]) X (c_X11_liveOf l dC dI cI cJ cS a ((0 : Int32), u.2) x1 (1 : Int32) _ hf) zc_X11_liveOf q_ml_X11_130 ⟨rfl, rfl⟩ ⟨Nat.le_of_ble_eq_true rfl, Nat.le_of_ble_eq_true rfl⟩ hP [0, 1, 2, 3, 4, 5, 6, 7, 8] rfl 10 rfl rfl hl.1 rfl rfl (Nat.le_of_ble_eq_true rfl) ⟨Nat.zero_le _, Nat.zero_le _⟩ dX11_segment_140 (fun r_21 hf => ?_)
          refine lv_isub hx hb dX11_segment_143 ?_
          refine lv_goto (tgt := 148) hx hb dX11_segment_144 (by decide) ?_
          exact z_retMi (Wf := (fun z => cl_X11 cI cJ a z)) (u := ((0 : Int32), u.2)) X hf hP hD hS dX11_segment_148
      · have hf := hf.2 c_5
        refine lv_iconst (v := 0) hx hb dX11_segment_37 (by decide) ?_
        exact z_retMi (Wf := (fun z => cl_X11 cI cJ a z)) (u := ((0 : Int32), u.2)) X hf hP hD hS dX11_segment_38
    · have hf := hf.2 c_4
      refine lv_iconst (v := 2) hx hb dX11_segment_22 (by decide) ?_
      refine lv_goto (tgt := 27) hx hb dX11_segment_23 (by decide) ?_
      refine z_put (w' := cl_X11 cI cJ a ((2 : Int32), u.2)) (ci := 10) (v := .int (2 : Int32)) (ty := .int) (Cn := RX11) (T := TX11) (N := 17) X inX11 tyX11 tyX11_ok nmX11 hP hD hS 0 rfl rfl 0 (by decide) (hts _ q_fl_X11_43) (fun _ h9 => h9) rfl (tyX11_ok 0 (by decide)) rfl rfl (Nat.le_of_ble_eq_true rfl) rfl dX11_segment_27 (fun H locs hP hD hS => ?_)
      refine lv_aload_n hx hb dX11_segment_30 rfl (lv_at hl 0 rfl) ?_
      refine va_get (D := (dC, dI)) (ci := 10) (v := .int (2 : Int32)) (C := RX11) (T := TX11) (N := 17) hx hb hts inX11 hown hK hP 0 rfl rfl 0 (by decide) (hts _ q_fl_X11_43) (fun _ h9 => h9) rfl dX11_segment_31 ?_
      refine lv_if_le (tgt := 39) hx hb dX11_segment_34 (by decide) (fun c_22 => ?_) (fun c_22 => ?_)
      · have hf := hf.1 c_22
        refine lv_iload_n hx hb dX11_segment_39 rfl (lv_at hl 2 rfl) ?_
        by_cases c_23 : x2 = (0 : Int32)
        · have hf := hf.1 c_23
          refine lv_tableIn (off := 40) (tgt := 80) hx hb dX11_segment_40 (by rw [c_23]; decide) (by rw [c_23]; decide) (by rw [c_23]; decide) (by decide) ?_
          refine lv_aload_n hx hb dX11_segment_80 rfl (lv_at hl 0 rfl) ?_
          refine lv_iload_n hx hb dX11_segment_81 rfl (lv_at hl 1 rfl) ?_
          refine lv_iconst (v := 0) hx hb dX11_segment_82 (by decide) ?_
          refine z_cVi (As := [.int x1, .int (0 : Int32)]) (rest := []) X (c_X11_segmentAt l dC dI cI cJ cS a ((2 : Int32), u.2) x1 (0 : Int32) _ hf) zc_X11_segmentAt q_ml_X11_53 ⟨rfl, rfl⟩ ⟨Nat.le_of_ble_eq_true rfl, Nat.le_of_ble_eq_true rfl⟩ hP [0, 1, 2, 3, 4, 5, 6, 7, 8] rfl 10 rfl rfl hl.1 rfl rfl (Nat.le_of_ble_eq_true rfl) ⟨Nat.zero_le _, Nat.zero_le _⟩ dX11_segment_83 (fun r_24 hf => ?_)
          exact z_retMi (Wf := (fun z => cl_X11 cI cJ a z)) (u := ((2 : Int32), u.2)) X hf hP hD hS dX11_segment_86
        have hf := hf.2 c_23
        by_cases c_25 : x2 = (1 : Int32)
        · have hf := hf.1 c_25
          refine lv_tableIn (off := 47) (tgt := 87) hx hb dX11_segment_40 (by rw [c_25]; decide) (by rw [c_25]; decide) (by rw [c_25]; decide) (by decide) ?_
          refine lv_aload_n hx hb dX11_segment_87 rfl (lv_at hl 0 rfl) ?_
          refine lv_iload_n hx hb dX11_segment_88 rfl (lv_at hl 1 rfl) ?_
          refine lv_iconst (v := 1) hx hb dX11_segment_89 (by decide) ?_
          refine z_cVi (As := [.int x1, .int (1 : Int32)]) (rest := []) X (c_X11_segmentAt l dC dI cI cJ cS a ((2 : Int32), u.2) x1 (1 : Int32) _ hf) zc_X11_segmentAt q_ml_X11_53 ⟨rfl, rfl⟩ ⟨Nat.le_of_ble_eq_true rfl, Nat.le_of_ble_eq_true rfl⟩ hP [0, 1, 2, 3, 4, 5, 6, 7, 8] rfl 10 rfl rfl hl.1 rfl rfl (Nat.le_of_ble_eq_true rfl) ⟨Nat.zero_le _, Nat.zero_le _⟩ dX11_segment_90 (fun r_26 hf => ?_)
          exact z_retMi (Wf := (fun z => cl_X11 cI cJ a z)) (u := ((2 : Int32), u.2)) X hf hP hD hS dX11_segment_93
        have hf := hf.2 c_25
        by_cases c_27 : x2 = (2 : Int32)
        · have hf := hf.1 c_27
          refine lv_tableIn (off := 54) (tgt := 94) hx hb dX11_segment_40 (by rw [c_27]; decide) (by rw [c_27]; decide) (by rw [c_27]; decide) (by decide) ?_
          refine lv_aload_n hx hb dX11_segment_94 rfl (lv_at hl 0 rfl) ?_
          refine lv_iload_n hx hb dX11_segment_95 rfl (lv_at hl 1 rfl) ?_
          refine lv_iconst (v := 2) hx hb dX11_segment_96 (by decide) ?_
          refine z_cVi (As := [.int x1, .int (2 : Int32)]) (rest := []) X (c_X11_segmentAt l dC dI cI cJ cS a ((2 : Int32), u.2) x1 (2 : Int32) _ hf) zc_X11_segmentAt q_ml_X11_53 ⟨rfl, rfl⟩ ⟨Nat.le_of_ble_eq_true rfl, Nat.le_of_ble_eq_true rfl⟩ hP [0, 1, 2, 3, 4, 5, 6, 7, 8] rfl 10 rfl rfl hl.1 rfl rfl (Nat.le_of_ble_eq_true rfl) ⟨Nat.zero_le _, Nat.zero_le _⟩ dX11_segment_97 (fun r_28 hf => ?_)
          exact z_retMi (Wf := (fun z => cl_X11 cI cJ a z)) (u := ((2 : Int32), u.2)) X hf hP hD hS dX11_segment_100
        have hf := hf.2 c_27
        by_cases c_29 : x2 = (3 : Int32)
        · have hf := hf.1 c_29
          refine lv_tableIn (off := 61) (tgt := 101) hx hb dX11_segment_40 (by rw [c_29]; decide) (by rw [c_29]; decide) (by rw [c_29]; decide) (by decide) ?_
          refine lv_aload_n hx hb dX11_segment_101 rfl (lv_at hl 0 rfl) ?_
          refine lv_iload_n hx hb dX11_segment_102 rfl (lv_at hl 1 rfl) ?_
          refine lv_iconst (v := 1) hx hb dX11_segment_103 (by decide) ?_
          refine z_cVi (As := [.int x1, .int (1 : Int32)]) (rest := []) X (c_X11_liveOf l dC dI cI cJ cS a ((2 : Int32), u.2) x1 (1 : Int32) _ hf) zc_X11_liveOf q_ml_X11_130 ⟨rfl, rfl⟩ ⟨Nat.le_of_ble_eq_true rfl, Nat.le_of_ble_eq_true rfl⟩ hP [0, 1, 2, 3, 4, 5, 6, 7, 8] rfl 10 rfl rfl hl.1 rfl rfl (Nat.le_of_ble_eq_true rfl) ⟨Nat.zero_le _, Nat.zero_le _⟩ dX11_segment_104 (fun r_30 hf => ?_)
          exact z_retMi (Wf := (fun z => cl_X11 cI cJ a z)) (u := ((2 : Int32), u.2)) X hf hP hD hS dX11_segment_107
        have hf := hf.2 c_29
        by_cases c_31 : x2 = (4 : Int32)
        · have hf := hf.1 c_31
          refine lv_tableIn (off := 68) (tgt := 108) hx hb dX11_segment_40 (by rw [c_31]; decide) (by rw [c_31]; decide) (by rw [c_31]; decide) (by decide) ?_
          refine lv_aload_n hx hb dX11_segment_108 rfl (lv_at hl 0 rfl) ?_
          refine lv_iload_n hx hb dX11_segment_109 rfl (lv_at hl 1 rfl) ?_
          refine lv_iconst (v := 0) hx hb dX11_segment_110 (by decide) ?_
          refine z_cVi (As := [.int x1, .int (0 : Int32)]) (rest := []) X (c_X11_liveOf l dC dI cI cJ cS a ((2 : Int32), u.2) x1 (0 : Int32) _ hf) zc_X11_liveOf q_ml_X11_130 ⟨rfl, rfl⟩ ⟨Nat.le_of_ble_eq_true rfl, Nat.le_of_ble_eq_true rfl⟩ hP [0, 1, 2, 3, 4, 5, 6, 7, 8] rfl 10 rfl rfl hl.1 rfl rfl (Nat.le_of_ble_eq_true rfl) ⟨Nat.zero_le _, Nat.zero_le _⟩ dX11_segment_111 (fun r_32 hf => ?_)
          exact z_retMi (Wf := (fun z => cl_X11 cI cJ a z)) (u := ((2 : Int32), u.2)) X hf hP hD hS dX11_segment_114
        have hf := hf.2 c_31
        by_cases c_33 : x2 = (5 : Int32)
        · have hf := hf.1 c_33
          refine lv_tableIn (off := 75) (tgt := 115) hx hb dX11_segment_40 (by rw [c_33]; decide) (by rw [c_33]; decide) (by rw [c_33]; decide) (by decide) ?_
          refine lv_aload_n hx hb dX11_segment_115 rfl (lv_at hl 0 rfl) ?_
          refine lv_iload_n hx hb dX11_segment_116 rfl (lv_at hl 1 rfl) ?_
          refine z_cVi (As := [.int x1]) (rest := []) X (c_X11_lastIn l dC dI cI cJ cS a ((2 : Int32), u.2) x1 _ hf) zc_X11_lastIn q_ml_X11_290 ⟨rfl, rfl⟩ ⟨Nat.le_of_ble_eq_true rfl, Nat.le_of_ble_eq_true rfl⟩ hP [0, 1, 2, 3, 4, 5, 6, 7, 8] rfl 10 rfl rfl hl.1 rfl rfl (Nat.le_of_ble_eq_true rfl) ⟨Nat.zero_le _, Nat.zero_le _⟩ dX11_segment_117 (fun r_34 hf => ?_)
          exact z_retMi (Wf := (fun z => cl_X11 cI cJ a z)) (u := ((2 : Int32), u.2)) X hf hP hD hS dX11_segment_120
        have hf := hf.2 c_33
        refine lv_tableOut (tgt := 121) hx hb dX11_segment_40 (by have q0 : ¬ x2.toInt = (0 : Int) := fun h => c_23 (Int32.toInt_inj.mp (show x2.toInt = (0 : Int32).toInt from h)); have q1 : ¬ x2.toInt = (1 : Int) := fun h => c_25 (Int32.toInt_inj.mp (show x2.toInt = (1 : Int32).toInt from h)); have q2 : ¬ x2.toInt = (2 : Int) := fun h => c_27 (Int32.toInt_inj.mp (show x2.toInt = (2 : Int32).toInt from h)); have q3 : ¬ x2.toInt = (3 : Int) := fun h => c_29 (Int32.toInt_inj.mp (show x2.toInt = (3 : Int32).toInt from h)); have q4 : ¬ x2.toInt = (4 : Int) := fun h => c_31 (Int32.toInt_inj.mp (show x2.toInt = (4 : Int32).toInt from h)); have q5 : ¬ x2.toInt = (5 : Int) := fun h => c_33 (Int32.toInt_inj.mp (show x2.toInt = (5 : Int32).toInt from h)); omega) (by decide) ?_
        refine lv_aload_n hx hb dX11_segment_121 rfl (lv_at hl 0 rfl) ?_
        refine lv_iload_n hx hb dX11_segment_122 rfl (lv_at hl 1 rfl) ?_
        refine lv_iconst (v := 0) hx hb dX11_segment_123 (by decide) ?_
        refine z_cVi (As := [.int x1, .int (0 : Int32)]) (rest := []) X (c_X11_segmentAt l dC dI cI cJ cS a ((2 : Int32), u.2) x1 (0 : Int32) _ hf) zc_X11_segmentAt q_ml_X11_53 ⟨rfl, rfl⟩ ⟨Nat.le_of_ble_eq_true rfl, Nat.le_of_ble_eq_true rfl⟩ hP [0, 1, 2, 3, 4, 5, 6, 7, 8] rfl 10 rfl rfl hl.1 rfl rfl (Nat.le_of_ble_eq_true rfl) ⟨Nat.zero_le _, Nat.zero_le _⟩ dX11_segment_124 (fun r_35 hf => ?_)
        refine lv_iconst (v := 2) hx hb dX11_segment_127 (by decide) ?_
        refine lv_icmp_ne (tgt := 147) hx hb dX11_segment_128 (by decide) (fun c_36 => ?_) (fun c_36 => ?_)
        · have hf := hf.1 c_36
          refine lv_iconst (v := 0) hx hb dX11_segment_147 (by decide) ?_
          exact z_retMi (Wf := (fun z => cl_X11 cI cJ a z)) (u := ((2 : Int32), u.2)) X hf hP hD hS dX11_segment_148
        · have hf := hf.2 c_36
          refine lv_aload_n hx hb dX11_segment_131 rfl (lv_at hl 0 rfl) ?_
          refine lv_iload_n hx hb dX11_segment_132 rfl (lv_at hl 1 rfl) ?_
          refine lv_iconst (v := 0) hx hb dX11_segment_133 (by decide) ?_
          refine z_cVi (As := [.int x1, .int (0 : Int32)]) (rest := []) X (c_X11_liveOf l dC dI cI cJ cS a ((2 : Int32), u.2) x1 (0 : Int32) _ hf) zc_X11_liveOf q_ml_X11_130 ⟨rfl, rfl⟩ ⟨Nat.le_of_ble_eq_true rfl, Nat.le_of_ble_eq_true rfl⟩ hP [0, 1, 2, 3, 4, 5, 6, 7, 8] rfl 10 rfl rfl hl.1 rfl rfl (Nat.le_of_ble_eq_true rfl) ⟨Nat.zero_le _, Nat.zero_le _⟩ dX11_segment_134 (fun r_37 hf => ?_)
          refine lv_aload_n hx hb dX11_segment_137 rfl (lv_at hl 0 rfl) ?_
          refine lv_iload_n hx hb dX11_segment_138 rfl (lv_at hl 1 rfl) ?_
          refine lv_iconst (v := 1) hx hb dX11_segment_139 (by decide) ?_
          refine z_cVi (As := [.int x1, .int (1 : Int32)]) (rest := [.int r_37]) X (c_X11_liveOf l dC dI cI cJ cS a ((2 : Int32), u.2) x1 (1 : Int32) _ hf) zc_X11_liveOf q_ml_X11_130 ⟨rfl, rfl⟩ ⟨Nat.le_of_ble_eq_true rfl, Nat.le_of_ble_eq_true rfl⟩ hP [0, 1, 2, 3, 4, 5, 6, 7, 8] rfl 10 rfl rfl hl.1 rfl rfl (Nat.le_of_ble_eq_true rfl) ⟨Nat.zero_le _, Nat.zero_le _⟩ dX11_segment_140 (fun r_38 hf => ?_)
          refine lv_isub hx hb dX11_segment_143 ?_
          refine lv_goto (tgt := 148) hx hb dX11_segment_144 (by decide) ?_
          exact z_retMi (Wf := (fun z => cl_X11 cI cJ a z)) (u := ((2 : Int32), u.2)) X hf hP hD hS dX11_segment_148
      · have hf := hf.2 c_22
        refine lv_iconst (v := 0) hx hb dX11_segment_37 (by decide) ?_
        exact z_retMi (Wf := (fun z => cl_X11 cI cJ a z)) (u := ((2 : Int32), u.2)) X hf hP hD hS dX11_segment_38
  · have hf := hf.2 c_2
    refine lv_iconst (v := 1) hx hb dX11_segment_8 (by decide) ?_
    refine lv_goto (tgt := 27) hx hb dX11_segment_9 (by decide) ?_
    refine z_put (w' := cl_X11 cI cJ a ((1 : Int32), u.2)) (ci := 10) (v := .int (1 : Int32)) (ty := .int) (Cn := RX11) (T := TX11) (N := 17) X inX11 tyX11 tyX11_ok nmX11 hP hD hS 0 rfl rfl 0 (by decide) (hts _ q_fl_X11_43) (fun _ h9 => h9) rfl (tyX11_ok 0 (by decide)) rfl rfl (Nat.le_of_ble_eq_true rfl) rfl dX11_segment_27 (fun H locs hP hD hS => ?_)
    refine lv_aload_n hx hb dX11_segment_30 rfl (lv_at hl 0 rfl) ?_
    refine va_get (D := (dC, dI)) (ci := 10) (v := .int (1 : Int32)) (C := RX11) (T := TX11) (N := 17) hx hb hts inX11 hown hK hP 0 rfl rfl 0 (by decide) (hts _ q_fl_X11_43) (fun _ h9 => h9) rfl dX11_segment_31 ?_
    refine lv_if_le (tgt := 39) hx hb dX11_segment_34 (by decide) (fun c_39 => ?_) (fun c_39 => ?_)
    · have hf := hf.1 c_39
      refine lv_iload_n hx hb dX11_segment_39 rfl (lv_at hl 2 rfl) ?_
      by_cases c_40 : x2 = (0 : Int32)
      · have hf := hf.1 c_40
        refine lv_tableIn (off := 40) (tgt := 80) hx hb dX11_segment_40 (by rw [c_40]; decide) (by rw [c_40]; decide) (by rw [c_40]; decide) (by decide) ?_
        refine lv_aload_n hx hb dX11_segment_80 rfl (lv_at hl 0 rfl) ?_
        refine lv_iload_n hx hb dX11_segment_81 rfl (lv_at hl 1 rfl) ?_
        refine lv_iconst (v := 0) hx hb dX11_segment_82 (by decide) ?_
        refine z_cVi (As := [.int x1, .int (0 : Int32)]) (rest := []) X (c_X11_segmentAt l dC dI cI cJ cS a ((1 : Int32), u.2) x1 (0 : Int32) _ hf) zc_X11_segmentAt q_ml_X11_53 ⟨rfl, rfl⟩ ⟨Nat.le_of_ble_eq_true rfl, Nat.le_of_ble_eq_true rfl⟩ hP [0, 1, 2, 3, 4, 5, 6, 7, 8] rfl 10 rfl rfl hl.1 rfl rfl (Nat.le_of_ble_eq_true rfl) ⟨Nat.zero_le _, Nat.zero_le _⟩ dX11_segment_83 (fun r_41 hf => ?_)
        exact z_retMi (Wf := (fun z => cl_X11 cI cJ a z)) (u := ((1 : Int32), u.2)) X hf hP hD hS dX11_segment_86
      have hf := hf.2 c_40
      by_cases c_42 : x2 = (1 : Int32)
      · have hf := hf.1 c_42
        refine lv_tableIn (off := 47) (tgt := 87) hx hb dX11_segment_40 (by rw [c_42]; decide) (by rw [c_42]; decide) (by rw [c_42]; decide) (by decide) ?_
        refine lv_aload_n hx hb dX11_segment_87 rfl (lv_at hl 0 rfl) ?_
        refine lv_iload_n hx hb dX11_segment_88 rfl (lv_at hl 1 rfl) ?_
        refine lv_iconst (v := 1) hx hb dX11_segment_89 (by decide) ?_
        refine z_cVi (As := [.int x1, .int (1 : Int32)]) (rest := []) X (c_X11_segmentAt l dC dI cI cJ cS a ((1 : Int32), u.2) x1 (1 : Int32) _ hf) zc_X11_segmentAt q_ml_X11_53 ⟨rfl, rfl⟩ ⟨Nat.le_of_ble_eq_true rfl, Nat.le_of_ble_eq_true rfl⟩ hP [0, 1, 2, 3, 4, 5, 6, 7, 8] rfl 10 rfl rfl hl.1 rfl rfl (Nat.le_of_ble_eq_true rfl) ⟨Nat.zero_le _, Nat.zero_le _⟩ dX11_segment_90 (fun r_43 hf => ?_)
        exact z_retMi (Wf := (fun z => cl_X11 cI cJ a z)) (u := ((1 : Int32), u.2)) X hf hP hD hS dX11_segment_93
      have hf := hf.2 c_42
      by_cases c_44 : x2 = (2 : Int32)
      · have hf := hf.1 c_44
        refine lv_tableIn (off := 54) (tgt := 94) hx hb dX11_segment_40 (by rw [c_44]; decide) (by rw [c_44]; decide) (by rw [c_44]; decide) (by decide) ?_
        refine lv_aload_n hx hb dX11_segment_94 rfl (lv_at hl 0 rfl) ?_
        refine lv_iload_n hx hb dX11_segment_95 rfl (lv_at hl 1 rfl) ?_
        refine lv_iconst (v := 2) hx hb dX11_segment_96 (by decide) ?_
        refine z_cVi (As := [.int x1, .int (2 : Int32)]) (rest := []) X (c_X11_segmentAt l dC dI cI cJ cS a ((1 : Int32), u.2) x1 (2 : Int32) _ hf) zc_X11_segmentAt q_ml_X11_53 ⟨rfl, rfl⟩ ⟨Nat.le_of_ble_eq_true rfl, Nat.le_of_ble_eq_true rfl⟩ hP [0, 1, 2, 3, 4, 5, 6, 7, 8] rfl 10 rfl rfl hl.1 rfl rfl (Nat.le_of_ble_eq_true rfl) ⟨Nat.zero_le _, Nat.zero_le _⟩ dX11_segment_97 (fun r_45 hf => ?_)
        exact z_retMi (Wf := (fun z => cl_X11 cI cJ a z)) (u := ((1 : Int32), u.2)) X hf hP hD hS dX11_segment_100
      have hf := hf.2 c_44
      by_cases c_46 : x2 = (3 : Int32)
      · have hf := hf.1 c_46
        refine lv_tableIn (off := 61) (tgt := 101) hx hb dX11_segment_40 (by rw [c_46]; decide) (by rw [c_46]; decide) (by rw [c_46]; decide) (by decide) ?_
        refine lv_aload_n hx hb dX11_segment_101 rfl (lv_at hl 0 rfl) ?_
        refine lv_iload_n hx hb dX11_segment_102 rfl (lv_at hl 1 rfl) ?_
        refine lv_iconst (v := 1) hx hb dX11_segment_103 (by decide) ?_
        refine z_cVi (As := [.int x1, .int (1 : Int32)]) (rest := []) X (c_X11_liveOf l dC dI cI cJ cS a ((1 : Int32), u.2) x1 (1 : Int32) _ hf) zc_X11_liveOf q_ml_X11_130 ⟨rfl, rfl⟩ ⟨Nat.le_of_ble_eq_true rfl, Nat.le_of_ble_eq_true rfl⟩ hP [0, 1, 2, 3, 4, 5, 6, 7, 8] rfl 10 rfl rfl hl.1 rfl rfl (Nat.le_of_ble_eq_true rfl) ⟨Nat.zero_le _, Nat.zero_le _⟩ dX11_segment_104 (fun r_47 hf => ?_)
        exact z_retMi (Wf := (fun z => cl_X11 cI cJ a z)) (u := ((1 : Int32), u.2)) X hf hP hD hS dX11_segment_107
      have hf := hf.2 c_46
      by_cases c_48 : x2 = (4 : Int32)
      · have hf := hf.1 c_48
        refine lv_tableIn (off := 68) (tgt := 108) hx hb dX11_segment_40 (by rw [c_48]; decide) (by rw [c_48]; decide) (by rw [c_48]; decide) (by decide) ?_
        refine lv_aload_n hx hb dX11_segment_108 rfl (lv_at hl 0 rfl) ?_
        refine lv_iload_n hx hb dX11_segment_109 rfl (lv_at hl 1 rfl) ?_
        refine lv_iconst (v := 0) hx hb dX11_segment_110 (by decide) ?_
        refine z_cVi (As := [.int x1, .int (0 : Int32)]) (rest := []) X (c_X11_liveOf l dC dI cI cJ cS a ((1 : Int32), u.2) x1 (0 : Int32) _ hf) zc_X11_liveOf q_ml_X11_130 ⟨rfl, rfl⟩ ⟨Nat.le_of_ble_eq_true rfl, Nat.le_of_ble_eq_true rfl⟩ hP [0, 1, 2, 3, 4, 5, 6, 7, 8] rfl 10 rfl rfl hl.1 rfl rfl (Nat.le_of_ble_eq_true rfl) ⟨Nat.zero_le _, Nat.zero_le _⟩ dX11_segment_111 (fun r_49 hf => ?_)
        exact z_retMi (Wf := (fun z => cl_X11 cI cJ a z)) (u := ((1 : Int32), u.2)) X hf hP hD hS dX11_segment_114
      have hf := hf.2 c_48
      by_cases c_50 : x2 = (5 : Int32)
      · have hf := hf.1 c_50
        refine lv_tableIn (off := 75) (tgt := 115) hx hb dX11_segment_40 (by rw [c_50]; decide) (by rw [c_50]; decide) (by rw [c_50]; decide) (by decide) ?_
        refine lv_aload_n hx hb dX11_segment_115 rfl (lv_at hl 0 rfl) ?_
        refine lv_iload_n hx hb dX11_segment_116 rfl (lv_at hl 1 rfl) ?_
        refine z_cVi (As := [.int x1]) (rest := []) X (c_X11_lastIn l dC dI cI cJ cS a ((1 : Int32), u.2) x1 _ hf) zc_X11_lastIn q_ml_X11_290 ⟨rfl, rfl⟩ ⟨Nat.le_of_ble_eq_true rfl, Nat.le_of_ble_eq_true rfl⟩ hP [0, 1, 2, 3, 4, 5, 6, 7, 8] rfl 10 rfl rfl hl.1 rfl rfl (Nat.le_of_ble_eq_true rfl) ⟨Nat.zero_le _, Nat.zero_le _⟩ dX11_segment_117 (fun r_51 hf => ?_)
        exact z_retMi (Wf := (fun z => cl_X11 cI cJ a z)) (u := ((1 : Int32), u.2)) X hf hP hD hS dX11_segment_120
      have hf := hf.2 c_50
      refine lv_tableOut (tgt := 121) hx hb dX11_segment_40 (by have q0 : ¬ x2.toInt = (0 : Int) := fun h => c_40 (Int32.toInt_inj.mp (show x2.toInt = (0 : Int32).toInt from h)); have q1 : ¬ x2.toInt = (1 : Int) := fun h => c_42 (Int32.toInt_inj.mp (show x2.toInt = (1 : Int32).toInt from h)); have q2 : ¬ x2.toInt = (2 : Int) := fun h => c_44 (Int32.toInt_inj.mp (show x2.toInt = (2 : Int32).toInt from h)); have q3 : ¬ x2.toInt = (3 : Int) := fun h => c_46 (Int32.toInt_inj.mp (show x2.toInt = (3 : Int32).toInt from h)); have q4 : ¬ x2.toInt = (4 : Int) := fun h => c_48 (Int32.toInt_inj.mp (show x2.toInt = (4 : Int32).toInt from h)); have q5 : ¬ x2.toInt = (5 : Int) := fun h => c_50 (Int32.toInt_inj.mp (show x2.toInt = (5 : Int32).toInt from h)); omega) (by decide) ?_
      refine lv_aload_n hx hb dX11_segment_121 rfl (lv_at hl 0 rfl) ?_
      refine lv_iload_n hx hb dX11_segment_122 rfl (lv_at hl 1 rfl) ?_
      refine lv_iconst (v := 0) hx hb dX11_segment_123 (by decide) ?_
      refine z_cVi (As := [.int x1, .int (0 : Int32)]) (rest := []) X (c_X11_segmentAt l dC dI cI cJ cS a ((1 : Int32), u.2) x1 (0 : Int32) _ hf) zc_X11_segmentAt q_ml_X11_53 ⟨rfl, rfl⟩ ⟨Nat.le_of_ble_eq_true rfl, Nat.le_of_ble_eq_true rfl⟩ hP [0, 1, 2, 3, 4, 5, 6, 7, 8] rfl 10 rfl rfl hl.1 rfl rfl (Nat.le_of_ble_eq_true rfl) ⟨Nat.zero_le _, Nat.zero_le _⟩ dX11_segment_124 (fun r_52 hf => ?_)
      refine lv_iconst (v := 2) hx hb dX11_segment_127 (by decide) ?_
      refine lv_icmp_ne (tgt := 147) hx hb dX11_segment_128 (by decide) (fun c_53 => ?_) (fun c_53 => ?_)
      · have hf := hf.1 c_53
        refine lv_iconst (v := 0) hx hb dX11_segment_147 (by decide) ?_
        exact z_retMi (Wf := (fun z => cl_X11 cI cJ a z)) (u := ((1 : Int32), u.2)) X hf hP hD hS dX11_segment_148
      · have hf := hf.2 c_53
        refine lv_aload_n hx hb dX11_segment_131 rfl (lv_at hl 0 rfl) ?_
        refine lv_iload_n hx hb dX11_segment_132 rfl (lv_at hl 1 rfl) ?_
        refine lv_iconst (v := 0) hx hb dX11_segment_133 (by decide) ?_
        refine z_cVi (As := [.int x1, .int (0 : Int32)]) (rest := []) X (c_X11_liveOf l dC dI cI cJ cS a ((1 : Int32), u.2) x1 (0 : Int32) _ hf) zc_X11_liveOf q_ml_X11_130 ⟨rfl, rfl⟩ ⟨Nat.le_of_ble_eq_true rfl, Nat.le_of_ble_eq_true rfl⟩ hP [0, 1, 2, 3, 4, 5, 6, 7, 8] rfl 10 rfl rfl hl.1 rfl rfl (Nat.le_of_ble_eq_true rfl) ⟨Nat.zero_le _, Nat.zero_le _⟩ dX11_segment_134 (fun r_54 hf => ?_)
        refine lv_aload_n hx hb dX11_segment_137 rfl (lv_at hl 0 rfl) ?_
        refine lv_iload_n hx hb dX11_segment_138 rfl (lv_at hl 1 rfl) ?_
        refine lv_iconst (v := 1) hx hb dX11_segment_139 (by decide) ?_
        refine z_cVi (As := [.int x1, .int (1 : Int32)]) (rest := [.int r_54]) X (c_X11_liveOf l dC dI cI cJ cS a ((1 : Int32), u.2) x1 (1 : Int32) _ hf) zc_X11_liveOf q_ml_X11_130 ⟨rfl, rfl⟩ ⟨Nat.le_of_ble_eq_true rfl, Nat.le_of_ble_eq_true rfl⟩ hP [0, 1, 2, 3, 4, 5, 6, 7, 8] rfl 10 rfl rfl hl.1 rfl rfl (Nat.le_of_ble_eq_true rfl) ⟨Nat.zero_le _, Nat.zero_le _⟩ dX11_segment_140 (fun r_55 hf => ?_)
        refine lv_isub hx hb dX11_segment_143 ?_
        refine lv_goto (tgt := 148) hx hb dX11_segment_144 (by decide) ?_
        exact z_retMi (Wf := (fun z => cl_X11 cI cJ a z)) (u := ((1 : Int32), u.2)) X hf hP hD hS dX11_segment_148
    · have hf := hf.2 c_39
      refine lv_iconst (v := 0) hx hb dX11_segment_37 (by decide) ?_
      exact z_retMi (Wf := (fun z => cl_X11 cI cJ a z)) (u := ((1 : Int32), u.2)) X hf hP hD hS dX11_segment_38
def s_X11_segment (u : zModel) (x1 x2 : Int32) (Q : Int32 → zModel → Prop) : Prop := mAsk u (fun v => fSegment v x1 x2) Q
theorem st_X11_segment {u : zModel} {x1 x2 : Int32} {Q : Int32 → zModel → Prop} (h : s_X11_segment u x1 x2 Q) : t_X11_segment u x1 x2 Q := by
  obtain ⟨B, G, hG, hm, hQ⟩ := h
  dsimp only at hQ
  unfold fSegment at hQ
  have hmk : mOk (gNow G) u.2.1 := hG.1.mok hm.now
  refine isIn_of (fun c1 => ⟨fun _ => isIn_of (fun c2 => ⟨fun _ => ⟨fun _ => ?_, fun q => absurd (by decide) q⟩, fun q => absurd q (by decide)⟩) (fun c2 => ⟨fun q => absurd rfl q, fun _ => ⟨fun q => absurd q (by decide), fun _ => ?_⟩⟩), fun q => absurd q (by decide)⟩) (fun c1 => ⟨fun q => absurd rfl q, fun _ => ⟨fun q => absurd q (by decide), fun _ => ?_⟩⟩)
  · rw [if_pos c1, if_pos c2] at hQ
    obtain ⟨s, hs, rfl, es⟩ := seg_n c1
    rw [es] at hQ
    have hQ := hQ _ (hm.th 0) rfl
    dsimp only at hQ
    unfold aSeg at hQ
    have m0 := hm.now.2.1 s 0 hs (by decide)
    have m1 := hm.now.2.1 s 1 hs (by decide)
    have m2 := hm.now.2.1 s 2 hs (by decide)
    refine ⟨fun d => ⟨s, 0, hs, by decide, rfl, rfl, ?_⟩, fun d => ?_⟩
    · rw [if_pos d] at hQ; rw [m0]; exact hQ
    rw [if_neg d] at hQ
    refine ⟨fun d => ⟨s, 1, hs, by decide, rfl, rfl, ?_⟩, fun d => ?_⟩
    · rw [if_pos d] at hQ; rw [m1]; exact hQ
    rw [if_neg d] at hQ
    refine ⟨fun d => ⟨s, 2, hs, by decide, rfl, rfl, ?_⟩, fun d => ?_⟩
    · rw [if_pos d] at hQ; rw [m2]; exact hQ
    rw [if_neg d] at hQ
    refine ⟨fun d => ⟨gNow G, s, hmk, hs, rfl, Or.inl ⟨rfl, ?_⟩⟩, fun d => ?_⟩
    · rw [if_pos d] at hQ; exact hQ
    rw [if_neg d] at hQ
    refine ⟨fun d => ⟨gNow G, s, hmk, hs, rfl, Or.inr ⟨rfl, ?_⟩⟩, fun d => ?_⟩
    · rw [if_pos d] at hQ; exact hQ
    rw [if_neg d] at hQ
    refine ⟨fun d => ⟨gNow G, s, hmk, hs, rfl, ?_⟩, fun d => ⟨s, 0, hs, by decide, rfl, rfl, ?_⟩⟩
    · rw [if_pos d] at hQ; exact hQ
    rw [if_neg d] at hQ
    rw [m0]
    refine ⟨fun d => ?_, fun d => ⟨gNow G, s, hmk, hs, rfl, Or.inr ⟨rfl, gNow G, s, hmk, hs, rfl, Or.inl ⟨rfl, ?_⟩⟩⟩⟩
    · rw [if_neg (show ¬ (gNow G).2.2.1.2.2.2.1 s = 2 from d)] at hQ; exact hQ
    · rw [if_pos (show (gNow G).2.2.1.2.2.2.1 s = 2 from d)] at hQ; exact hQ
  · rw [if_pos c1, if_neg c2] at hQ
    exact hQ _ (hm.th 2) rfl
  · rw [if_neg c1] at hQ
    exact hQ _ (hm.th 1) rfl
theorem c_X11_segment (l : Launch) (dC : Nat → ClassId) (dI : Nat → Nat → Nat) (cI cJ cS : ClassId) (a : Nat → Nat) (u : zModel) (x1 : Int32) (x2 : Int32) (Q : Int32 → zModel → Prop) (hf : s_X11_segment u x1 x2 Q) : ∀ sz : Nat, Met l yX11_segment (Cond.code yX11_segment cX11_segment 3 (some .int) :: zT) rm_X11_segment (zPm dC dI cI cJ cS (cl_X11 cI cJ a u) [.ref (a 0), .int x1, .int x2] sz) (va_Qi Q (zB dC dI cI cJ cS (va_A (cl_X11 cI cJ a u) sz) (fun z => cl_X11 cI cJ a z)) (va_A (cl_X11 cI cJ a u) sz)) 0 0 (va_A (cl_X11 cI cJ a u) sz) := L_X11_segment l dC dI cI cJ cS a u x1 x2 Q (st_X11_segment hf)

def t_X11_record (u : zModel) (x1 : Int32) (x2 : Int32) (x3 : Int32) (Q : Int32 → zModel → Prop) : Prop := s_X11_isSegment x1 (fun r_1 : Int32 => ((¬ r_1 = 0 → s_X11_isIn x3 (0 : Int32) (4 : Int32) (fun r_3 : Int32 => ((¬ r_3 = 0 → (((0 : Int32) ≤ 0 → s_X11_segmentAt ((0 : Int32), u.2) x1 (1 : Int32) (fun r_6 : Int32 => s_X11_isIn x2 (0 : Int32) (r_6 - (1 : Int32)) (fun r_7 : Int32 => ((¬ r_7 = 0 → ((x3 = (0 : Int32) → s_X11_noted ((0 : Int32), u.2) x1 x2 (0 : Int32) (fun r_10 : Int32 => Q r_10 ((0 : Int32), u.2))) ∧ (¬ x3 = (0 : Int32) → ((x3 = (1 : Int32) → s_X11_noted ((0 : Int32), u.2) x1 x2 (1 : Int32) (fun r_12 : Int32 => Q r_12 ((0 : Int32), u.2))) ∧ (¬ x3 = (1 : Int32) → ((x3 = (2 : Int32) → s_X11_noted ((0 : Int32), u.2) x1 x2 (3 : Int32) (fun r_14 : Int32 => Q r_14 ((0 : Int32), u.2))) ∧ (¬ x3 = (2 : Int32) → ((x3 = (3 : Int32) → s_X11_noted ((0 : Int32), u.2) x1 x2 (4 : Int32) (fun r_16 : Int32 => Q r_16 ((0 : Int32), u.2))) ∧ (¬ x3 = (3 : Int32) → s_X11_isLive ((0 : Int32), u.2) x1 x2 (fun r_17 : Int32 => ((r_17 = 0 → Q (0 : Int32) ((0 : Int32), u.2)) ∧ (¬ r_17 = 0 → Q (1 : Int32) ((0 : Int32), u.2))))))))))))) ∧ (r_7 = 0 → Q (-1 : Int32) ((0 : Int32), u.2)))))) ∧ (¬ (0 : Int32) ≤ 0 → Q (0 : Int32) ((0 : Int32), u.2)))) ∧ (r_3 = 0 → (((2 : Int32) ≤ 0 → s_X11_segmentAt ((2 : Int32), u.2) x1 (1 : Int32) (fun r_20 : Int32 => s_X11_isIn x2 (0 : Int32) (r_20 - (1 : Int32)) (fun r_21 : Int32 => ((¬ r_21 = 0 → ((x3 = (0 : Int32) → s_X11_noted ((2 : Int32), u.2) x1 x2 (0 : Int32) (fun r_24 : Int32 => Q r_24 ((2 : Int32), u.2))) ∧ (¬ x3 = (0 : Int32) → ((x3 = (1 : Int32) → s_X11_noted ((2 : Int32), u.2) x1 x2 (1 : Int32) (fun r_26 : Int32 => Q r_26 ((2 : Int32), u.2))) ∧ (¬ x3 = (1 : Int32) → ((x3 = (2 : Int32) → s_X11_noted ((2 : Int32), u.2) x1 x2 (3 : Int32) (fun r_28 : Int32 => Q r_28 ((2 : Int32), u.2))) ∧ (¬ x3 = (2 : Int32) → ((x3 = (3 : Int32) → s_X11_noted ((2 : Int32), u.2) x1 x2 (4 : Int32) (fun r_30 : Int32 => Q r_30 ((2 : Int32), u.2))) ∧ (¬ x3 = (3 : Int32) → s_X11_isLive ((2 : Int32), u.2) x1 x2 (fun r_31 : Int32 => ((r_31 = 0 → Q (0 : Int32) ((2 : Int32), u.2)) ∧ (¬ r_31 = 0 → Q (1 : Int32) ((2 : Int32), u.2))))))))))))) ∧ (r_21 = 0 → Q (-1 : Int32) ((2 : Int32), u.2)))))) ∧ (¬ (2 : Int32) ≤ 0 → Q (0 : Int32) ((2 : Int32), u.2))))))) ∧ (r_1 = 0 → (((1 : Int32) ≤ 0 → s_X11_segmentAt ((1 : Int32), u.2) x1 (1 : Int32) (fun r_34 : Int32 => s_X11_isIn x2 (0 : Int32) (r_34 - (1 : Int32)) (fun r_35 : Int32 => ((¬ r_35 = 0 → ((x3 = (0 : Int32) → s_X11_noted ((1 : Int32), u.2) x1 x2 (0 : Int32) (fun r_38 : Int32 => Q r_38 ((1 : Int32), u.2))) ∧ (¬ x3 = (0 : Int32) → ((x3 = (1 : Int32) → s_X11_noted ((1 : Int32), u.2) x1 x2 (1 : Int32) (fun r_40 : Int32 => Q r_40 ((1 : Int32), u.2))) ∧ (¬ x3 = (1 : Int32) → ((x3 = (2 : Int32) → s_X11_noted ((1 : Int32), u.2) x1 x2 (3 : Int32) (fun r_42 : Int32 => Q r_42 ((1 : Int32), u.2))) ∧ (¬ x3 = (2 : Int32) → ((x3 = (3 : Int32) → s_X11_noted ((1 : Int32), u.2) x1 x2 (4 : Int32) (fun r_44 : Int32 => Q r_44 ((1 : Int32), u.2))) ∧ (¬ x3 = (3 : Int32) → s_X11_isLive ((1 : Int32), u.2) x1 x2 (fun r_45 : Int32 => ((r_45 = 0 → Q (0 : Int32) ((1 : Int32), u.2)) ∧ (¬ r_45 = 0 → Q (1 : Int32) ((1 : Int32), u.2))))))))))))) ∧ (r_35 = 0 → Q (-1 : Int32) ((1 : Int32), u.2)))))) ∧ (¬ (1 : Int32) ≤ 0 → Q (0 : Int32) ((1 : Int32), u.2))))))
theorem zc_X11_record : zCalV RX11 yX11_record cX11_record 4 (some .int) 3 := ⟨q_im_X11_record, q_se_X11_record, q_in_X11, q_cd_X11_record, ⟨by decide, by decide, by decide +kernel⟩, rfl⟩
abbrev rm_X11_record : Room := { frames := 5, cells := 0, slots := 0, locals := 111 }
set_option maxHeartbeats 4000000 in
set_option maxRecDepth 100000 in
theorem L_X11_record (l : Launch) (dC : Nat → ClassId) (dI : Nat → Nat → Nat) (cI cJ cS : ClassId) (a : Nat → Nat) (u : zModel) (x1 : Int32) (x2 : Int32) (x3 : Int32) (Q : Int32 → zModel → Prop) (hf : t_X11_record u x1 x2 x3 Q) : ∀ sz : Nat, Met l yX11_record (Cond.code yX11_record cX11_record 4 (some .int) :: zT) rm_X11_record (zPm dC dI cI cJ cS (cl_X11 cI cJ a u) [.ref (a 0), .int x1, .int x2, .int x3] sz) (va_Qi Q (zB dC dI cI cJ cS (va_A (cl_X11 cI cJ a u) sz) (fun z => cl_X11 cI cJ a z)) (va_A (cl_X11 cI cJ a u) sz)) 0 0 (va_A (cl_X11 cI cJ a u) sz) := by
  intro sz
  refine z_enterM (Qc := fun A => va_Qi Q (zB dC dI cI cJ cS A (fun z => cl_X11 cI cJ a z)) A) (cc := cX11_record) (maxL := 4) (ret := (some .int)) (by decide) (Nat.le_of_ble_eq_true rfl) ?_
  intro p e s m below meth c ls A X hP hD hS hA hl
  obtain ⟨⟨hx, hb, hml, hown, hts⟩, hr, hlk, hK⟩ := id X
  have hl : lv_has ls 4 [(0, .ref (a 0)), (1, .int x1), (2, .int x2), (3, .int x3)] := hl
  unfold t_X11_record at hf
  refine lv_aload_n hx hb dX11_record_0 rfl (lv_at hl 0 rfl) ?_
  refine lv_iload_n hx hb dX11_record_1 rfl (lv_at hl 1 rfl) ?_
  refine z_cSi (As := [.int x1]) (rest := [.ref (a 0)]) X (c_X11_isSegment l dC dI cI cJ cS   x1 _ hf) zc_X11_isSegment q_ml_X11_263 ⟨rfl, rfl⟩ ⟨Nat.le_of_ble_eq_true rfl, Nat.le_of_ble_eq_true rfl⟩ hP [] rfl hl.1 rfl rfl (Nat.le_of_ble_eq_true rfl) ⟨Nat.zero_le _, Nat.zero_le _⟩ dX11_record_2 (fun r_1 hf => ?_)
  obtain ⟨hbr_1, hf⟩ := hf
  refine lv_if_ne (tgt := 12) hx hb dX11_record_5 (by decide) (fun c_2 => ?_) (fun c_2 => ?_)
  · have hf := hf.1 c_2
    refine lv_iload_n hx hb dX11_record_12 rfl (lv_at hl 3 rfl) ?_
    refine lv_iconst (v := 0) hx hb dX11_record_13 (by decide) ?_
    refine lv_iconst (v := 4) hx hb dX11_record_14 (by decide) ?_
    refine z_cSi (As := [.int x3, .int (0 : Int32), .int (4 : Int32)]) (rest := [.ref (a 0)]) X (c_X11_isIn l dC dI cI cJ cS   x3 (0 : Int32) (4 : Int32) _ hf) zc_X11_isIn q_ml_X11_165 ⟨rfl, rfl⟩ ⟨Nat.le_of_ble_eq_true rfl, Nat.le_of_ble_eq_true rfl⟩ hP [] rfl hl.1 rfl rfl (Nat.le_of_ble_eq_true rfl) ⟨Nat.zero_le _, Nat.zero_le _⟩ dX11_record_15 (fun r_3 hf => ?_)
    obtain ⟨hbr_3, hf⟩ := hf
    refine lv_if_ne (tgt := 25) hx hb dX11_record_18 (by decide) (fun c_4 => ?_) (fun c_4 => ?_)
    · have hf := hf.1 c_4
      refine lv_iconst (v := 0) hx hb dX11_record_25 (by decide) ?_
      refine z_put (w' := cl_X11 cI cJ a ((0 : Int32), u.2)) (ci := 10) (v := .int (0 : Int32)) (ty := .int) (Cn := RX11) (T := TX11) (N := 17) X inX11 tyX11 tyX11_ok nmX11 hP hD hS 0 rfl rfl 0 (by decide) (hts _ q_fl_X11_43) (fun _ h9 => h9) rfl (tyX11_ok 0 (by decide)) rfl rfl (Nat.le_of_ble_eq_true rfl) rfl dX11_record_26 (fun H locs hP hD hS => ?_)
      refine lv_aload_n hx hb dX11_record_29 rfl (lv_at hl 0 rfl) ?_
      refine va_get (D := (dC, dI)) (ci := 10) (v := .int (0 : Int32)) (C := RX11) (T := TX11) (N := 17) hx hb hts inX11 hown hK hP 0 rfl rfl 0 (by decide) (hts _ q_fl_X11_43) (fun _ h9 => h9) rfl dX11_record_30 ?_
      refine lv_if_le (tgt := 38) hx hb dX11_record_33 (by decide) (fun c_5 => ?_) (fun c_5 => ?_)
      · have hf := hf.1 c_5
        refine lv_iload_n hx hb dX11_record_38 rfl (lv_at hl 2 rfl) ?_
        refine lv_iconst (v := 0) hx hb dX11_record_39 (by decide) ?_
        refine lv_aload_n hx hb dX11_record_40 rfl (lv_at hl 0 rfl) ?_
        refine lv_iload_n hx hb dX11_record_41 rfl (lv_at hl 1 rfl) ?_
        refine lv_iconst (v := 1) hx hb dX11_record_42 (by decide) ?_
        refine z_cVi (As := [.int x1, .int (1 : Int32)]) (rest := [.int (0 : Int32), .int x2]) X (c_X11_segmentAt l dC dI cI cJ cS a ((0 : Int32), u.2) x1 (1 : Int32) _ hf) zc_X11_segmentAt q_ml_X11_53 ⟨rfl, rfl⟩ ⟨Nat.le_of_ble_eq_true rfl, Nat.le_of_ble_eq_true rfl⟩ hP [0, 1, 2, 3, 4, 5, 6, 7, 8] rfl 10 rfl rfl hl.1 rfl rfl (Nat.le_of_ble_eq_true rfl) ⟨Nat.zero_le _, Nat.zero_le _⟩ dX11_record_43 (fun r_6 hf => ?_)
        refine lv_iconst (v := 1) hx hb dX11_record_46 (by decide) ?_
        refine lv_isub hx hb dX11_record_47 ?_
        refine z_cSi (As := [.int x2, .int (0 : Int32), .int (r_6 - (1 : Int32))]) (rest := []) X (c_X11_isIn l dC dI cI cJ cS   x2 (0 : Int32) (r_6 - (1 : Int32)) _ hf) zc_X11_isIn q_ml_X11_165 ⟨rfl, rfl⟩ ⟨Nat.le_of_ble_eq_true rfl, Nat.le_of_ble_eq_true rfl⟩ hP [] rfl hl.1 rfl rfl (Nat.le_of_ble_eq_true rfl) ⟨Nat.zero_le _, Nat.zero_le _⟩ dX11_record_48 (fun r_7 hf => ?_)
        obtain ⟨hbr_7, hf⟩ := hf
        refine lv_if_ne (tgt := 56) hx hb dX11_record_51 (by decide) (fun c_8 => ?_) (fun c_8 => ?_)
        · have hf := hf.1 c_8
          refine lv_iload_n hx hb dX11_record_56 rfl (lv_at hl 3 rfl) ?_
          by_cases c_9 : x3 = (0 : Int32)
          · have hf := hf.1 c_9
            refine lv_tableIn (off := 31) (tgt := 88) hx hb dX11_record_57 (by rw [c_9]; decide) (by rw [c_9]; decide) (by rw [c_9]; decide) (by decide) ?_
            refine lv_aload_n hx hb dX11_record_88 rfl (lv_at hl 0 rfl) ?_
            refine lv_iload_n hx hb dX11_record_89 rfl (lv_at hl 1 rfl) ?_
            refine lv_iload_n hx hb dX11_record_90 rfl (lv_at hl 2 rfl) ?_
            refine lv_iconst (v := 0) hx hb dX11_record_91 (by decide) ?_
            refine z_cVi (As := [.int x1, .int x2, .int (0 : Int32)]) (rest := []) X (c_X11_noted l dC dI cI cJ cS a ((0 : Int32), u.2) x1 x2 (0 : Int32) _ hf) zc_X11_noted q_ml_X11_77 ⟨rfl, rfl⟩ ⟨Nat.le_of_ble_eq_true rfl, Nat.le_of_ble_eq_true rfl⟩ hP [0, 1, 2, 3, 4, 5, 6, 7, 8] rfl 10 rfl rfl hl.1 rfl rfl (Nat.le_of_ble_eq_true rfl) ⟨Nat.zero_le _, Nat.zero_le _⟩ dX11_record_92 (fun r_10 hf => ?_)
            exact z_retMi (Wf := (fun z => cl_X11 cI cJ a z)) (u := ((0 : Int32), u.2)) X hf hP hD hS dX11_record_95
          have hf := hf.2 c_9
          by_cases c_11 : x3 = (1 : Int32)
          · have hf := hf.1 c_11
            refine lv_tableIn (off := 39) (tgt := 96) hx hb dX11_record_57 (by rw [c_11]; decide) (by rw [c_11]; decide) (by rw [c_11]; decide) (by decide) ?_
            refine lv_aload_n hx hb dX11_record_96 rfl (lv_at hl 0 rfl) ?_
            refine lv_iload_n hx hb dX11_record_97 rfl (lv_at hl 1 rfl) ?_
            refine lv_iload_n hx hb dX11_record_98 rfl (lv_at hl 2 rfl) ?_
            refine lv_iconst (v := 1) hx hb dX11_record_99 (by decide) ?_
            refine z_cVi (As := [.int x1, .int x2, .int (1 : Int32)]) (rest := []) X (c_X11_noted l dC dI cI cJ cS a ((0 : Int32), u.2) x1 x2 (1 : Int32) _ hf) zc_X11_noted q_ml_X11_77 ⟨rfl, rfl⟩ ⟨Nat.le_of_ble_eq_true rfl, Nat.le_of_ble_eq_true rfl⟩ hP [0, 1, 2, 3, 4, 5, 6, 7, 8] rfl 10 rfl rfl hl.1 rfl rfl (Nat.le_of_ble_eq_true rfl) ⟨Nat.zero_le _, Nat.zero_le _⟩ dX11_record_100 (fun r_12 hf => ?_)
            exact z_retMi (Wf := (fun z => cl_X11 cI cJ a z)) (u := ((0 : Int32), u.2)) X hf hP hD hS dX11_record_103
          have hf := hf.2 c_11
          by_cases c_13 : x3 = (2 : Int32)
          · have hf := hf.1 c_13
            refine lv_tableIn (off := 47) (tgt := 104) hx hb dX11_record_57 (by rw [c_13]; decide) (by rw [c_13]; decide) (by rw [c_13]; decide) (by decide) ?_
            refine lv_aload_n hx hb dX11_record_104 rfl (lv_at hl 0 rfl) ?_
            refine lv_iload_n hx hb dX11_record_105 rfl (lv_at hl 1 rfl) ?_
            refine lv_iload_n hx hb dX11_record_106 rfl (lv_at hl 2 rfl) ?_
            refine lv_iconst (v := 3) hx hb dX11_record_107 (by decide) ?_
            refine z_cVi (As := [.int x1, .int x2, .int (3 : Int32)]) (rest := []) X (c_X11_noted l dC dI cI cJ cS a ((0 : Int32), u.2) x1 x2 (3 : Int32) _ hf) zc_X11_noted q_ml_X11_77 ⟨rfl, rfl⟩ ⟨Nat.le_of_ble_eq_true rfl, Nat.le_of_ble_eq_true rfl⟩ hP [0, 1, 2, 3, 4, 5, 6, 7, 8] rfl 10 rfl rfl hl.1 rfl rfl (Nat.le_of_ble_eq_true rfl) ⟨Nat.zero_le _, Nat.zero_le _⟩ dX11_record_108 (fun r_14 hf => ?_)
            exact z_retMi (Wf := (fun z => cl_X11 cI cJ a z)) (u := ((0 : Int32), u.2)) X hf hP hD hS dX11_record_111
          have hf := hf.2 c_13
          by_cases c_15 : x3 = (3 : Int32)
          · have hf := hf.1 c_15
            refine lv_tableIn (off := 55) (tgt := 112) hx hb dX11_record_57 (by rw [c_15]; decide) (by rw [c_15]; decide) (by rw [c_15]; decide) (by decide) ?_
            refine lv_aload_n hx hb dX11_record_112 rfl (lv_at hl 0 rfl) ?_
            refine lv_iload_n hx hb dX11_record_113 rfl (lv_at hl 1 rfl) ?_
            refine lv_iload_n hx hb dX11_record_114 rfl (lv_at hl 2 rfl) ?_
            refine lv_iconst (v := 4) hx hb dX11_record_115 (by decide) ?_
            refine z_cVi (As := [.int x1, .int x2, .int (4 : Int32)]) (rest := []) X (c_X11_noted l dC dI cI cJ cS a ((0 : Int32), u.2) x1 x2 (4 : Int32) _ hf) zc_X11_noted q_ml_X11_77 ⟨rfl, rfl⟩ ⟨Nat.le_of_ble_eq_true rfl, Nat.le_of_ble_eq_true rfl⟩ hP [0, 1, 2, 3, 4, 5, 6, 7, 8] rfl 10 rfl rfl hl.1 rfl rfl (Nat.le_of_ble_eq_true rfl) ⟨Nat.zero_le _, Nat.zero_le _⟩ dX11_record_116 (fun r_16 hf => ?_)
            exact z_retMi (Wf := (fun z => cl_X11 cI cJ a z)) (u := ((0 : Int32), u.2)) X hf hP hD hS dX11_record_119
          have hf := hf.2 c_15
          refine lv_tableOut (tgt := 120) hx hb dX11_record_57 (by have q0 : ¬ x3.toInt = (0 : Int) := fun h => c_9 (Int32.toInt_inj.mp (show x3.toInt = (0 : Int32).toInt from h)); have q1 : ¬ x3.toInt = (1 : Int) := fun h => c_11 (Int32.toInt_inj.mp (show x3.toInt = (1 : Int32).toInt from h)); have q2 : ¬ x3.toInt = (2 : Int) := fun h => c_13 (Int32.toInt_inj.mp (show x3.toInt = (2 : Int32).toInt from h)); have q3 : ¬ x3.toInt = (3 : Int) := fun h => c_15 (Int32.toInt_inj.mp (show x3.toInt = (3 : Int32).toInt from h)); omega) (by decide) ?_
          refine lv_aload_n hx hb dX11_record_120 rfl (lv_at hl 0 rfl) ?_
          refine lv_iload_n hx hb dX11_record_121 rfl (lv_at hl 1 rfl) ?_
          refine lv_iload_n hx hb dX11_record_122 rfl (lv_at hl 2 rfl) ?_
          refine z_cVi (As := [.int x1, .int x2]) (rest := []) X (c_X11_isLive l dC dI cI cJ cS a ((0 : Int32), u.2) x1 x2 _ hf) zc_X11_isLive q_ml_X11_88 ⟨rfl, rfl⟩ ⟨Nat.le_of_ble_eq_true rfl, Nat.le_of_ble_eq_true rfl⟩ hP [0, 1, 2, 3, 4, 5, 6, 7, 8] rfl 10 rfl rfl hl.1 rfl rfl (Nat.le_of_ble_eq_true rfl) ⟨Nat.zero_le _, Nat.zero_le _⟩ dX11_record_123 (fun r_17 hf => ?_)
          obtain ⟨hbr_17, hf⟩ := hf
          refine lv_if_eq (tgt := 133) hx hb dX11_record_126 (by decide) (fun c_18 => ?_) (fun c_18 => ?_)
          · have hf := hf.1 c_18
            refine lv_iconst (v := 0) hx hb dX11_record_133 (by decide) ?_
            exact z_retMi (Wf := (fun z => cl_X11 cI cJ a z)) (u := ((0 : Int32), u.2)) X hf hP hD hS dX11_record_134
          · have hf := hf.2 c_18
            refine lv_iconst (v := 1) hx hb dX11_record_129 (by decide) ?_
            refine lv_goto (tgt := 134) hx hb dX11_record_130 (by decide) ?_
            exact z_retMi (Wf := (fun z => cl_X11 cI cJ a z)) (u := ((0 : Int32), u.2)) X hf hP hD hS dX11_record_134
        · have hf := hf.2 c_8
          refine lv_iconst (v := (-1)) hx hb dX11_record_54 (by decide) ?_
          exact z_retMi (Wf := (fun z => cl_X11 cI cJ a z)) (u := ((0 : Int32), u.2)) X hf hP hD hS dX11_record_55
      · have hf := hf.2 c_5
        refine lv_iconst (v := 0) hx hb dX11_record_36 (by decide) ?_
        exact z_retMi (Wf := (fun z => cl_X11 cI cJ a z)) (u := ((0 : Int32), u.2)) X hf hP hD hS dX11_record_37
    · have hf := hf.2 c_4
      refine lv_iconst (v := 2) hx hb dX11_record_21 (by decide) ?_
      refine lv_goto (tgt := 26) hx hb dX11_record_22 (by decide) ?_
      refine z_put (w' := cl_X11 cI cJ a ((2 : Int32), u.2)) (ci := 10) (v := .int (2 : Int32)) (ty := .int) (Cn := RX11) (T := TX11) (N := 17) X inX11 tyX11 tyX11_ok nmX11 hP hD hS 0 rfl rfl 0 (by decide) (hts _ q_fl_X11_43) (fun _ h9 => h9) rfl (tyX11_ok 0 (by decide)) rfl rfl (Nat.le_of_ble_eq_true rfl) rfl dX11_record_26 (fun H locs hP hD hS => ?_)
      refine lv_aload_n hx hb dX11_record_29 rfl (lv_at hl 0 rfl) ?_
      refine va_get (D := (dC, dI)) (ci := 10) (v := .int (2 : Int32)) (C := RX11) (T := TX11) (N := 17) hx hb hts inX11 hown hK hP 0 rfl rfl 0 (by decide) (hts _ q_fl_X11_43) (fun _ h9 => h9) rfl dX11_record_30 ?_
      refine lv_if_le (tgt := 38) hx hb dX11_record_33 (by decide) (fun c_19 => ?_) (fun c_19 => ?_)
      · have hf := hf.1 c_19
        refine lv_iload_n hx hb dX11_record_38 rfl (lv_at hl 2 rfl) ?_
        refine lv_iconst (v := 0) hx hb dX11_record_39 (by decide) ?_
        refine lv_aload_n hx hb dX11_record_40 rfl (lv_at hl 0 rfl) ?_
        refine lv_iload_n hx hb dX11_record_41 rfl (lv_at hl 1 rfl) ?_
        refine lv_iconst (v := 1) hx hb dX11_record_42 (by decide) ?_
        refine z_cVi (As := [.int x1, .int (1 : Int32)]) (rest := [.int (0 : Int32), .int x2]) X (c_X11_segmentAt l dC dI cI cJ cS a ((2 : Int32), u.2) x1 (1 : Int32) _ hf) zc_X11_segmentAt q_ml_X11_53 ⟨rfl, rfl⟩ ⟨Nat.le_of_ble_eq_true rfl, Nat.le_of_ble_eq_true rfl⟩ hP [0, 1, 2, 3, 4, 5, 6, 7, 8] rfl 10 rfl rfl hl.1 rfl rfl (Nat.le_of_ble_eq_true rfl) ⟨Nat.zero_le _, Nat.zero_le _⟩ dX11_record_43 (fun r_20 hf => ?_)
        refine lv_iconst (v := 1) hx hb dX11_record_46 (by decide) ?_
        refine lv_isub hx hb dX11_record_47 ?_
        refine z_cSi (As := [.int x2, .int (0 : Int32), .int (r_20 - (1 : Int32))]) (rest := []) X (c_X11_isIn l dC dI cI cJ cS   x2 (0 : Int32) (r_20 - (1 : Int32)) _ hf) zc_X11_isIn q_ml_X11_165 ⟨rfl, rfl⟩ ⟨Nat.le_of_ble_eq_true rfl, Nat.le_of_ble_eq_true rfl⟩ hP [] rfl hl.1 rfl rfl (Nat.le_of_ble_eq_true rfl) ⟨Nat.zero_le _, Nat.zero_le _⟩ dX11_record_48 (fun r_21 hf => ?_)
        obtain ⟨hbr_21, hf⟩ := hf
        refine lv_if_ne (tgt := 56) hx hb dX11_record_51 (by decide) (fun c_22 => ?_) (fun c_22 => ?_)
        · have hf := hf.1 c_22
          refine lv_iload_n hx hb dX11_record_56 rfl (lv_at hl 3 rfl) ?_
          by_cases c_23 : x3 = (0 : Int32)
          · have hf := hf.1 c_23
            refine lv_tableIn (off := 31) (tgt := 88) hx hb dX11_record_57 (by rw [c_23]; decide) (by rw [c_23]; decide) (by rw [c_23]; decide) (by decide) ?_
            refine lv_aload_n hx hb dX11_record_88 rfl (lv_at hl 0 rfl) ?_
            refine lv_iload_n hx hb dX11_record_89 rfl (lv_at hl 1 rfl) ?_
            refine lv_iload_n hx hb dX11_record_90 rfl (lv_at hl 2 rfl) ?_
            refine lv_iconst (v := 0) hx hb dX11_record_91 (by decide) ?_
            refine z_cVi (As := [.int x1, .int x2, .int (0 : Int32)]) (rest := []) X (c_X11_noted l dC dI cI cJ cS a ((2 : Int32), u.2) x1 x2 (0 : Int32) _ hf) zc_X11_noted q_ml_X11_77 ⟨rfl, rfl⟩ ⟨Nat.le_of_ble_eq_true rfl, Nat.le_of_ble_eq_true rfl⟩ hP [0, 1, 2, 3, 4, 5, 6, 7, 8] rfl 10 rfl rfl hl.1 rfl rfl (Nat.le_of_ble_eq_true rfl) ⟨Nat.zero_le _, Nat.zero_le _⟩ dX11_record_92 (fun r_24 hf => ?_)
            exact z_retMi (Wf := (fun z => cl_X11 cI cJ a z)) (u := ((2 : Int32), u.2)) X hf hP hD hS dX11_record_95
          have hf := hf.2 c_23
          by_cases c_25 : x3 = (1 : Int32)
          · have hf := hf.1 c_25
            refine lv_tableIn (off := 39) (tgt := 96) hx hb dX11_record_57 (by rw [c_25]; decide) (by rw [c_25]; decide) (by rw [c_25]; decide) (by decide) ?_
            refine lv_aload_n hx hb dX11_record_96 rfl (lv_at hl 0 rfl) ?_
            refine lv_iload_n hx hb dX11_record_97 rfl (lv_at hl 1 rfl) ?_
            refine lv_iload_n hx hb dX11_record_98 rfl (lv_at hl 2 rfl) ?_
            refine lv_iconst (v := 1) hx hb dX11_record_99 (by decide) ?_
            refine z_cVi (As := [.int x1, .int x2, .int (1 : Int32)]) (rest := []) X (c_X11_noted l dC dI cI cJ cS a ((2 : Int32), u.2) x1 x2 (1 : Int32) _ hf) zc_X11_noted q_ml_X11_77 ⟨rfl, rfl⟩ ⟨Nat.le_of_ble_eq_true rfl, Nat.le_of_ble_eq_true rfl⟩ hP [0, 1, 2, 3, 4, 5, 6, 7, 8] rfl 10 rfl rfl hl.1 rfl rfl (Nat.le_of_ble_eq_true rfl) ⟨Nat.zero_le _, Nat.zero_le _⟩ dX11_record_100 (fun r_26 hf => ?_)
            exact z_retMi (Wf := (fun z => cl_X11 cI cJ a z)) (u := ((2 : Int32), u.2)) X hf hP hD hS dX11_record_103
          have hf := hf.2 c_25
          by_cases c_27 : x3 = (2 : Int32)
          · have hf := hf.1 c_27
            refine lv_tableIn (off := 47) (tgt := 104) hx hb dX11_record_57 (by rw [c_27]; decide) (by rw [c_27]; decide) (by rw [c_27]; decide) (by decide) ?_
            refine lv_aload_n hx hb dX11_record_104 rfl (lv_at hl 0 rfl) ?_
            refine lv_iload_n hx hb dX11_record_105 rfl (lv_at hl 1 rfl) ?_
            refine lv_iload_n hx hb dX11_record_106 rfl (lv_at hl 2 rfl) ?_
            refine lv_iconst (v := 3) hx hb dX11_record_107 (by decide) ?_
            refine z_cVi (As := [.int x1, .int x2, .int (3 : Int32)]) (rest := []) X (c_X11_noted l dC dI cI cJ cS a ((2 : Int32), u.2) x1 x2 (3 : Int32) _ hf) zc_X11_noted q_ml_X11_77 ⟨rfl, rfl⟩ ⟨Nat.le_of_ble_eq_true rfl, Nat.le_of_ble_eq_true rfl⟩ hP [0, 1, 2, 3, 4, 5, 6, 7, 8] rfl 10 rfl rfl hl.1 rfl rfl (Nat.le_of_ble_eq_true rfl) ⟨Nat.zero_le _, Nat.zero_le _⟩ dX11_record_108 (fun r_28 hf => ?_)
            exact z_retMi (Wf := (fun z => cl_X11 cI cJ a z)) (u := ((2 : Int32), u.2)) X hf hP hD hS dX11_record_111
          have hf := hf.2 c_27
          by_cases c_29 : x3 = (3 : Int32)
          · have hf := hf.1 c_29
            refine lv_tableIn (off := 55) (tgt := 112) hx hb dX11_record_57 (by rw [c_29]; decide) (by rw [c_29]; decide) (by rw [c_29]; decide) (by decide) ?_
            refine lv_aload_n hx hb dX11_record_112 rfl (lv_at hl 0 rfl) ?_
            refine lv_iload_n hx hb dX11_record_113 rfl (lv_at hl 1 rfl) ?_
            refine lv_iload_n hx hb dX11_record_114 rfl (lv_at hl 2 rfl) ?_
            refine lv_iconst (v := 4) hx hb dX11_record_115 (by decide) ?_
            refine z_cVi (As := [.int x1, .int x2, .int (4 : Int32)]) (rest := []) X (c_X11_noted l dC dI cI cJ cS a ((2 : Int32), u.2) x1 x2 (4 : Int32) _ hf) zc_X11_noted q_ml_X11_77 ⟨rfl, rfl⟩ ⟨Nat.le_of_ble_eq_true rfl, Nat.le_of_ble_eq_true rfl⟩ hP [0, 1, 2, 3, 4, 5, 6, 7, 8] rfl 10 rfl rfl hl.1 rfl rfl (Nat.le_of_ble_eq_true rfl) ⟨Nat.zero_le _, Nat.zero_le _⟩ dX11_record_116 (fun r_30 hf => ?_)
            exact z_retMi (Wf := (fun z => cl_X11 cI cJ a z)) (u := ((2 : Int32), u.2)) X hf hP hD hS dX11_record_119
          have hf := hf.2 c_29
          refine lv_tableOut (tgt := 120) hx hb dX11_record_57 (by have q0 : ¬ x3.toInt = (0 : Int) := fun h => c_23 (Int32.toInt_inj.mp (show x3.toInt = (0 : Int32).toInt from h)); have q1 : ¬ x3.toInt = (1 : Int) := fun h => c_25 (Int32.toInt_inj.mp (show x3.toInt = (1 : Int32).toInt from h)); have q2 : ¬ x3.toInt = (2 : Int) := fun h => c_27 (Int32.toInt_inj.mp (show x3.toInt = (2 : Int32).toInt from h)); have q3 : ¬ x3.toInt = (3 : Int) := fun h => c_29 (Int32.toInt_inj.mp (show x3.toInt = (3 : Int32).toInt from h)); omega) (by decide) ?_
          refine lv_aload_n hx hb dX11_record_120 rfl (lv_at hl 0 rfl) ?_
          refine lv_iload_n hx hb dX11_record_121 rfl (lv_at hl 1 rfl) ?_
          refine lv_iload_n hx hb dX11_record_122 rfl (lv_at hl 2 rfl) ?_
          refine z_cVi (As := [.int x1, .int x2]) (rest := []) X (c_X11_isLive l dC dI cI cJ cS a ((2 : Int32), u.2) x1 x2 _ hf) zc_X11_isLive q_ml_X11_88 ⟨rfl, rfl⟩ ⟨Nat.le_of_ble_eq_true rfl, Nat.le_of_ble_eq_true rfl⟩ hP [0, 1, 2, 3, 4, 5, 6, 7, 8] rfl 10 rfl rfl hl.1 rfl rfl (Nat.le_of_ble_eq_true rfl) ⟨Nat.zero_le _, Nat.zero_le _⟩ dX11_record_123 (fun r_31 hf => ?_)
          obtain ⟨hbr_31, hf⟩ := hf
          refine lv_if_eq (tgt := 133) hx hb dX11_record_126 (by decide) (fun c_32 => ?_) (fun c_32 => ?_)
          · have hf := hf.1 c_32
            refine lv_iconst (v := 0) hx hb dX11_record_133 (by decide) ?_
            exact z_retMi (Wf := (fun z => cl_X11 cI cJ a z)) (u := ((2 : Int32), u.2)) X hf hP hD hS dX11_record_134
          · have hf := hf.2 c_32
            refine lv_iconst (v := 1) hx hb dX11_record_129 (by decide) ?_
            refine lv_goto (tgt := 134) hx hb dX11_record_130 (by decide) ?_
            exact z_retMi (Wf := (fun z => cl_X11 cI cJ a z)) (u := ((2 : Int32), u.2)) X hf hP hD hS dX11_record_134
        · have hf := hf.2 c_22
          refine lv_iconst (v := (-1)) hx hb dX11_record_54 (by decide) ?_
          exact z_retMi (Wf := (fun z => cl_X11 cI cJ a z)) (u := ((2 : Int32), u.2)) X hf hP hD hS dX11_record_55
      · have hf := hf.2 c_19
        refine lv_iconst (v := 0) hx hb dX11_record_36 (by decide) ?_
        exact z_retMi (Wf := (fun z => cl_X11 cI cJ a z)) (u := ((2 : Int32), u.2)) X hf hP hD hS dX11_record_37
  · have hf := hf.2 c_2
    refine lv_iconst (v := 1) hx hb dX11_record_8 (by decide) ?_
    refine lv_goto (tgt := 26) hx hb dX11_record_9 (by decide) ?_
    refine z_put (w' := cl_X11 cI cJ a ((1 : Int32), u.2)) (ci := 10) (v := .int (1 : Int32)) (ty := .int) (Cn := RX11) (T := TX11) (N := 17) X inX11 tyX11 tyX11_ok nmX11 hP hD hS 0 rfl rfl 0 (by decide) (hts _ q_fl_X11_43) (fun _ h9 => h9) rfl (tyX11_ok 0 (by decide)) rfl rfl (Nat.le_of_ble_eq_true rfl) rfl dX11_record_26 (fun H locs hP hD hS => ?_)
    refine lv_aload_n hx hb dX11_record_29 rfl (lv_at hl 0 rfl) ?_
    refine va_get (D := (dC, dI)) (ci := 10) (v := .int (1 : Int32)) (C := RX11) (T := TX11) (N := 17) hx hb hts inX11 hown hK hP 0 rfl rfl 0 (by decide) (hts _ q_fl_X11_43) (fun _ h9 => h9) rfl dX11_record_30 ?_
    refine lv_if_le (tgt := 38) hx hb dX11_record_33 (by decide) (fun c_33 => ?_) (fun c_33 => ?_)
    · have hf := hf.1 c_33
      refine lv_iload_n hx hb dX11_record_38 rfl (lv_at hl 2 rfl) ?_
      refine lv_iconst (v := 0) hx hb dX11_record_39 (by decide) ?_
      refine lv_aload_n hx hb dX11_record_40 rfl (lv_at hl 0 rfl) ?_
      refine lv_iload_n hx hb dX11_record_41 rfl (lv_at hl 1 rfl) ?_
      refine lv_iconst (v := 1) hx hb dX11_record_42 (by decide) ?_
      refine z_cVi (As := [.int x1, .int (1 : Int32)]) (rest := [.int (0 : Int32), .int x2]) X (c_X11_segmentAt l dC dI cI cJ cS a ((1 : Int32), u.2) x1 (1 : Int32) _ hf) zc_X11_segmentAt q_ml_X11_53 ⟨rfl, rfl⟩ ⟨Nat.le_of_ble_eq_true rfl, Nat.le_of_ble_eq_true rfl⟩ hP [0, 1, 2, 3, 4, 5, 6, 7, 8] rfl 10 rfl rfl hl.1 rfl rfl (Nat.le_of_ble_eq_true rfl) ⟨Nat.zero_le _, Nat.zero_le _⟩ dX11_record_43 (fun r_34 hf => ?_)
      refine lv_iconst (v := 1) hx hb dX11_record_46 (by decide) ?_
      refine lv_isub hx hb dX11_record_47 ?_
      refine z_cSi (As := [.int x2, .int (0 : Int32), .int (r_34 - (1 : Int32))]) (rest := []) X (c_X11_isIn l dC dI cI cJ cS   x2 (0 : Int32) (r_34 - (1 : Int32)) _ hf) zc_X11_isIn q_ml_X11_165 ⟨rfl, rfl⟩ ⟨Nat.le_of_ble_eq_true rfl, Nat.le_of_ble_eq_true rfl⟩ hP [] rfl hl.1 rfl rfl (Nat.le_of_ble_eq_true rfl) ⟨Nat.zero_le _, Nat.zero_le _⟩ dX11_record_48 (fun r_35 hf => ?_)
      obtain ⟨hbr_35, hf⟩ := hf
      refine lv_if_ne (tgt := 56) hx hb dX11_record_51 (by decide) (fun c_36 => ?_) (fun c_36 => ?_)
      · have hf := hf.1 c_36
        refine lv_iload_n hx hb dX11_record_56 rfl (lv_at hl 3 rfl) ?_
        by_cases c_37 : x3 = (0 : Int32)
        · have hf := hf.1 c_37
          refine lv_tableIn (off := 31) (tgt := 88) hx hb dX11_record_57 (by rw [c_37]; decide) (by rw [c_37]; decide) (by rw [c_37]; decide) (by decide) ?_
          refine lv_aload_n hx hb dX11_record_88 rfl (lv_at hl 0 rfl) ?_
          refine lv_iload_n hx hb dX11_record_89 rfl (lv_at hl 1 rfl) ?_
          refine lv_iload_n hx hb dX11_record_90 rfl (lv_at hl 2 rfl) ?_
          refine lv_iconst (v := 0) hx hb dX11_record_91 (by decide) ?_
          refine z_cVi (As := [.int x1, .int x2, .int (0 : Int32)]) (rest := []) X (c_X11_noted l dC dI cI cJ cS a ((1 : Int32), u.2) x1 x2 (0 : Int32) _ hf) zc_X11_noted q_ml_X11_77 ⟨rfl, rfl⟩ ⟨Nat.le_of_ble_eq_true rfl, Nat.le_of_ble_eq_true rfl⟩ hP [0, 1, 2, 3, 4, 5, 6, 7, 8] rfl 10 rfl rfl hl.1 rfl rfl (Nat.le_of_ble_eq_true rfl) ⟨Nat.zero_le _, Nat.zero_le _⟩ dX11_record_92 (fun r_38 hf => ?_)
          exact z_retMi (Wf := (fun z => cl_X11 cI cJ a z)) (u := ((1 : Int32), u.2)) X hf hP hD hS dX11_record_95
        have hf := hf.2 c_37
        by_cases c_39 : x3 = (1 : Int32)
        · have hf := hf.1 c_39
          refine lv_tableIn (off := 39) (tgt := 96) hx hb dX11_record_57 (by rw [c_39]; decide) (by rw [c_39]; decide) (by rw [c_39]; decide) (by decide) ?_
          refine lv_aload_n hx hb dX11_record_96 rfl (lv_at hl 0 rfl) ?_
          refine lv_iload_n hx hb dX11_record_97 rfl (lv_at hl 1 rfl) ?_
          refine lv_iload_n hx hb dX11_record_98 rfl (lv_at hl 2 rfl) ?_
          refine lv_iconst (v := 1) hx hb dX11_record_99 (by decide) ?_
          refine z_cVi (As := [.int x1, .int x2, .int (1 : Int32)]) (rest := []) X (c_X11_noted l dC dI cI cJ cS a ((1 : Int32), u.2) x1 x2 (1 : Int32) _ hf) zc_X11_noted q_ml_X11_77 ⟨rfl, rfl⟩ ⟨Nat.le_of_ble_eq_true rfl, Nat.le_of_ble_eq_true rfl⟩ hP [0, 1, 2, 3, 4, 5, 6, 7, 8] rfl 10 rfl rfl hl.1 rfl rfl (Nat.le_of_ble_eq_true rfl) ⟨Nat.zero_le _, Nat.zero_le _⟩ dX11_record_100 (fun r_40 hf => ?_)
          exact z_retMi (Wf := (fun z => cl_X11 cI cJ a z)) (u := ((1 : Int32), u.2)) X hf hP hD hS dX11_record_103
        have hf := hf.2 c_39
        by_cases c_41 : x3 = (2 : Int32)
        · have hf := hf.1 c_41
          refine lv_tableIn (off := 47) (tgt := 104) hx hb dX11_record_57 (by rw [c_41]; decide) (by rw [c_41]; decide) (by rw [c_41]; decide) (by decide) ?_
          refine lv_aload_n hx hb dX11_record_104 rfl (lv_at hl 0 rfl) ?_
          refine lv_iload_n hx hb dX11_record_105 rfl (lv_at hl 1 rfl) ?_
          refine lv_iload_n hx hb dX11_record_106 rfl (lv_at hl 2 rfl) ?_
          refine lv_iconst (v := 3) hx hb dX11_record_107 (by decide) ?_
          refine z_cVi (As := [.int x1, .int x2, .int (3 : Int32)]) (rest := []) X (c_X11_noted l dC dI cI cJ cS a ((1 : Int32), u.2) x1 x2 (3 : Int32) _ hf) zc_X11_noted q_ml_X11_77 ⟨rfl, rfl⟩ ⟨Nat.le_of_ble_eq_true rfl, Nat.le_of_ble_eq_true rfl⟩ hP [0, 1, 2, 3, 4, 5, 6, 7, 8] rfl 10 rfl rfl hl.1 rfl rfl (Nat.le_of_ble_eq_true rfl) ⟨Nat.zero_le _, Nat.zero_le _⟩ dX11_record_108 (fun r_42 hf => ?_)
          exact z_retMi (Wf := (fun z => cl_X11 cI cJ a z)) (u := ((1 : Int32), u.2)) X hf hP hD hS dX11_record_111
        have hf := hf.2 c_41
        by_cases c_43 : x3 = (3 : Int32)
        · have hf := hf.1 c_43
          refine lv_tableIn (off := 55) (tgt := 112) hx hb dX11_record_57 (by rw [c_43]; decide) (by rw [c_43]; decide) (by rw [c_43]; decide) (by decide) ?_
          refine lv_aload_n hx hb dX11_record_112 rfl (lv_at hl 0 rfl) ?_
          refine lv_iload_n hx hb dX11_record_113 rfl (lv_at hl 1 rfl) ?_
          refine lv_iload_n hx hb dX11_record_114 rfl (lv_at hl 2 rfl) ?_
          refine lv_iconst (v := 4) hx hb dX11_record_115 (by decide) ?_
          refine z_cVi (As := [.int x1, .int x2, .int (4 : Int32)]) (rest := []) X (c_X11_noted l dC dI cI cJ cS a ((1 : Int32), u.2) x1 x2 (4 : Int32) _ hf) zc_X11_noted q_ml_X11_77 ⟨rfl, rfl⟩ ⟨Nat.le_of_ble_eq_true rfl, Nat.le_of_ble_eq_true rfl⟩ hP [0, 1, 2, 3, 4, 5, 6, 7, 8] rfl 10 rfl rfl hl.1 rfl rfl (Nat.le_of_ble_eq_true rfl) ⟨Nat.zero_le _, Nat.zero_le _⟩ dX11_record_116 (fun r_44 hf => ?_)
          exact z_retMi (Wf := (fun z => cl_X11 cI cJ a z)) (u := ((1 : Int32), u.2)) X hf hP hD hS dX11_record_119
        have hf := hf.2 c_43
        refine lv_tableOut (tgt := 120) hx hb dX11_record_57 (by have q0 : ¬ x3.toInt = (0 : Int) := fun h => c_37 (Int32.toInt_inj.mp (show x3.toInt = (0 : Int32).toInt from h)); have q1 : ¬ x3.toInt = (1 : Int) := fun h => c_39 (Int32.toInt_inj.mp (show x3.toInt = (1 : Int32).toInt from h)); have q2 : ¬ x3.toInt = (2 : Int) := fun h => c_41 (Int32.toInt_inj.mp (show x3.toInt = (2 : Int32).toInt from h)); have q3 : ¬ x3.toInt = (3 : Int) := fun h => c_43 (Int32.toInt_inj.mp (show x3.toInt = (3 : Int32).toInt from h)); omega) (by decide) ?_
        refine lv_aload_n hx hb dX11_record_120 rfl (lv_at hl 0 rfl) ?_
        refine lv_iload_n hx hb dX11_record_121 rfl (lv_at hl 1 rfl) ?_
        refine lv_iload_n hx hb dX11_record_122 rfl (lv_at hl 2 rfl) ?_
        refine z_cVi (As := [.int x1, .int x2]) (rest := []) X (c_X11_isLive l dC dI cI cJ cS a ((1 : Int32), u.2) x1 x2 _ hf) zc_X11_isLive q_ml_X11_88 ⟨rfl, rfl⟩ ⟨Nat.le_of_ble_eq_true rfl, Nat.le_of_ble_eq_true rfl⟩ hP [0, 1, 2, 3, 4, 5, 6, 7, 8] rfl 10 rfl rfl hl.1 rfl rfl (Nat.le_of_ble_eq_true rfl) ⟨Nat.zero_le _, Nat.zero_le _⟩ dX11_record_123 (fun r_45 hf => ?_)
        obtain ⟨hbr_45, hf⟩ := hf
        refine lv_if_eq (tgt := 133) hx hb dX11_record_126 (by decide) (fun c_46 => ?_) (fun c_46 => ?_)
        · have hf := hf.1 c_46
          refine lv_iconst (v := 0) hx hb dX11_record_133 (by decide) ?_
          exact z_retMi (Wf := (fun z => cl_X11 cI cJ a z)) (u := ((1 : Int32), u.2)) X hf hP hD hS dX11_record_134
        · have hf := hf.2 c_46
          refine lv_iconst (v := 1) hx hb dX11_record_129 (by decide) ?_
          refine lv_goto (tgt := 134) hx hb dX11_record_130 (by decide) ?_
          exact z_retMi (Wf := (fun z => cl_X11 cI cJ a z)) (u := ((1 : Int32), u.2)) X hf hP hD hS dX11_record_134
      · have hf := hf.2 c_36
        refine lv_iconst (v := (-1)) hx hb dX11_record_54 (by decide) ?_
        exact z_retMi (Wf := (fun z => cl_X11 cI cJ a z)) (u := ((1 : Int32), u.2)) X hf hP hD hS dX11_record_55
    · have hf := hf.2 c_33
      refine lv_iconst (v := 0) hx hb dX11_record_36 (by decide) ?_
      exact z_retMi (Wf := (fun z => cl_X11 cI cJ a z)) (u := ((1 : Int32), u.2)) X hf hP hD hS dX11_record_37
def s_X11_record (u : zModel) (x1 x2 x3 : Int32) (Q : Int32 → zModel → Prop) : Prop := mAsk u (fun v => fRecord v x1 x2 x3) Q
theorem n_range {x : Int32} {c : Nat} (hc : c ≤ 50) : inR x 0 (nI c - 1) ↔ ∃ k : Nat, k < c ∧ x = nI k := by
  constructor
  · intro h
    obtain ⟨n, hn, rfl⟩ := nI_of h.1
    refine ⟨n, ?_, rfl⟩
    have h1 := h.2
    by_cases q : c = 0
    · rw [q] at h1
      exact absurd (show nI 0 - 1 < nI n from by
        rw [show nI 0 - 1 = (-1 : Int32) by decide, fa_lt, nI_toInt hn]
        have : (-1 : Int32).toInt = -1 := by decide
        omega) h1
    · obtain ⟨r, er⟩ : ∃ r, c = r + 1 := ⟨c - 1, by omega⟩
      rw [er, nI_pred] at h1
      have : ¬ r < n := fun q => h1 (nI_lt q hn)
      omega
  · rintro ⟨k, hk, rfl⟩
    refine ⟨nI_pos (by omega), ?_⟩
    obtain ⟨r, er⟩ : ∃ r, c = r + 1 := ⟨c - 1, by omega⟩
    rw [er, nI_pred]
    exact nI_nlt (by omega) (by omega)
theorem st_X11_record {u : zModel} {x1 x2 x3 : Int32} {Q : Int32 → zModel → Prop} (h : s_X11_record u x1 x2 x3 Q) : t_X11_record u x1 x2 x3 Q := by
  obtain ⟨B, G, hG, hm, hQ⟩ := h
  dsimp only at hQ
  unfold fRecord at hQ
  have hmk : mOk (gNow G) u.2.1 := hG.1.mok hm.now
  have ho := hG.1.ok
  refine isIn_of (fun c1 => ⟨fun _ => isIn_of (fun c2 => ⟨fun _ => ⟨fun _ => ?_, fun q => absurd (by decide) q⟩, fun q => absurd q (by decide)⟩) (fun c2 => ⟨fun q => absurd rfl q, fun _ => ⟨fun q => absurd q (by decide), fun _ => ?_⟩⟩), fun q => absurd q (by decide)⟩) (fun c1 => ⟨fun q => absurd rfl q, fun _ => ⟨fun q => absurd q (by decide), fun _ => ?_⟩⟩)
  · rw [if_pos c1, if_pos c2] at hQ
    obtain ⟨s, hs, rfl, es⟩ := seg_n c1
    rw [es] at hQ
    have h50 := ho.cl hs
    have m1 : u.2.1 (66 + 3 * s + 1) = (gNow G).2.2.1.2.1 s := hm.now.2.1 s 1 hs (by decide)
    refine ⟨s, 1, hs, by decide, rfl, rfl, ?_⟩
    dsimp only
    rw [m1]
    refine isIn_of (fun c3 => ⟨fun _ => ?_, fun q => absurd q (by decide)⟩) (fun c3 => ⟨fun q => absurd rfl q, fun _ => ?_⟩)
    · rw [if_pos c3] at hQ
      rw [ho.c hs] at c3
      obtain ⟨k, hk, rfl⟩ := (n_range h50).mp c3
      rw [nI_clamp (by omega)] at hQ
      have hQ := hQ _ (hm.th 0) rfl
      dsimp only at hQ
      unfold aRec at hQ
      have rr := fun w hw => hm.now.2.2.1 s k w hs hk hw
      refine ⟨fun d => ⟨s, k, 0, hs, by omega, by decide, rfl, rfl, rfl, ?_⟩, fun d => ?_⟩
      · rw [if_pos d] at hQ; rw [rr 0 (by decide)]; exact hQ
      rw [if_neg d] at hQ
      refine ⟨fun d => ⟨s, k, 1, hs, by omega, by decide, rfl, rfl, rfl, ?_⟩, fun d => ?_⟩
      · rw [if_pos d] at hQ; rw [rr 1 (by decide)]; exact hQ
      rw [if_neg d] at hQ
      refine ⟨fun d => ⟨s, k, 3, hs, by omega, by decide, rfl, rfl, rfl, ?_⟩, fun d => ?_⟩
      · rw [if_pos d] at hQ; rw [rr 3 (by decide)]; exact hQ
      rw [if_neg d] at hQ
      refine ⟨fun d => ⟨s, k, 4, hs, by omega, by decide, rfl, rfl, rfl, ?_⟩, fun d => ?_⟩
      · rw [if_pos d] at hQ; rw [rr 4 (by decide)]; exact hQ
      rw [if_neg d] at hQ
      refine ⟨gNow G, s, k, hmk, hs, hk, rfl, rfl, fun hl => ⟨fun q => absurd q (by decide), fun _ => ?_⟩, fun hl => ⟨fun _ => ?_, fun q => absurd rfl q⟩⟩
      · rw [if_pos hl] at hQ; exact hQ
      · rw [if_neg (by rw [hl]; decide)] at hQ; exact hQ
    · rw [if_neg c3] at hQ
      exact hQ _ (hm.th 0) rfl
  · rw [if_pos c1, if_neg c2] at hQ
    exact hQ _ (hm.th 2) rfl
  · rw [if_neg c1] at hQ
    exact hQ _ (hm.th 1) rfl
theorem c_X11_record (l : Launch) (dC : Nat → ClassId) (dI : Nat → Nat → Nat) (cI cJ cS : ClassId) (a : Nat → Nat) (u : zModel) (x1 : Int32) (x2 : Int32) (x3 : Int32) (Q : Int32 → zModel → Prop) (hf : s_X11_record u x1 x2 x3 Q) : ∀ sz : Nat, Met l yX11_record (Cond.code yX11_record cX11_record 4 (some .int) :: zT) rm_X11_record (zPm dC dI cI cJ cS (cl_X11 cI cJ a u) [.ref (a 0), .int x1, .int x2, .int x3] sz) (va_Qi Q (zB dC dI cI cJ cS (va_A (cl_X11 cI cJ a u) sz) (fun z => cl_X11 cI cJ a z)) (va_A (cl_X11 cI cJ a u) sz)) 0 0 (va_A (cl_X11 cI cJ a u) sz) := L_X11_record l dC dI cI cJ cS a u x1 x2 x3 Q (st_X11_record hf)
