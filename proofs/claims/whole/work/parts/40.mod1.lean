/-! the reference's row of numbers beside a State -/
theorem ix_seg (s w : Nat) : ((66 : Int32) + ((3 : Int32) * nI s)) + nI w = nI (66 + 3 * s + w) := by
  rw [show (66 : Int32) = nI 66 from rfl, show (3 : Int32) = nI 3 from rfl, n_mul, nI_add, nI_add]
theorem ix_rec (s k : Nat) : (102 : Int32) + ((5 : Int32) * (((50 : Int32) * nI s) + nI k)) = nI (102 + 5 * (50 * s + k)) := by
  rw [show (102 : Int32) = nI 102 from rfl, show (5 : Int32) = nI 5 from rfl, show (50 : Int32) = nI 50 from rfl, n_mul, nI_add, n_mul, nI_add]
theorem ix_ent (t k : Nat) : (3102 : Int32) + ((6 : Int32) * (((64 : Int32) * nI t) + nI k)) = nI (3102 + 6 * (64 * t + k)) := by
  rw [show (3102 : Int32) = nI 3102 from rfl, show (6 : Int32) = nI 6 from rfl, show (64 : Int32) = nI 64 from rfl, n_mul, nI_add, n_mul, nI_add]
/-- a length as the reference has it: -1 of a drop -/
def lenI (c : Int64) : Int32 := if cLen c = 0 then -1 else cLen c
/-- what the reference's row has of a record, of an entry -/
def recF (c : Int64) (w : Nat) : Int32 := match w with
  | 0 => cKey c
  | 1 => lenI c
  | 2 => cSeed c
  | 3 => cNum c
  | _ => cBeg c
def entF (b : Int32) (c : Int64) (w : Nat) : Int32 := match w with
  | 0 => cNum c
  | 1 => uKind b c
  | 2 => lenI c
  | 3 => cSeed c
  | 4 => cSeg c
  | _ => cBeg c
/-- the sixteen numbers ahead -/
def topF (v : zState) (i : Nat) : Int32 := match i with
  | 0 => v.1.1
  | 1 => v.1.2.1
  | 2 => v.1.2.2.1
  | 3 => v.1.2.2.2
  | 4 => v.2.2.2.1.2.2
  | 5 => v.2.2.2.2.2.2.1
  | 6 => v.2.2.2.2.2.2.2.1
  | 7 => v.2.2.2.2.2.2.2.2
  | 8 => v.2.2.2.2.1.2.1
  | 9 => v.2.2.2.2.1.2.2.1
  | 10 => v.2.2.2.2.1.2.2.2
  | 11 => v.2.1.2.2.2.1
  | 12 => v.2.1.2.2.2.2
  | 13 => v.2.1.1
  | 14 => v.2.1.2.2.1
  | _ => v.2.1.2.1
def segF (g : zSegs) (s w : Nat) : Int32 := match w with
  | 0 => g.2.2.2.1 s
  | 1 => g.2.1 s
  | _ => g.2.2.1 s
def mRel (v : zState) (m : Nat → Int32) : Prop :=
  (∀ i, i < 16 → m i = topF v i) ∧
  (∀ s w, s < 12 → w < 3 → m (66 + 3 * s + w) = segF v.2.2.1 s w) ∧
  (∀ s k w, s < 12 → k < gN v.2.2.1 s → w < 5 → m (102 + 5 * (50 * s + k) + w) = recF (uRec v s k) w) ∧
  (∀ t k, t ≤ tR v.2.2.2.1 → k < 64 → m (3102 + 6 * (64 * t + k) + 1) = uKind v.1.2.1 (v.2.2.2.1.1 (64 * t + k)) ∧ (¬ v.2.2.2.1.1 (64 * t + k) = 0 → ∀ w, w < 6 → m (3102 + 6 * (64 * t + k) + w) = entF v.1.2.1 (v.2.2.2.1.1 (64 * t + k)) w)) ∧
  (¬ v.2.2.2.2.1.2.1 = -1 → ∀ i, i < wN v.2.2.2.2.1 → ∃ j, j < gN v.2.2.1 (uSg v) ∧ m (16 + i) = nI j ∧ v.2.2.2.2.1.1 i = uRec v (uSg v) j) ∧
  (m 5406 = v.2.2.2.2.2.1.2 ∧ ∀ i, i < 3 * dN v.2.2.2.2.2.1 → m (5407 + i) = v.2.2.2.2.2.1.1 i)
/-- the invariant but for what is NOTED -/
def ColW (c : zColl) : Prop := (c.2.2.1 = nI (wN c) ∧ wN c ≤ 50) ∧ (c.2.2.2 = nI (xN c) ∧ xN c ≤ wN c)
def zPw (ρ β mo lm L S M B : Nat) (u : zState) : Prop :=
  (u.1.1 = nI ρ ∧ 50 ≤ ρ ∧ ρ ≤ 200) ∧ (u.1.2.1 = nI β ∧ β ≤ 40) ∧ (u.1.2.2.1 = nI mo ∧ 2 ≤ mo ∧ mo ≤ 16) ∧ (u.1.2.2.2 = nI lm ∧ 1 ≤ lm ∧ lm ≤ 4) ∧
  (u.2.2.2.2.2.2.1 = nI L ∧ u.2.2.2.2.2.2.2.1 = nI S ∧ u.2.2.2.2.2.2.2.2 = nI M ∧ M ≤ S ∧ S ≤ L ∧ L ≤ B ∧ B ≤ 400000) ∧
  SegOk ρ L u.2.2.1 ∧ TreeOk M L u.2.2.2.1 ∧ tR u.2.2.2.1 ≤ lm ∧ Link u.1.2.1 u.2.2.1 u.2.2.2.1 ∧
  ColW u.2.2.2.2.1 ∧ DiaOk u.2.2.2.2.2.1 ∧ TotOk B u.2.1
theorem zPr.w {ρ β mo lm L S M B : Nat} {u : zState} (h : zP ρ β mo lm L S M B u) : zPw ρ β mo lm L S M B u := by
  obtain ⟨h1, h2, h3, h4, h5, hg, ht, hR, hL, hC, hD, hT⟩ := h
  exact ⟨h1, h2, h3, h4, h5, hg, ht, hR, hL, ⟨hC.1, hC.2.1⟩, hD, hT⟩
/-- a State that the reference's row stands for -/
def mOk (v : zState) (m : Nat → Int32) : Prop := (∃ ρ β mo lm L S M B : Nat, zPw ρ β mo lm L S M B v) ∧ mRel v m
theorem mOk.of {ρ β mo lm L S M B : Nat} {v : zState} {m : Nat → Int32} (h : zP ρ β mo lm L S M B v) (hr : mRel v m) : mOk v m := ⟨⟨ρ, β, mo, lm, L, S, M, B, h.w⟩, hr⟩
theorem mOk.ok {v : zState} {m : Nat → Int32} (h : mOk v m) : zOk v := by
  obtain ⟨⟨ρ, β, mo, lm, L, S, M, B, -, -, -, -, -, hg, ht, -⟩, -⟩ := h
  exact ⟨hg.1, ht.1, hg.2.1⟩
theorem uKind_pos {b : Int32} (c : Int64) : (uKind b c ≤ 0 ↔ c = 0) := by
  unfold uKind
  by_cases h : c = 0
  · rw [if_pos h]; exact ⟨fun _ => h, fun _ => by decide⟩
  · rw [if_neg h]
    refine ⟨fun q => ?_, fun q => absurd q h⟩
    split at q
    · exact absurd q (by decide)
    · split at q <;> exact absurd q (by decide)
theorem n_c4 : (4 : Int32).toNatClampNeg = 4 := by decide

def s_X11_isIn (x0 : Int32) (x1 : Int32) (x2 : Int32) (Q : Int32 → Prop) : Prop := ((x0 < x1 → Q (0 : Int32)) ∧ (¬ x0 < x1 → ((x2 < x0 → Q (0 : Int32)) ∧ (¬ x2 < x0 → Q (1 : Int32)))))
theorem zc_X11_isIn : zCalS yX11_isIn cX11_isIn 3 (some .boolean) 3 := ⟨q_st_X11_isIn, q_in_X11, q_cd_X11_isIn, ⟨by decide, by decide, by decide +kernel⟩⟩
abbrev rm_X11_isIn : Room := { frames := 0, cells := 0, slots := 0, locals := 0 }
set_option maxHeartbeats 4000000 in
set_option maxRecDepth 100000 in
theorem c_X11_isIn (l : Launch) (dC : Nat → ClassId) (dI : Nat → Nat → Nat) (cI cJ cS : ClassId) (x0 : Int32) (x1 : Int32) (x2 : Int32) (Q : Int32 → Prop) (hf : s_X11_isIn x0 x1 x2 Q) : Met l yX11_isIn (Cond.code yX11_isIn cX11_isIn 3 (some .boolean) :: zT) rm_X11_isIn (zPp dC dI cI cJ cS ([]) [.int x0, .int x1, .int x2]) (vp_Si (fun r => (r = 0 ∨ r = 1) ∧ Q r)) 0 0 (fun _ => False) := by
  refine z_enterP (cc := cX11_isIn) (maxL := 3) (ret := (some .boolean)) (by decide) (Nat.le_of_ble_eq_true rfl) ?_
  intro p e s m below meth c ls X hP hl
  obtain ⟨⟨hx, hb, hml, hown, hts⟩, hr, hlk, hK⟩ := id X
  have hl : lv_has ls 3 [(0, .int x0), (1, .int x1), (2, .int x2)] := hl
  unfold s_X11_isIn at hf
  refine lv_iload_n hx hb dX11_isIn_0 rfl (lv_at hl 0 rfl) ?_
  refine lv_iload_n hx hb dX11_isIn_1 rfl (lv_at hl 1 rfl) ?_
  refine lv_icmp_lt (tgt := 14) hx hb dX11_isIn_2 (by decide) (fun c_1 => ?_) (fun c_1 => ?_)
  · have hf := hf.1 c_1
    refine lv_iconst (v := 0) hx hb dX11_isIn_14 (by decide) ?_
    exact z_retPz X (Or.inl rfl) hf dX11_isIn_15
  · have hf := hf.2 c_1
    refine lv_iload_n hx hb dX11_isIn_5 rfl (lv_at hl 0 rfl) ?_
    refine lv_iload_n hx hb dX11_isIn_6 rfl (lv_at hl 2 rfl) ?_
    refine lv_icmp_gt (tgt := 14) hx hb dX11_isIn_7 (by decide) (fun c_2 => ?_) (fun c_2 => ?_)
    · have hf := hf.1 c_2
      refine lv_iconst (v := 0) hx hb dX11_isIn_14 (by decide) ?_
      exact z_retPz X (Or.inl rfl) hf dX11_isIn_15
    · have hf := hf.2 c_2
      refine lv_iconst (v := 1) hx hb dX11_isIn_10 (by decide) ?_
      refine lv_goto (tgt := 15) hx hb dX11_isIn_11 (by decide) ?_
      exact z_retPz X (Or.inr rfl) hf dX11_isIn_15

def s_X11_greater (x0 : Int32) (x1 : Int32) (Q : Int32 → Prop) : Prop := ((x0 ≤ x1 → Q x1) ∧ (¬ x0 ≤ x1 → Q x0))
theorem zc_X11_greater : zCalS yX11_greater cX11_greater 2 (some .int) 2 := ⟨q_st_X11_greater, q_in_X11, q_cd_X11_greater, ⟨by decide, by decide, by decide +kernel⟩⟩
abbrev rm_X11_greater : Room := { frames := 0, cells := 0, slots := 0, locals := 0 }
set_option maxHeartbeats 4000000 in
set_option maxRecDepth 100000 in
theorem c_X11_greater (l : Launch) (dC : Nat → ClassId) (dI : Nat → Nat → Nat) (cI cJ cS : ClassId) (x0 : Int32) (x1 : Int32) (Q : Int32 → Prop) (hf : s_X11_greater x0 x1 Q) : Met l yX11_greater (Cond.code yX11_greater cX11_greater 2 (some .int) :: zT) rm_X11_greater (zPp dC dI cI cJ cS ([]) [.int x0, .int x1]) (vp_Si Q) 0 0 (fun _ => False) := by
  refine z_enterP (cc := cX11_greater) (maxL := 2) (ret := (some .int)) (by decide) (Nat.le_of_ble_eq_true rfl) ?_
  intro p e s m below meth c ls X hP hl
  obtain ⟨⟨hx, hb, hml, hown, hts⟩, hr, hlk, hK⟩ := id X
  have hl : lv_has ls 2 [(0, .int x0), (1, .int x1)] := hl
  unfold s_X11_greater at hf
  refine lv_iload_n hx hb dX11_greater_0 rfl (lv_at hl 0 rfl) ?_
  refine lv_iload_n hx hb dX11_greater_1 rfl (lv_at hl 1 rfl) ?_
  refine lv_icmp_le (tgt := 9) hx hb dX11_greater_2 (by decide) (fun c_1 => ?_) (fun c_1 => ?_)
  · have hf := hf.1 c_1
    refine lv_iload_n hx hb dX11_greater_9 rfl (lv_at hl 1 rfl) ?_
    exact z_retPi X hf dX11_greater_10
  · have hf := hf.2 c_1
    refine lv_iload_n hx hb dX11_greater_5 rfl (lv_at hl 0 rfl) ?_
    refine lv_goto (tgt := 10) hx hb dX11_greater_6 (by decide) ?_
    exact z_retPi X hf dX11_greater_10

def t_X11_segmentAt (u : zModel) (x1 : Int32) (x2 : Int32) (Q : Int32 → Prop) : Prop := vp_in (((66 : Int32) + ((3 : Int32) * x1)) + x2) 5497 ∧ Q (u.2.1 (((66 : Int32) + ((3 : Int32) * x1)) + x2).toNatClampNeg)
theorem zc_X11_segmentAt : zCalV RX11 yX11_segmentAt cX11_segmentAt 3 (some .int) 2 := ⟨q_im_X11_segmentAt, q_se_X11_segmentAt, q_in_X11, q_cd_X11_segmentAt, ⟨by decide, by decide, by decide +kernel⟩, rfl⟩
abbrev rm_X11_segmentAt : Room := { frames := 0, cells := 0, slots := 0, locals := 0 }
set_option maxHeartbeats 4000000 in
set_option maxRecDepth 100000 in
theorem L_X11_segmentAt (l : Launch) (dC : Nat → ClassId) (dI : Nat → Nat → Nat) (cI cJ cS : ClassId) (a : Nat → Nat) (u : zModel) (x1 : Int32) (x2 : Int32) (Q : Int32 → Prop) (hf : t_X11_segmentAt u x1 x2 Q) : Met l yX11_segmentAt (Cond.code yX11_segmentAt cX11_segmentAt 3 (some .int) :: zT) rm_X11_segmentAt (zPp dC dI cI cJ cS (cl_X11 cI cJ a u) [.ref (a 0), .int x1, .int x2]) (vp_Si Q) 0 0 (fun _ => False) := by
  refine z_enterP (cc := cX11_segmentAt) (maxL := 3) (ret := (some .int)) (by decide) (Nat.le_of_ble_eq_true rfl) ?_
  intro p e s m below meth c ls X hP hl
  obtain ⟨⟨hx, hb, hml, hown, hts⟩, hr, hlk, hK⟩ := id X
  have hl : lv_has ls 3 [(0, .ref (a 0)), (1, .int x1), (2, .int x2)] := hl
  unfold t_X11_segmentAt at hf
  refine lv_aload_n hx hb dX11_segmentAt_0 rfl (lv_at hl 0 rfl) ?_
  refine va_get (D := (dC, dI)) (ci := 10) (v := .ref (a 1)) (C := RX11) (T := TX11) (N := 17) hx hb hts inX11 hown hK hP 0 rfl rfl 1 (by decide) (hts _ q_fl_X11_7) (fun _ h9 => h9) rfl dX11_segmentAt_1 ?_
  refine lv_bipush (v := 66) hx hb dX11_segmentAt_4 (by decide) ?_
  refine lv_iconst (v := 3) hx hb dX11_segmentAt_6 (by decide) ?_
  refine lv_iload_n hx hb dX11_segmentAt_7 rfl (lv_at hl 1 rfl) ?_
  refine lv_imul hx hb dX11_segmentAt_8 ?_
  refine lv_iadd hx hb dX11_segmentAt_9 ?_
  refine lv_iload_n hx hb dX11_segmentAt_10 rfl (lv_at hl 2 rfl) ?_
  refine lv_iadd hx hb dX11_segmentAt_11 ?_
  obtain ⟨hg, hf⟩ := hf
  refine va_iald hx hb hK hP 1 0 rfl rfl hg dX11_segmentAt_12 ?_
  exact z_retPi X hf dX11_segmentAt_13
def s_X11_segmentAt (u : zModel) (x1 x2 : Int32) (Q : Int32 → Prop) : Prop := ∃ s w : Nat, s < 12 ∧ w < 3 ∧ x1 = nI s ∧ x2 = nI w ∧ Q (u.2.1 (66 + 3 * s + w))
theorem st_X11_segmentAt {u : zModel} {x1 x2 : Int32} {Q : Int32 → Prop} (h : s_X11_segmentAt u x1 x2 Q) : t_X11_segmentAt u x1 x2 Q := by
  obtain ⟨s, w, hs, hw, rfl, rfl, h⟩ := h
  unfold t_X11_segmentAt
  rw [ix_seg, nI_clamp (by omega)]
  exact ⟨vp_in_nI (by omega) (by decide), h⟩
theorem c_X11_segmentAt (l : Launch) (dC : Nat → ClassId) (dI : Nat → Nat → Nat) (cI cJ cS : ClassId) (a : Nat → Nat) (u : zModel) (x1 : Int32) (x2 : Int32) (Q : Int32 → Prop) (hf : s_X11_segmentAt u x1 x2 Q) : Met l yX11_segmentAt (Cond.code yX11_segmentAt cX11_segmentAt 3 (some .int) :: zT) rm_X11_segmentAt (zPp dC dI cI cJ cS (cl_X11 cI cJ a u) [.ref (a 0), .int x1, .int x2]) (vp_Si Q) 0 0 (fun _ => False) := L_X11_segmentAt l dC dI cI cJ cS a u x1 x2 Q (st_X11_segmentAt hf)

def s_X11_recordAt (x0 : Int32) (x1 : Int32) (Q : Int32 → Prop) : Prop := Q ((102 : Int32) + ((5 : Int32) * (((50 : Int32) * x0) + x1)))
theorem zc_X11_recordAt : zCalS yX11_recordAt cX11_recordAt 2 (some .int) 2 := ⟨q_st_X11_recordAt, q_in_X11, q_cd_X11_recordAt, ⟨by decide, by decide, by decide +kernel⟩⟩
abbrev rm_X11_recordAt : Room := { frames := 0, cells := 0, slots := 0, locals := 0 }
set_option maxHeartbeats 4000000 in
set_option maxRecDepth 100000 in
theorem c_X11_recordAt (l : Launch) (dC : Nat → ClassId) (dI : Nat → Nat → Nat) (cI cJ cS : ClassId) (x0 : Int32) (x1 : Int32) (Q : Int32 → Prop) (hf : s_X11_recordAt x0 x1 Q) : Met l yX11_recordAt (Cond.code yX11_recordAt cX11_recordAt 2 (some .int) :: zT) rm_X11_recordAt (zPp dC dI cI cJ cS ([]) [.int x0, .int x1]) (vp_Si Q) 0 0 (fun _ => False) := by
  refine z_enterP (cc := cX11_recordAt) (maxL := 2) (ret := (some .int)) (by decide) (Nat.le_of_ble_eq_true rfl) ?_
  intro p e s m below meth c ls X hP hl
  obtain ⟨⟨hx, hb, hml, hown, hts⟩, hr, hlk, hK⟩ := id X
  have hl : lv_has ls 2 [(0, .int x0), (1, .int x1)] := hl
  unfold s_X11_recordAt at hf
  refine lv_bipush (v := 102) hx hb dX11_recordAt_0 (by decide) ?_
  refine lv_iconst (v := 5) hx hb dX11_recordAt_2 (by decide) ?_
  refine lv_bipush (v := 50) hx hb dX11_recordAt_3 (by decide) ?_
  refine lv_iload_n hx hb dX11_recordAt_5 rfl (lv_at hl 0 rfl) ?_
  refine lv_imul hx hb dX11_recordAt_6 ?_
  refine lv_iload_n hx hb dX11_recordAt_7 rfl (lv_at hl 1 rfl) ?_
  refine lv_iadd hx hb dX11_recordAt_8 ?_
  refine lv_imul hx hb dX11_recordAt_9 ?_
  refine lv_iadd hx hb dX11_recordAt_10 ?_
  exact z_retPi X hf dX11_recordAt_11

def t_X11_noted (u : zModel) (x1 : Int32) (x2 : Int32) (x3 : Int32) (Q : Int32 → Prop) : Prop := s_X11_recordAt x1 x2 (fun r_1 : Int32 => vp_in (r_1 + x3) 5497 ∧ Q (u.2.1 (r_1 + x3).toNatClampNeg))
theorem zc_X11_noted : zCalV RX11 yX11_noted cX11_noted 4 (some .int) 3 := ⟨q_im_X11_noted, q_se_X11_noted, q_in_X11, q_cd_X11_noted, ⟨by decide, by decide, by decide +kernel⟩, rfl⟩
abbrev rm_X11_noted : Room := { frames := 1, cells := 0, slots := 0, locals := 21 }
set_option maxHeartbeats 4000000 in
set_option maxRecDepth 100000 in
theorem L_X11_noted (l : Launch) (dC : Nat → ClassId) (dI : Nat → Nat → Nat) (cI cJ cS : ClassId) (a : Nat → Nat) (u : zModel) (x1 : Int32) (x2 : Int32) (x3 : Int32) (Q : Int32 → Prop) (hf : t_X11_noted u x1 x2 x3 Q) : Met l yX11_noted (Cond.code yX11_noted cX11_noted 4 (some .int) :: zT) rm_X11_noted (zPp dC dI cI cJ cS (cl_X11 cI cJ a u) [.ref (a 0), .int x1, .int x2, .int x3]) (vp_Si Q) 0 0 (fun _ => False) := by
  refine z_enterP (cc := cX11_noted) (maxL := 4) (ret := (some .int)) (by decide) (Nat.le_of_ble_eq_true rfl) ?_
  intro p e s m below meth c ls X hP hl
  obtain ⟨⟨hx, hb, hml, hown, hts⟩, hr, hlk, hK⟩ := id X
  have hl : lv_has ls 4 [(0, .ref (a 0)), (1, .int x1), (2, .int x2), (3, .int x3)] := hl
  unfold t_X11_noted at hf
  refine lv_aload_n hx hb dX11_noted_0 rfl (lv_at hl 0 rfl) ?_
  refine va_get (D := (dC, dI)) (ci := 10) (v := .ref (a 1)) (C := RX11) (T := TX11) (N := 17) hx hb hts inX11 hown hK hP 0 rfl rfl 1 (by decide) (hts _ q_fl_X11_7) (fun _ h9 => h9) rfl dX11_noted_1 ?_
  refine lv_iload_n hx hb dX11_noted_4 rfl (lv_at hl 1 rfl) ?_
  refine lv_iload_n hx hb dX11_noted_5 rfl (lv_at hl 2 rfl) ?_
  refine z_cSi (As := [.int x1, .int x2]) (rest := [.ref (a 1)]) X (c_X11_recordAt l dC dI cI cJ cS   x1 x2 _ hf) zc_X11_recordAt q_ml_X11_46 ⟨rfl, rfl⟩ ⟨Nat.le_of_ble_eq_true rfl, Nat.le_of_ble_eq_true rfl⟩ hP [] rfl hl.1 rfl rfl (Nat.le_of_ble_eq_true rfl) ⟨Nat.zero_le _, Nat.zero_le _⟩ dX11_noted_6 (fun r_1 hf => ?_)
  refine lv_iload_n hx hb dX11_noted_9 rfl (lv_at hl 3 rfl) ?_
  refine lv_iadd hx hb dX11_noted_10 ?_
  obtain ⟨hg, hf⟩ := hf
  refine va_iald hx hb hK hP 1 0 rfl rfl hg dX11_noted_11 ?_
  exact z_retPi X hf dX11_noted_12
def s_X11_noted (u : zModel) (x1 x2 x3 : Int32) (Q : Int32 → Prop) : Prop := ∃ s k w : Nat, s < 12 ∧ k < 50 ∧ w < 5 ∧ x1 = nI s ∧ x2 = nI k ∧ x3 = nI w ∧ Q (u.2.1 (102 + 5 * (50 * s + k) + w))
theorem st_X11_noted {u : zModel} {x1 x2 x3 : Int32} {Q : Int32 → Prop} (h : s_X11_noted u x1 x2 x3 Q) : t_X11_noted u x1 x2 x3 Q := by
  obtain ⟨s, k, w, hs, hk, hw, rfl, rfl, rfl, h⟩ := h
  unfold t_X11_noted s_X11_recordAt
  rw [ix_rec]
  dsimp only
  rw [nI_add, nI_clamp (by omega)]
  exact ⟨vp_in_nI (by omega) (by decide), h⟩
theorem c_X11_noted (l : Launch) (dC : Nat → ClassId) (dI : Nat → Nat → Nat) (cI cJ cS : ClassId) (a : Nat → Nat) (u : zModel) (x1 : Int32) (x2 : Int32) (x3 : Int32) (Q : Int32 → Prop) (hf : s_X11_noted u x1 x2 x3 Q) : Met l yX11_noted (Cond.code yX11_noted cX11_noted 4 (some .int) :: zT) rm_X11_noted (zPp dC dI cI cJ cS (cl_X11 cI cJ a u) [.ref (a 0), .int x1, .int x2, .int x3]) (vp_Si Q) 0 0 (fun _ => False) := L_X11_noted l dC dI cI cJ cS a u x1 x2 x3 Q (st_X11_noted hf)

def s_X11_sizeOf (x0 : Int32) (Q : Int32 → Prop) : Prop := s_X11_greater (0 : Int32) x0 (fun r_1 : Int32 => Q ((4 : Int32) + r_1))
theorem zc_X11_sizeOf : zCalS yX11_sizeOf cX11_sizeOf 1 (some .int) 1 := ⟨q_st_X11_sizeOf, q_in_X11, q_cd_X11_sizeOf, ⟨by decide, by decide, by decide +kernel⟩⟩
abbrev rm_X11_sizeOf : Room := { frames := 1, cells := 0, slots := 0, locals := 21 }
set_option maxHeartbeats 4000000 in
set_option maxRecDepth 100000 in
theorem c_X11_sizeOf (l : Launch) (dC : Nat → ClassId) (dI : Nat → Nat → Nat) (cI cJ cS : ClassId) (x0 : Int32) (Q : Int32 → Prop) (hf : s_X11_sizeOf x0 Q) : Met l yX11_sizeOf (Cond.code yX11_sizeOf cX11_sizeOf 1 (some .int) :: zT) rm_X11_sizeOf (zPp dC dI cI cJ cS ([]) [.int x0]) (vp_Si Q) 0 0 (fun _ => False) := by
  refine z_enterP (cc := cX11_sizeOf) (maxL := 1) (ret := (some .int)) (by decide) (Nat.le_of_ble_eq_true rfl) ?_
  intro p e s m below meth c ls X hP hl
  obtain ⟨⟨hx, hb, hml, hown, hts⟩, hr, hlk, hK⟩ := id X
  have hl : lv_has ls 1 [(0, .int x0)] := hl
  unfold s_X11_sizeOf at hf
  refine lv_iconst (v := 4) hx hb dX11_sizeOf_0 (by decide) ?_
  refine lv_iconst (v := 0) hx hb dX11_sizeOf_1 (by decide) ?_
  refine lv_iload_n hx hb dX11_sizeOf_2 rfl (lv_at hl 0 rfl) ?_
  refine z_cSi (As := [.int (0 : Int32), .int x0]) (rest := [.int (4 : Int32)]) X (c_X11_greater l dC dI cI cJ cS   (0 : Int32) x0 _ hf) zc_X11_greater q_ml_X11_50 ⟨rfl, rfl⟩ ⟨Nat.le_of_ble_eq_true rfl, Nat.le_of_ble_eq_true rfl⟩ hP [] rfl hl.1 rfl rfl (Nat.le_of_ble_eq_true rfl) ⟨Nat.zero_le _, Nat.zero_le _⟩ dX11_sizeOf_3 (fun r_1 hf => ?_)
  refine lv_iadd hx hb dX11_sizeOf_6 ?_
  exact z_retPi X hf dX11_sizeOf_7

def t_X11_openOne_e (u : zModel) (K2 : Int32 → Prop) (Q : Int32 → Prop) : Prop := K2 (0 : Int32)
def t_X11_openOne_2 (u : zModel) (y1 : Int32) (K2 : Int32 → Prop) (Q : Int32 → Prop) : Prop := (((12 : Int32) ≤ y1 → Q (-1 : Int32)) ∧ (¬ (12 : Int32) ≤ y1 → s_X11_segmentAt u y1 (0 : Int32) (fun r_3 : Int32 => ((¬ r_3 = (1 : Int32) → ∀ x_5 : Int32, x_5 = y1 + (1 : Int32) → K2 x_5) ∧ (r_3 = (1 : Int32) → Q y1)))))
theorem zc_X11_openOne : zCalV RX11 yX11_openOne cX11_openOne 2 (some .int) 0 := ⟨q_im_X11_openOne, q_se_X11_openOne, q_in_X11, q_cd_X11_openOne, ⟨by decide, by decide, by decide +kernel⟩, rfl⟩
abbrev rm_X11_openOne : Room := { frames := 1, cells := 0, slots := 0, locals := 22 }
def v_X11_openOne (u : zModel) (Q : Int32 → Prop) : Prop := ∃ I2 : Nat → Int32 → Prop, (∀ (n : Nat) (y1 : Int32), I2 n y1 → t_X11_openOne_2 u y1 (fun q0 => ∃ k : Nat, k < n ∧ I2 k q0) Q) ∧ t_X11_openOne_e u (fun q0 => ∃ k : Nat, I2 k q0) Q
set_option maxHeartbeats 4000000 in
set_option maxRecDepth 100000 in
theorem L_X11_openOne (l : Launch) (dC : Nat → ClassId) (dI : Nat → Nat → Nat) (cI cJ cS : ClassId) (a : Nat → Nat) (u : zModel) (Q : Int32 → Prop) (I2 : Nat → Int32 → Prop) (h2 : ∀ (n : Nat) (y1 : Int32), I2 n y1 → t_X11_openOne_2 u y1 (fun q0 => ∃ k : Nat, k < n ∧ I2 k q0) Q) (hf : t_X11_openOne_e u (fun q0 => ∃ k : Nat, I2 k q0) Q) : Met l yX11_openOne (Cond.code yX11_openOne cX11_openOne 2 (some .int) :: zT) rm_X11_openOne (zPp dC dI cI cJ cS (cl_X11 cI cJ a u) [.ref (a 0)]) (vp_Si Q) 0 0 (fun _ => False) := by
  refine z_enterP (cc := cX11_openOne) (maxL := 2) (ret := (some .int)) (by decide) (Nat.le_of_ble_eq_true rfl) ?_
  intro p e s m below meth c ls X hP hl
  obtain ⟨⟨hx, hb, hml, hown, hts⟩, hr, hlk, hK⟩ := id X
  have hl : lv_has ls 2 [(0, .ref (a 0))] := hl
  have LP : ∀ n : Nat, (∀ (y1 : Int32) (ls : Array Slot), I2 n y1 → lv_has ls 2 [(0, .ref (a 0)), (1, .int y1)] → W p l e rm_X11_openOne s m [.ref (a 0)].toArray below meth c s.heap [] 0 0 (MQ below (vp_Si Q) [.ref (a 0)].toArray s 0 0 (fun _ => False)) (F0 m 2 ls [])) := by
    intro n
    induction n using Nat.strongRecOn with
    | _ n ih =>
      intro y1 ls hI hl
      have hf := h2 n y1 hI
      unfold t_X11_openOne_2 at hf
      refine lv_iload_n hx hb dX11_openOne_2 rfl (lv_at hl 1 rfl) ?_
      refine lv_bipush (v := 12) hx hb dX11_openOne_3 (by decide) ?_
      refine lv_icmp_ge (tgt := 26) hx hb dX11_openOne_5 (by decide) (fun c_2 => ?_) (fun c_2 => ?_)
      · have hf := hf.1 c_2
        refine lv_iconst (v := (-1)) hx hb dX11_openOne_26 (by decide) ?_
        exact z_retPi X hf dX11_openOne_27
      · have hf := hf.2 c_2
        refine lv_aload_n hx hb dX11_openOne_8 rfl (lv_at hl 0 rfl) ?_
        refine lv_iload_n hx hb dX11_openOne_9 rfl (lv_at hl 1 rfl) ?_
        refine lv_iconst (v := 0) hx hb dX11_openOne_10 (by decide) ?_
        refine z_cVi (As := [.int y1, .int (0 : Int32)]) (rest := []) X (c_X11_segmentAt l dC dI cI cJ cS a u y1 (0 : Int32) _ hf) zc_X11_segmentAt q_ml_X11_53 ⟨rfl, rfl⟩ ⟨Nat.le_of_ble_eq_true rfl, Nat.le_of_ble_eq_true rfl⟩ hP [0, 1, 2, 3, 4, 5, 6, 7, 8] rfl 10 rfl rfl hl.1 rfl rfl (Nat.le_of_ble_eq_true rfl) ⟨Nat.zero_le _, Nat.zero_le _⟩ dX11_openOne_11 (fun r_3 hf => ?_)
        refine lv_iconst (v := 1) hx hb dX11_openOne_14 (by decide) ?_
        refine lv_icmp_ne (tgt := 20) hx hb dX11_openOne_15 (by decide) (fun c_4 => ?_) (fun c_4 => ?_)
        · have hf := hf.1 c_4
          obtain ⟨x_5, ex_5⟩ : ∃ y : Int32, y = y1 + (1 : Int32) := ⟨_, rfl⟩
          have hf := hf x_5 ex_5
          refine lv_iinc (v := x_5) (lv' := [(1, .int x_5), (0, .ref (a 0))]) hx hb dX11_openOne_20 hl (k := 1) rfl (by rw [ex_5]; rfl) (by decide) rfl (fun ls hl => ?_)
          refine lv_goto (tgt := 2) hx hb dX11_openOne_23 (by decide) ?_
          obtain ⟨k_6, hk_6, hf⟩ := hf
          exact (ih k_6 hk_6) _ ls hf (lv_sub hl [1, 0] rfl)
        · have hf := hf.2 c_4
          refine lv_iload_n hx hb dX11_openOne_18 rfl (lv_at hl 1 rfl) ?_
          exact z_retPi X hf dX11_openOne_19
  unfold t_X11_openOne_e at hf
  refine lv_iconst (v := 0) hx hb dX11_openOne_0 (by decide) ?_
  refine lv_istore_n (lv' := [(1, .int (0 : Int32)), (0, .ref (a 0))]) hx hb dX11_openOne_1 rfl hl (by decide) rfl (fun ls hl => ?_)
  obtain ⟨k_1, hf⟩ := hf
  exact (LP k_1) _ ls hf (lv_sub hl [1, 0] rfl)
def s_X11_openOne (u : zModel) (Q : Int32 → Prop) : Prop := ∃ v : zState, mOk v u.2.1 ∧ Q (nI (oN v))
theorem st_X11_openOne {u : zModel} {Q : Int32 → Prop} (h : s_X11_openOne u Q) : v_X11_openOne u Q := by
  obtain ⟨v, ⟨⟨ρ, β, mo, lm, L, S, M, B, hP⟩, hr⟩, h⟩ := h
  have hg := hP.2.2.2.2.2.1
  have ho : oN v < 12 := hg.1.2
  refine zlp1 (T := fun y K => t_X11_openOne_2 u y K Q) (E := fun K => t_X11_openOne_e u K Q) (oN v) (fun i => nI i) (fun K hK => hK) ?_ ?_
  · intro i hi K hK
    refine ⟨fun c => absurd c (ge12 (by omega)), fun _ => ⟨i, 0, by omega, by decide, rfl, rfl, fun c x e => ?_, fun c => ?_⟩⟩
    · rw [e, nI_1]; exact hK
    · rw [hr.2.1 i 0 (by omega) (by decide)] at c
      have : i = oN v := ((hg.2.2.1 i (by omega)).1).mp c
      omega
  · intro K
    refine ⟨fun c => absurd c (ge12 ho), fun _ => ⟨oN v, 0, ho, by decide, rfl, rfl, fun c => ?_, fun _ => h⟩⟩
    rw [hr.2.1 (oN v) 0 ho (by decide)] at c
    exact absurd (((hg.2.2.1 _ ho).1).mpr rfl) c
theorem c_X11_openOne (l : Launch) (dC : Nat → ClassId) (dI : Nat → Nat → Nat) (cI cJ cS : ClassId) (a : Nat → Nat) (u : zModel) (Q : Int32 → Prop) (hf : s_X11_openOne u Q) : Met l yX11_openOne (Cond.code yX11_openOne cX11_openOne 2 (some .int) :: zT) rm_X11_openOne (zPp dC dI cI cJ cS (cl_X11 cI cJ a u) [.ref (a 0)]) (vp_Si Q) 0 0 (fun _ => False) := by
  obtain ⟨I2, h2, hf⟩ := st_X11_openOne hf
  exact L_X11_openOne l dC dI cI cJ cS a u Q I2 h2 hf

def t_X11_freeOnes_e (u : zModel) (K4 : Int32 → Int32 → Prop) (Q : Int32 → Prop) : Prop := K4 (0 : Int32) (0 : Int32)
def t_X11_freeOnes_4 (u : zModel) (y1 : Int32) (y2 : Int32) (K4 : Int32 → Int32 → Prop) (Q : Int32 → Prop) : Prop := (((12 : Int32) ≤ y2 → Q y1) ∧ (¬ (12 : Int32) ≤ y2 → s_X11_segmentAt u y2 (0 : Int32) (fun r_3 : Int32 => ((¬ r_3 = 0 → ∀ x_5 : Int32, x_5 = (y1 + (0 : Int32)) → ∀ x_6 : Int32, x_6 = y2 + (1 : Int32) → K4 x_5 x_6) ∧ (r_3 = 0 → ∀ x_8 : Int32, x_8 = (y1 + (1 : Int32)) → ∀ x_9 : Int32, x_9 = y2 + (1 : Int32) → K4 x_8 x_9)))))
theorem zc_X11_freeOnes : zCalV RX11 yX11_freeOnes cX11_freeOnes 3 (some .int) 0 := ⟨q_im_X11_freeOnes, q_se_X11_freeOnes, q_in_X11, q_cd_X11_freeOnes, ⟨by decide, by decide, by decide +kernel⟩, rfl⟩
abbrev rm_X11_freeOnes : Room := { frames := 1, cells := 0, slots := 0, locals := 22 }
def v_X11_freeOnes (u : zModel) (Q : Int32 → Prop) : Prop := ∃ I4 : Nat → Int32 → Int32 → Prop, (∀ (n : Nat) (y1 : Int32) (y2 : Int32), I4 n y1 y2 → t_X11_freeOnes_4 u y1 y2 (fun q0 q1 => ∃ k : Nat, k < n ∧ I4 k q0 q1) Q) ∧ t_X11_freeOnes_e u (fun q0 q1 => ∃ k : Nat, I4 k q0 q1) Q
set_option maxHeartbeats 4000000 in
set_option maxRecDepth 100000 in
theorem L_X11_freeOnes (l : Launch) (dC : Nat → ClassId) (dI : Nat → Nat → Nat) (cI cJ cS : ClassId) (a : Nat → Nat) (u : zModel) (Q : Int32 → Prop) (I4 : Nat → Int32 → Int32 → Prop) (h4 : ∀ (n : Nat) (y1 : Int32) (y2 : Int32), I4 n y1 y2 → t_X11_freeOnes_4 u y1 y2 (fun q0 q1 => ∃ k : Nat, k < n ∧ I4 k q0 q1) Q) (hf : t_X11_freeOnes_e u (fun q0 q1 => ∃ k : Nat, I4 k q0 q1) Q) : Met l yX11_freeOnes (Cond.code yX11_freeOnes cX11_freeOnes 3 (some .int) :: zT) rm_X11_freeOnes (zPp dC dI cI cJ cS (cl_X11 cI cJ a u) [.ref (a 0)]) (vp_Si Q) 0 0 (fun _ => False) := by
  refine z_enterP (cc := cX11_freeOnes) (maxL := 3) (ret := (some .int)) (by decide) (Nat.le_of_ble_eq_true rfl) ?_
  intro p e s m below meth c ls X hP hl
  obtain ⟨⟨hx, hb, hml, hown, hts⟩, hr, hlk, hK⟩ := id X
  have hl : lv_has ls 3 [(0, .ref (a 0))] := hl
  have LP : ∀ n : Nat, (∀ (y1 : Int32) (y2 : Int32) (ls : Array Slot), I4 n y1 y2 → lv_has ls 3 [(0, .ref (a 0)), (1, .int y1), (2, .int y2)] → W p l e rm_X11_freeOnes s m [.ref (a 0)].toArray below meth c s.heap [] 0 0 (MQ below (vp_Si Q) [.ref (a 0)].toArray s 0 0 (fun _ => False)) (F0 m 4 ls [])) := by
    intro n
    induction n using Nat.strongRecOn with
    | _ n ih =>
      intro y1 y2 ls hI hl
      have hf := h4 n y1 y2 hI
      unfold t_X11_freeOnes_4 at hf
      refine lv_iload_n hx hb dX11_freeOnes_4 rfl (lv_at hl 2 rfl) ?_
      refine lv_bipush (v := 12) hx hb dX11_freeOnes_5 (by decide) ?_
      refine lv_icmp_ge (tgt := 33) hx hb dX11_freeOnes_7 (by decide) (fun c_2 => ?_) (fun c_2 => ?_)
      · have hf := hf.1 c_2
        refine lv_iload_n hx hb dX11_freeOnes_33 rfl (lv_at hl 1 rfl) ?_
        exact z_retPi X hf dX11_freeOnes_34
      · have hf := hf.2 c_2
        refine lv_iload_n hx hb dX11_freeOnes_10 rfl (lv_at hl 1 rfl) ?_
        refine lv_aload_n hx hb dX11_freeOnes_11 rfl (lv_at hl 0 rfl) ?_
        refine lv_iload_n hx hb dX11_freeOnes_12 rfl (lv_at hl 2 rfl) ?_
        refine lv_iconst (v := 0) hx hb dX11_freeOnes_13 (by decide) ?_
        refine z_cVi (As := [.int y2, .int (0 : Int32)]) (rest := [.int y1]) X (c_X11_segmentAt l dC dI cI cJ cS a u y2 (0 : Int32) _ hf) zc_X11_segmentAt q_ml_X11_53 ⟨rfl, rfl⟩ ⟨Nat.le_of_ble_eq_true rfl, Nat.le_of_ble_eq_true rfl⟩ hP [0, 1, 2, 3, 4, 5, 6, 7, 8] rfl 10 rfl rfl hl.1 rfl rfl (Nat.le_of_ble_eq_true rfl) ⟨Nat.zero_le _, Nat.zero_le _⟩ dX11_freeOnes_14 (fun r_3 hf => ?_)
        refine lv_if_ne (tgt := 24) hx hb dX11_freeOnes_17 (by decide) (fun c_4 => ?_) (fun c_4 => ?_)
        · have hf := hf.1 c_4
          refine lv_iconst (v := 0) hx hb dX11_freeOnes_24 (by decide) ?_
          refine lv_iadd hx hb dX11_freeOnes_25 ?_
          refine lv_topi (fun x_5 ex_5 => ?_)
          have hf := hf x_5 ex_5
          refine lv_istore_n (lv' := [(1, .int x_5), (0, .ref (a 0)), (2, .int y2)]) hx hb dX11_freeOnes_26 rfl hl (by decide) rfl (fun ls hl => ?_)
          obtain ⟨x_6, ex_6⟩ : ∃ y : Int32, y = y2 + (1 : Int32) := ⟨_, rfl⟩
          have hf := hf x_6 ex_6
          refine lv_iinc (v := x_6) (lv' := [(2, .int x_6), (1, .int x_5), (0, .ref (a 0))]) hx hb dX11_freeOnes_27 hl (k := 2) rfl (by rw [ex_6]; rfl) (by decide) rfl (fun ls hl => ?_)
          refine lv_goto (tgt := 4) hx hb dX11_freeOnes_30 (by decide) ?_
          obtain ⟨k_7, hk_7, hf⟩ := hf
          exact (ih k_7 hk_7) _ _ ls hf (lv_sub hl [2, 1, 0] rfl)
        · have hf := hf.2 c_4
          refine lv_iconst (v := 1) hx hb dX11_freeOnes_20 (by decide) ?_
          refine lv_goto (tgt := 25) hx hb dX11_freeOnes_21 (by decide) ?_
          refine lv_iadd hx hb dX11_freeOnes_25 ?_
          refine lv_topi (fun x_8 ex_8 => ?_)
          have hf := hf x_8 ex_8
          refine lv_istore_n (lv' := [(1, .int x_8), (0, .ref (a 0)), (2, .int y2)]) hx hb dX11_freeOnes_26 rfl hl (by decide) rfl (fun ls hl => ?_)
          obtain ⟨x_9, ex_9⟩ : ∃ y : Int32, y = y2 + (1 : Int32) := ⟨_, rfl⟩
          have hf := hf x_9 ex_9
          refine lv_iinc (v := x_9) (lv' := [(2, .int x_9), (1, .int x_8), (0, .ref (a 0))]) hx hb dX11_freeOnes_27 hl (k := 2) rfl (by rw [ex_9]; rfl) (by decide) rfl (fun ls hl => ?_)
          refine lv_goto (tgt := 4) hx hb dX11_freeOnes_30 (by decide) ?_
          obtain ⟨k_10, hk_10, hf⟩ := hf
          exact (ih k_10 hk_10) _ _ ls hf (lv_sub hl [2, 1, 0] rfl)
  unfold t_X11_freeOnes_e at hf
  refine lv_iconst (v := 0) hx hb dX11_freeOnes_0 (by decide) ?_
  refine lv_istore_n (lv' := [(1, .int (0 : Int32)), (0, .ref (a 0))]) hx hb dX11_freeOnes_1 rfl hl (by decide) rfl (fun ls hl => ?_)
  refine lv_iconst (v := 0) hx hb dX11_freeOnes_2 (by decide) ?_
  refine lv_istore_n (lv' := [(2, .int (0 : Int32)), (1, .int (0 : Int32)), (0, .ref (a 0))]) hx hb dX11_freeOnes_3 rfl hl (by decide) rfl (fun ls hl => ?_)
  obtain ⟨k_1, hf⟩ := hf
  exact (LP k_1) _ _ ls hf (lv_sub hl [2, 1, 0] rfl)
def s_X11_freeOnes (u : zModel) (Q : Int32 → Prop) : Prop := ∃ v : zState, mOk v u.2.1 ∧ Q (nI (uFree v))
theorem st_X11_freeOnes {u : zModel} {Q : Int32 → Prop} (h : s_X11_freeOnes u Q) : v_X11_freeOnes u Q := by
  obtain ⟨v, ⟨-, hr⟩, h⟩ := h
  refine zlp2 (T := fun y y' K => t_X11_freeOnes_4 u y y' K Q) (E := fun K => t_X11_freeOnes_e u K Q) 12 (fun i => nI (fa_cnt (fun s => decide (v.2.2.1.2.2.2.1 s = 0)) i)) (fun i => nI i) (fun K hK => hK) ?_ ?_
  · intro i hi K hK
    have e0 : u.2.1 (66 + 3 * i + 0) = v.2.2.1.2.2.2.1 i := hr.2.1 i 0 hi (by decide)
    refine ⟨fun c => absurd c (ge12 hi), fun _ => ⟨i, 0, hi, by decide, rfl, rfl, fun c x e x' e' => ?_, fun c x e x' e' => ?_⟩⟩
    · rw [e0] at c
      rw [e, e', nI_1, Int32.add_zero]
      rw [fa_cnt_no (p := fun s => decide (v.2.2.1.2.2.2.1 s = 0)) (decide_eq_false c)] at hK; exact hK
    · rw [e0] at c
      rw [e, e', nI_1, nI_1]
      rw [fa_cnt_yes (p := fun s => decide (v.2.2.1.2.2.2.1 s = 0)) (decide_eq_true c)] at hK; exact hK
  · intro K
    exact ⟨fun _ => h, fun c => absurd (le12 (Nat.le_refl _) (by decide)) c⟩
theorem c_X11_freeOnes (l : Launch) (dC : Nat → ClassId) (dI : Nat → Nat → Nat) (cI cJ cS : ClassId) (a : Nat → Nat) (u : zModel) (Q : Int32 → Prop) (hf : s_X11_freeOnes u Q) : Met l yX11_freeOnes (Cond.code yX11_freeOnes cX11_freeOnes 3 (some .int) :: zT) rm_X11_freeOnes (zPp dC dI cI cJ cS (cl_X11 cI cJ a u) [.ref (a 0)]) (vp_Si Q) 0 0 (fun _ => False) := by
  obtain ⟨I4, h4, hf⟩ := st_X11_freeOnes hf
  exact L_X11_freeOnes l dC dI cI cJ cS a u Q I4 h4 hf

def t_X11_hasRoom (u : zModel) (x1 : Int32) (Q : Int32 → Prop) : Prop := s_X11_openOne u (fun r_1 : Int32 => s_X11_segmentAt u r_1 (2 : Int32) (fun r_2 : Int32 => vp_in (0 : Int32) 5497 ∧ (((r_2 + x1) ≤ (u.2.1 (0 : Int32).toNatClampNeg) → Q (1 : Int32)) ∧ (¬ (r_2 + x1) ≤ (u.2.1 (0 : Int32).toNatClampNeg) → s_X11_freeOnes u (fun r_4 : Int32 => ((r_4 ≤ 0 → Q (0 : Int32)) ∧ (¬ r_4 ≤ 0 → Q (1 : Int32))))))))
theorem zc_X11_hasRoom : zCalV RX11 yX11_hasRoom cX11_hasRoom 2 (some .boolean) 1 := ⟨q_im_X11_hasRoom, q_se_X11_hasRoom, q_in_X11, q_cd_X11_hasRoom, ⟨by decide, by decide, by decide +kernel⟩, rfl⟩
abbrev rm_X11_hasRoom : Room := { frames := 2, cells := 0, slots := 0, locals := 44 }
set_option maxHeartbeats 4000000 in
set_option maxRecDepth 100000 in
theorem L_X11_hasRoom (l : Launch) (dC : Nat → ClassId) (dI : Nat → Nat → Nat) (cI cJ cS : ClassId) (a : Nat → Nat) (u : zModel) (x1 : Int32) (Q : Int32 → Prop) (hf : t_X11_hasRoom u x1 Q) : Met l yX11_hasRoom (Cond.code yX11_hasRoom cX11_hasRoom 2 (some .boolean) :: zT) rm_X11_hasRoom (zPp dC dI cI cJ cS (cl_X11 cI cJ a u) [.ref (a 0), .int x1]) (vp_Si (fun r => (r = 0 ∨ r = 1) ∧ Q r)) 0 0 (fun _ => False) := by
  refine z_enterP (cc := cX11_hasRoom) (maxL := 2) (ret := (some .boolean)) (by decide) (Nat.le_of_ble_eq_true rfl) ?_
  intro p e s m below meth c ls X hP hl
  obtain ⟨⟨hx, hb, hml, hown, hts⟩, hr, hlk, hK⟩ := id X
  have hl : lv_has ls 2 [(0, .ref (a 0)), (1, .int x1)] := hl
  unfold t_X11_hasRoom at hf
  refine lv_aload_n hx hb dX11_hasRoom_0 rfl (lv_at hl 0 rfl) ?_
  refine lv_aload_n hx hb dX11_hasRoom_1 rfl (lv_at hl 0 rfl) ?_
  refine z_cVi (As := []) (rest := [.ref (a 0)]) X (c_X11_openOne l dC dI cI cJ cS a u  _ hf) zc_X11_openOne q_ml_X11_56 ⟨rfl, rfl⟩ ⟨Nat.le_of_ble_eq_true rfl, Nat.le_of_ble_eq_true rfl⟩ hP [0, 1, 2, 3, 4, 5, 6, 7, 8] rfl 10 rfl rfl hl.1 rfl rfl (Nat.le_of_ble_eq_true rfl) ⟨Nat.zero_le _, Nat.zero_le _⟩ dX11_hasRoom_2 (fun r_1 hf => ?_)
  refine lv_iconst (v := 2) hx hb dX11_hasRoom_5 (by decide) ?_
  refine z_cVi (As := [.int r_1, .int (2 : Int32)]) (rest := []) X (c_X11_segmentAt l dC dI cI cJ cS a u r_1 (2 : Int32) _ hf) zc_X11_segmentAt q_ml_X11_53 ⟨rfl, rfl⟩ ⟨Nat.le_of_ble_eq_true rfl, Nat.le_of_ble_eq_true rfl⟩ hP [0, 1, 2, 3, 4, 5, 6, 7, 8] rfl 10 rfl rfl hl.1 rfl rfl (Nat.le_of_ble_eq_true rfl) ⟨Nat.zero_le _, Nat.zero_le _⟩ dX11_hasRoom_6 (fun r_2 hf => ?_)
  refine lv_iload_n hx hb dX11_hasRoom_9 rfl (lv_at hl 1 rfl) ?_
  refine lv_iadd hx hb dX11_hasRoom_10 ?_
  refine lv_aload_n hx hb dX11_hasRoom_11 rfl (lv_at hl 0 rfl) ?_
  refine va_get (D := (dC, dI)) (ci := 10) (v := .ref (a 1)) (C := RX11) (T := TX11) (N := 17) hx hb hts inX11 hown hK hP 0 rfl rfl 1 (by decide) (hts _ q_fl_X11_7) (fun _ h9 => h9) rfl dX11_hasRoom_12 ?_
  refine lv_iconst (v := 0) hx hb dX11_hasRoom_15 (by decide) ?_
  obtain ⟨hg, hf⟩ := hf
  refine va_iald hx hb hK hP 1 0 rfl rfl hg dX11_hasRoom_16 ?_
  refine lv_icmp_le (tgt := 27) hx hb dX11_hasRoom_17 (by decide) (fun c_3 => ?_) (fun c_3 => ?_)
  · have hf := hf.1 c_3
    refine lv_iconst (v := 1) hx hb dX11_hasRoom_27 (by decide) ?_
    refine lv_goto (tgt := 32) hx hb dX11_hasRoom_28 (by decide) ?_
    exact z_retPz X (Or.inr rfl) hf dX11_hasRoom_32
  · have hf := hf.2 c_3
    refine lv_aload_n hx hb dX11_hasRoom_20 rfl (lv_at hl 0 rfl) ?_
    refine z_cVi (As := []) (rest := []) X (c_X11_freeOnes l dC dI cI cJ cS a u  _ hf) zc_X11_freeOnes q_ml_X11_60 ⟨rfl, rfl⟩ ⟨Nat.le_of_ble_eq_true rfl, Nat.le_of_ble_eq_true rfl⟩ hP [0, 1, 2, 3, 4, 5, 6, 7, 8] rfl 10 rfl rfl hl.1 rfl rfl (Nat.le_of_ble_eq_true rfl) ⟨Nat.zero_le _, Nat.zero_le _⟩ dX11_hasRoom_21 (fun r_4 hf => ?_)
    refine lv_if_le (tgt := 31) hx hb dX11_hasRoom_24 (by decide) (fun c_5 => ?_) (fun c_5 => ?_)
    · have hf := hf.1 c_5
      refine lv_iconst (v := 0) hx hb dX11_hasRoom_31 (by decide) ?_
      exact z_retPz X (Or.inl rfl) hf dX11_hasRoom_32
    · have hf := hf.2 c_5
      refine lv_iconst (v := 1) hx hb dX11_hasRoom_27 (by decide) ?_
      refine lv_goto (tgt := 32) hx hb dX11_hasRoom_28 (by decide) ?_
      exact z_retPz X (Or.inr rfl) hf dX11_hasRoom_32
theorem uFree_pos (v : zState) : 0 < uFree v ↔ uFst v < 12 := by
  constructor
  · intro h
    by_cases q : uFst v < 12
    · exact q
    · have hle := fa_first_le (fun s => decide (v.2.2.1.2.2.2.1 s = 0)) 12
      have : uFree v = 0 := by
        have e : fa_cnt (fun s => decide (v.2.2.1.2.2.2.1 s = 0)) 12 = fa_cnt (fun _ => false) 12 := fa_cnt_cong (fun k hk => fa_first_no (fun s => decide (v.2.2.1.2.2.2.1 s = 0)) 12 k (by
          have : fa_first (fun s => decide (v.2.2.1.2.2.2.1 s = 0)) 12 = 12 := by unfold uFst at q; omega
          rw [this]; exact hk))
        show fa_cnt _ 12 = 0
        rw [e]; decide
      omega
  · intro h
    by_cases q : 0 < uFree v
    · exact q
    · have h0 : fa_cnt (fun s => decide (v.2.2.1.2.2.2.1 s = 0)) 12 = 0 := by unfold uFree at q; omega
      have := fa_cnt_0 h0 (uFst v) h
      exact absurd (uFst_0 h) (of_decide_eq_false this)
def s_X11_hasRoom (u : zModel) (x1 : Int32) (Q : Int32 → Prop) : Prop := ∃ (v : zState) (z : Nat), mOk v u.2.1 ∧ z ≤ 100 ∧ x1 = nI z ∧ (uFits v (nI z) = true → Q 1) ∧ (uFits v (nI z) = false → Q 0)
theorem st_X11_hasRoom {u : zModel} {x1 : Int32} {Q : Int32 → Prop} (h : s_X11_hasRoom u x1 Q) : t_X11_hasRoom u x1 Q := by
  obtain ⟨v, z, hm, hz, rfl, h1, h0⟩ := h
  obtain ⟨⟨ρ, β, mo, lm, L, S, M, B, hP⟩, hr⟩ := id hm
  have hg := hP.2.2.2.2.2.1
  have ho : oN v < 12 := hg.1.2
  have htk := hg.2.2.2.1 _ hg.1.2
  have hρ := hP.1
  have e2 : u.2.1 (66 + 3 * oN v + 2) = nI (gB v.2.2.1 (gO v.2.2.1) (gN v.2.2.1 (gO v.2.2.1))) := (hr.2.1 (oN v) 2 ho (by decide)).trans htk.1
  have e0 : u.2.1 0 = nI ρ := (hr.1 0 (by decide)).trans hρ.1
  have hleft : uLeft v = nI (ρ - gB v.2.2.1 (gO v.2.2.1) (gN v.2.2.1 (gO v.2.2.1))) := by
    show v.1.1 - v.2.2.1.2.2.1 (gO v.2.2.1) = _
    rw [hρ.1, htk.1]
    exact lN_subI htk.2
  have hle := htk.2
  refine ⟨v, hm, oN v, 2, ho, by decide, rfl, rfl, n_in0 (by decide) (by decide), ?_⟩
  rw [e2, n_c0, e0, nI_add]
  have key : (nI (gB v.2.2.1 (gO v.2.2.1) (gN v.2.2.1 (gO v.2.2.1)) + z) ≤ nI ρ) ↔ nI z ≤ uLeft v := by
    rw [hleft, nI_leI (by omega) (by omega), nI_leI (by omega) (by omega)]
    omega
  have hfl := fa_cnt_le (fun s => decide (v.2.2.1.2.2.2.1 s = 0)) 12
  refine ⟨fun c => h1 (decide_eq_true (Or.inl (key.mp c))), fun c => ⟨v, hm, fun c2 => h0 (decide_eq_false (fun q => ?_)), fun c2 => h1 (decide_eq_true (Or.inr ?_))⟩⟩
  · rcases q with q | q
    · exact c (key.mpr q)
    · have h3 := (uFree_pos v).mpr q
      have := (nI_leI (a := uFree v) (b := 0) (by unfold uFree; omega) (by decide)).mp c2
      omega
  · apply (uFree_pos v).mp
    by_cases q : uFree v = 0
    · rw [q] at c2; exact absurd (by decide) c2
    · omega
theorem c_X11_hasRoom (l : Launch) (dC : Nat → ClassId) (dI : Nat → Nat → Nat) (cI cJ cS : ClassId) (a : Nat → Nat) (u : zModel) (x1 : Int32) (Q : Int32 → Prop) (hf : s_X11_hasRoom u x1 Q) : Met l yX11_hasRoom (Cond.code yX11_hasRoom cX11_hasRoom 2 (some .boolean) :: zT) rm_X11_hasRoom (zPp dC dI cI cJ cS (cl_X11 cI cJ a u) [.ref (a 0), .int x1]) (vp_Si (fun r => (r = 0 ∨ r = 1) ∧ Q r)) 0 0 (fun _ => False) := L_X11_hasRoom l dC dI cI cJ cS a u x1 Q (st_X11_hasRoom hf)

def t_X11_leastFree_e (u : zModel) (K2 : Int32 → Prop) (Q : Int32 → Prop) : Prop := K2 (0 : Int32)
def t_X11_leastFree_2 (u : zModel) (y1 : Int32) (K2 : Int32 → Prop) (Q : Int32 → Prop) : Prop := s_X11_segmentAt u y1 (0 : Int32) (fun r_2 : Int32 => ((r_2 = 0 → Q y1) ∧ (¬ r_2 = 0 → ∀ x_4 : Int32, x_4 = y1 + (1 : Int32) → K2 x_4)))
theorem zc_X11_leastFree : zCalV RX11 yX11_leastFree cX11_leastFree 2 (some .int) 0 := ⟨q_im_X11_leastFree, q_se_X11_leastFree, q_in_X11, q_cd_X11_leastFree, ⟨by decide, by decide, by decide +kernel⟩, rfl⟩
abbrev rm_X11_leastFree : Room := { frames := 1, cells := 0, slots := 0, locals := 22 }
def v_X11_leastFree (u : zModel) (Q : Int32 → Prop) : Prop := ∃ I2 : Nat → Int32 → Prop, (∀ (n : Nat) (y1 : Int32), I2 n y1 → t_X11_leastFree_2 u y1 (fun q0 => ∃ k : Nat, k < n ∧ I2 k q0) Q) ∧ t_X11_leastFree_e u (fun q0 => ∃ k : Nat, I2 k q0) Q
set_option maxHeartbeats 4000000 in
set_option maxRecDepth 100000 in
theorem L_X11_leastFree (l : Launch) (dC : Nat → ClassId) (dI : Nat → Nat → Nat) (cI cJ cS : ClassId) (a : Nat → Nat) (u : zModel) (Q : Int32 → Prop) (I2 : Nat → Int32 → Prop) (h2 : ∀ (n : Nat) (y1 : Int32), I2 n y1 → t_X11_leastFree_2 u y1 (fun q0 => ∃ k : Nat, k < n ∧ I2 k q0) Q) (hf : t_X11_leastFree_e u (fun q0 => ∃ k : Nat, I2 k q0) Q) : Met l yX11_leastFree (Cond.code yX11_leastFree cX11_leastFree 2 (some .int) :: zT) rm_X11_leastFree (zPp dC dI cI cJ cS (cl_X11 cI cJ a u) [.ref (a 0)]) (vp_Si Q) 0 0 (fun _ => False) := by
  refine z_enterP (cc := cX11_leastFree) (maxL := 2) (ret := (some .int)) (by decide) (Nat.le_of_ble_eq_true rfl) ?_
  intro p e s m below meth c ls X hP hl
  obtain ⟨⟨hx, hb, hml, hown, hts⟩, hr, hlk, hK⟩ := id X
  have hl : lv_has ls 2 [(0, .ref (a 0))] := hl
  have LP : ∀ n : Nat, (∀ (y1 : Int32) (ls : Array Slot), I2 n y1 → lv_has ls 2 [(0, .ref (a 0)), (1, .int y1)] → W p l e rm_X11_leastFree s m [.ref (a 0)].toArray below meth c s.heap [] 0 0 (MQ below (vp_Si Q) [.ref (a 0)].toArray s 0 0 (fun _ => False)) (F0 m 2 ls [])) := by
    intro n
    induction n using Nat.strongRecOn with
    | _ n ih =>
      intro y1 ls hI hl
      have hf := h2 n y1 hI
      unfold t_X11_leastFree_2 at hf
      refine lv_aload_n hx hb dX11_leastFree_2 rfl (lv_at hl 0 rfl) ?_
      refine lv_iload_n hx hb dX11_leastFree_3 rfl (lv_at hl 1 rfl) ?_
      refine lv_iconst (v := 0) hx hb dX11_leastFree_4 (by decide) ?_
      refine z_cVi (As := [.int y1, .int (0 : Int32)]) (rest := []) X (c_X11_segmentAt l dC dI cI cJ cS a u y1 (0 : Int32) _ hf) zc_X11_segmentAt q_ml_X11_53 ⟨rfl, rfl⟩ ⟨Nat.le_of_ble_eq_true rfl, Nat.le_of_ble_eq_true rfl⟩ hP [0, 1, 2, 3, 4, 5, 6, 7, 8] rfl 10 rfl rfl hl.1 rfl rfl (Nat.le_of_ble_eq_true rfl) ⟨Nat.zero_le _, Nat.zero_le _⟩ dX11_leastFree_5 (fun r_2 hf => ?_)
      refine lv_if_eq (tgt := 17) hx hb dX11_leastFree_8 (by decide) (fun c_3 => ?_) (fun c_3 => ?_)
      · have hf := hf.1 c_3
        refine lv_iload_n hx hb dX11_leastFree_17 rfl (lv_at hl 1 rfl) ?_
        exact z_retPi X hf dX11_leastFree_18
      · have hf := hf.2 c_3
        obtain ⟨x_4, ex_4⟩ : ∃ y : Int32, y = y1 + (1 : Int32) := ⟨_, rfl⟩
        have hf := hf x_4 ex_4
        refine lv_iinc (v := x_4) (lv' := [(1, .int x_4), (0, .ref (a 0))]) hx hb dX11_leastFree_11 hl (k := 1) rfl (by rw [ex_4]; rfl) (by decide) rfl (fun ls hl => ?_)
        refine lv_goto (tgt := 2) hx hb dX11_leastFree_14 (by decide) ?_
        obtain ⟨k_5, hk_5, hf⟩ := hf
        exact (ih k_5 hk_5) _ ls hf (lv_sub hl [1, 0] rfl)
  unfold t_X11_leastFree_e at hf
  refine lv_iconst (v := 0) hx hb dX11_leastFree_0 (by decide) ?_
  refine lv_istore_n (lv' := [(1, .int (0 : Int32)), (0, .ref (a 0))]) hx hb dX11_leastFree_1 rfl hl (by decide) rfl (fun ls hl => ?_)
  obtain ⟨k_1, hf⟩ := hf
  exact (LP k_1) _ ls hf (lv_sub hl [1, 0] rfl)
def s_X11_leastFree (u : zModel) (Q : Int32 → Prop) : Prop := ∃ n : Nat, n < 12 ∧ u.2.1 (66 + 3 * n + 0) = 0 ∧ (∀ i, i < n → ¬ u.2.1 (66 + 3 * i + 0) = 0) ∧ Q (nI n)
theorem st_X11_leastFree {u : zModel} {Q : Int32 → Prop} (h : s_X11_leastFree u Q) : v_X11_leastFree u Q := by
  obtain ⟨n, hn, h0, hi, h⟩ := h
  refine zlp1 (T := fun y K => t_X11_leastFree_2 u y K Q) (E := fun K => t_X11_leastFree_e u K Q) n (fun i => nI i) (fun K hK => hK) ?_ ?_
  · intro i hlt K hK
    refine ⟨i, 0, by omega, by decide, rfl, rfl, fun c => absurd c (hi i hlt), fun c x e => ?_⟩
    rw [e, nI_1]; exact hK
  · intro K
    exact ⟨n, 0, hn, by decide, rfl, rfl, fun _ => h, fun c => absurd h0 c⟩
theorem c_X11_leastFree (l : Launch) (dC : Nat → ClassId) (dI : Nat → Nat → Nat) (cI cJ cS : ClassId) (a : Nat → Nat) (u : zModel) (Q : Int32 → Prop) (hf : s_X11_leastFree u Q) : Met l yX11_leastFree (Cond.code yX11_leastFree cX11_leastFree 2 (some .int) :: zT) rm_X11_leastFree (zPp dC dI cI cJ cS (cl_X11 cI cJ a u) [.ref (a 0)]) (vp_Si Q) 0 0 (fun _ => False) := by
  obtain ⟨I2, h2, hf⟩ := st_X11_leastFree hf
  exact L_X11_leastFree l dC dI cI cJ cS a u Q I2 h2 hf

def s_X11_entryAt (x0 : Int32) (x1 : Int32) (Q : Int32 → Prop) : Prop := Q ((3102 : Int32) + ((6 : Int32) * (((64 : Int32) * x0) + x1)))
theorem zc_X11_entryAt : zCalS yX11_entryAt cX11_entryAt 2 (some .int) 2 := ⟨q_st_X11_entryAt, q_in_X11, q_cd_X11_entryAt, ⟨by decide, by decide, by decide +kernel⟩⟩
abbrev rm_X11_entryAt : Room := { frames := 0, cells := 0, slots := 0, locals := 0 }
set_option maxHeartbeats 4000000 in
set_option maxRecDepth 100000 in
theorem c_X11_entryAt (l : Launch) (dC : Nat → ClassId) (dI : Nat → Nat → Nat) (cI cJ cS : ClassId) (x0 : Int32) (x1 : Int32) (Q : Int32 → Prop) (hf : s_X11_entryAt x0 x1 Q) : Met l yX11_entryAt (Cond.code yX11_entryAt cX11_entryAt 2 (some .int) :: zT) rm_X11_entryAt (zPp dC dI cI cJ cS ([]) [.int x0, .int x1]) (vp_Si Q) 0 0 (fun _ => False) := by
  refine z_enterP (cc := cX11_entryAt) (maxL := 2) (ret := (some .int)) (by decide) (Nat.le_of_ble_eq_true rfl) ?_
  intro p e s m below meth c ls X hP hl
  obtain ⟨⟨hx, hb, hml, hown, hts⟩, hr, hlk, hK⟩ := id X
  have hl : lv_has ls 2 [(0, .int x0), (1, .int x1)] := hl
  unfold s_X11_entryAt at hf
  refine lv_sipush (v := 3102) hx hb dX11_entryAt_0 (by decide) ?_
  refine lv_bipush (v := 6) hx hb dX11_entryAt_3 (by decide) ?_
  refine lv_bipush (v := 64) hx hb dX11_entryAt_5 (by decide) ?_
  refine lv_iload_n hx hb dX11_entryAt_7 rfl (lv_at hl 0 rfl) ?_
  refine lv_imul hx hb dX11_entryAt_8 ?_
  refine lv_iload_n hx hb dX11_entryAt_9 rfl (lv_at hl 1 rfl) ?_
  refine lv_iadd hx hb dX11_entryAt_10 ?_
  refine lv_imul hx hb dX11_entryAt_11 ?_
  refine lv_iadd hx hb dX11_entryAt_12 ?_
  exact z_retPi X hf dX11_entryAt_13

def t_X11_hasEntry (u : zModel) (x1 : Int32) (x2 : Int32) (Q : Int32 → Prop) : Prop := s_X11_entryAt x1 x2 (fun r_1 : Int32 => vp_in (r_1 + (1 : Int32)) 5497 ∧ (((u.2.1 (r_1 + (1 : Int32)).toNatClampNeg) ≤ 0 → Q (0 : Int32)) ∧ (¬ (u.2.1 (r_1 + (1 : Int32)).toNatClampNeg) ≤ 0 → Q (1 : Int32))))
theorem zc_X11_hasEntry : zCalV RX11 yX11_hasEntry cX11_hasEntry 3 (some .boolean) 2 := ⟨q_im_X11_hasEntry, q_se_X11_hasEntry, q_in_X11, q_cd_X11_hasEntry, ⟨by decide, by decide, by decide +kernel⟩, rfl⟩
abbrev rm_X11_hasEntry : Room := { frames := 1, cells := 0, slots := 0, locals := 21 }
set_option maxHeartbeats 4000000 in
set_option maxRecDepth 100000 in
theorem L_X11_hasEntry (l : Launch) (dC : Nat → ClassId) (dI : Nat → Nat → Nat) (cI cJ cS : ClassId) (a : Nat → Nat) (u : zModel) (x1 : Int32) (x2 : Int32) (Q : Int32 → Prop) (hf : t_X11_hasEntry u x1 x2 Q) : Met l yX11_hasEntry (Cond.code yX11_hasEntry cX11_hasEntry 3 (some .boolean) :: zT) rm_X11_hasEntry (zPp dC dI cI cJ cS (cl_X11 cI cJ a u) [.ref (a 0), .int x1, .int x2]) (vp_Si (fun r => (r = 0 ∨ r = 1) ∧ Q r)) 0 0 (fun _ => False) := by
  refine z_enterP (cc := cX11_hasEntry) (maxL := 3) (ret := (some .boolean)) (by decide) (Nat.le_of_ble_eq_true rfl) ?_
  intro p e s m below meth c ls X hP hl
  obtain ⟨⟨hx, hb, hml, hown, hts⟩, hr, hlk, hK⟩ := id X
  have hl : lv_has ls 3 [(0, .ref (a 0)), (1, .int x1), (2, .int x2)] := hl
  unfold t_X11_hasEntry at hf
  refine lv_aload_n hx hb dX11_hasEntry_0 rfl (lv_at hl 0 rfl) ?_
  refine va_get (D := (dC, dI)) (ci := 10) (v := .ref (a 1)) (C := RX11) (T := TX11) (N := 17) hx hb hts inX11 hown hK hP 0 rfl rfl 1 (by decide) (hts _ q_fl_X11_7) (fun _ h9 => h9) rfl dX11_hasEntry_1 ?_
  refine lv_iload_n hx hb dX11_hasEntry_4 rfl (lv_at hl 1 rfl) ?_
  refine lv_iload_n hx hb dX11_hasEntry_5 rfl (lv_at hl 2 rfl) ?_
  refine z_cSi (As := [.int x1, .int x2]) (rest := [.ref (a 1)]) X (c_X11_entryAt l dC dI cI cJ cS   x1 x2 _ hf) zc_X11_entryAt q_ml_X11_63 ⟨rfl, rfl⟩ ⟨Nat.le_of_ble_eq_true rfl, Nat.le_of_ble_eq_true rfl⟩ hP [] rfl hl.1 rfl rfl (Nat.le_of_ble_eq_true rfl) ⟨Nat.zero_le _, Nat.zero_le _⟩ dX11_hasEntry_6 (fun r_1 hf => ?_)
  refine lv_iconst (v := 1) hx hb dX11_hasEntry_9 (by decide) ?_
  refine lv_iadd hx hb dX11_hasEntry_10 ?_
  obtain ⟨hg, hf⟩ := hf
  refine va_iald hx hb hK hP 1 0 rfl rfl hg dX11_hasEntry_11 ?_
  refine lv_if_le (tgt := 19) hx hb dX11_hasEntry_12 (by decide) (fun c_2 => ?_) (fun c_2 => ?_)
  · have hf := hf.1 c_2
    refine lv_iconst (v := 0) hx hb dX11_hasEntry_19 (by decide) ?_
    exact z_retPz X (Or.inl rfl) hf dX11_hasEntry_20
  · have hf := hf.2 c_2
    refine lv_iconst (v := 1) hx hb dX11_hasEntry_15 (by decide) ?_
    refine lv_goto (tgt := 20) hx hb dX11_hasEntry_16 (by decide) ?_
    exact z_retPz X (Or.inr rfl) hf dX11_hasEntry_20
def s_X11_hasEntry (u : zModel) (x1 x2 : Int32) (Q : Int32 → Prop) : Prop := ∃ t k : Nat, t < 6 ∧ k < 64 ∧ x1 = nI t ∧ x2 = nI k ∧ (u.2.1 (3102 + 6 * (64 * t + k) + 1) ≤ 0 → Q 0) ∧ (¬ u.2.1 (3102 + 6 * (64 * t + k) + 1) ≤ 0 → Q 1)
theorem st_X11_hasEntry {u : zModel} {x1 x2 : Int32} {Q : Int32 → Prop} (h : s_X11_hasEntry u x1 x2 Q) : t_X11_hasEntry u x1 x2 Q := by
  obtain ⟨t, k, ht, hk, rfl, rfl, h⟩ := h
  unfold t_X11_hasEntry s_X11_entryAt
  rw [ix_ent]
  dsimp only
  rw [nI_1, nI_clamp (by omega)]
  exact ⟨vp_in_nI (by omega) (by decide), h⟩
theorem c_X11_hasEntry (l : Launch) (dC : Nat → ClassId) (dI : Nat → Nat → Nat) (cI cJ cS : ClassId) (a : Nat → Nat) (u : zModel) (x1 : Int32) (x2 : Int32) (Q : Int32 → Prop) (hf : s_X11_hasEntry u x1 x2 Q) : Met l yX11_hasEntry (Cond.code yX11_hasEntry cX11_hasEntry 3 (some .boolean) :: zT) rm_X11_hasEntry (zPp dC dI cI cJ cS (cl_X11 cI cJ a u) [.ref (a 0), .int x1, .int x2]) (vp_Si (fun r => (r = 0 ∨ r = 1) ∧ Q r)) 0 0 (fun _ => False) := L_X11_hasEntry l dC dI cI cJ cS a u x1 x2 Q (st_X11_hasEntry hf)

def t_X11_entries_e (u : zModel) (x1 : Int32) (K4 : Int32 → Int32 → Prop) (Q : Int32 → Prop) : Prop := K4 (0 : Int32) (0 : Int32)
def t_X11_entries_4 (u : zModel) (x1 : Int32) (y2 : Int32) (y3 : Int32) (K4 : Int32 → Int32 → Prop) (Q : Int32 → Prop) : Prop := (((64 : Int32) ≤ y3 → Q y2) ∧ (¬ (64 : Int32) ≤ y3 → s_X11_hasEntry u x1 y3 (fun r_3 : Int32 => ((r_3 = 0 → ∀ x_5 : Int32, x_5 = (y2 + (0 : Int32)) → ∀ x_6 : Int32, x_6 = y3 + (1 : Int32) → K4 x_5 x_6) ∧ (¬ r_3 = 0 → ∀ x_8 : Int32, x_8 = (y2 + (1 : Int32)) → ∀ x_9 : Int32, x_9 = y3 + (1 : Int32) → K4 x_8 x_9)))))
theorem zc_X11_entries : zCalV RX11 yX11_entries cX11_entries 4 (some .int) 1 := ⟨q_im_X11_entries, q_se_X11_entries, q_in_X11, q_cd_X11_entries, ⟨by decide, by decide, by decide +kernel⟩, rfl⟩
abbrev rm_X11_entries : Room := { frames := 2, cells := 0, slots := 0, locals := 43 }
def v_X11_entries (u : zModel) (x1 : Int32) (Q : Int32 → Prop) : Prop := ∃ I4 : Nat → Int32 → Int32 → Prop, (∀ (n : Nat) (y2 : Int32) (y3 : Int32), I4 n y2 y3 → t_X11_entries_4 u x1 y2 y3 (fun q0 q1 => ∃ k : Nat, k < n ∧ I4 k q0 q1) Q) ∧ t_X11_entries_e u x1 (fun q0 q1 => ∃ k : Nat, I4 k q0 q1) Q
set_option maxHeartbeats 4000000 in
set_option maxRecDepth 100000 in
theorem L_X11_entries (l : Launch) (dC : Nat → ClassId) (dI : Nat → Nat → Nat) (cI cJ cS : ClassId) (a : Nat → Nat) (u : zModel) (x1 : Int32) (Q : Int32 → Prop) (I4 : Nat → Int32 → Int32 → Prop) (h4 : ∀ (n : Nat) (y2 : Int32) (y3 : Int32), I4 n y2 y3 → t_X11_entries_4 u x1 y2 y3 (fun q0 q1 => ∃ k : Nat, k < n ∧ I4 k q0 q1) Q) (hf : t_X11_entries_e u x1 (fun q0 q1 => ∃ k : Nat, I4 k q0 q1) Q) : Met l yX11_entries (Cond.code yX11_entries cX11_entries 4 (some .int) :: zT) rm_X11_entries (zPp dC dI cI cJ cS (cl_X11 cI cJ a u) [.ref (a 0), .int x1]) (vp_Si Q) 0 0 (fun _ => False) := by
  refine z_enterP (cc := cX11_entries) (maxL := 4) (ret := (some .int)) (by decide) (Nat.le_of_ble_eq_true rfl) ?_
  intro p e s m below meth c ls X hP hl
  obtain ⟨⟨hx, hb, hml, hown, hts⟩, hr, hlk, hK⟩ := id X
  have hl : lv_has ls 4 [(0, .ref (a 0)), (1, .int x1)] := hl
  have LP : ∀ n : Nat, (∀ (y2 : Int32) (y3 : Int32) (ls : Array Slot), I4 n y2 y3 → lv_has ls 4 [(0, .ref (a 0)), (1, .int x1), (2, .int y2), (3, .int y3)] → W p l e rm_X11_entries s m [.ref (a 0), .int x1].toArray below meth c s.heap [] 0 0 (MQ below (vp_Si Q) [.ref (a 0), .int x1].toArray s 0 0 (fun _ => False)) (F0 m 4 ls [])) := by
    intro n
    induction n using Nat.strongRecOn with
    | _ n ih =>
      intro y2 y3 ls hI hl
      have hf := h4 n y2 y3 hI
      unfold t_X11_entries_4 at hf
      refine lv_iload_n hx hb dX11_entries_4 rfl (lv_at hl 3 rfl) ?_
      refine lv_bipush (v := 64) hx hb dX11_entries_5 (by decide) ?_
      refine lv_icmp_ge (tgt := 33) hx hb dX11_entries_7 (by decide) (fun c_2 => ?_) (fun c_2 => ?_)
      · have hf := hf.1 c_2
        refine lv_iload_n hx hb dX11_entries_33 rfl (lv_at hl 2 rfl) ?_
        exact z_retPi X hf dX11_entries_34
      · have hf := hf.2 c_2
        refine lv_iload_n hx hb dX11_entries_10 rfl (lv_at hl 2 rfl) ?_
        refine lv_aload_n hx hb dX11_entries_11 rfl (lv_at hl 0 rfl) ?_
        refine lv_iload_n hx hb dX11_entries_12 rfl (lv_at hl 1 rfl) ?_
        refine lv_iload_n hx hb dX11_entries_13 rfl (lv_at hl 3 rfl) ?_
        refine z_cVi (As := [.int x1, .int y3]) (rest := [.int y2]) X (c_X11_hasEntry l dC dI cI cJ cS a u x1 y3 _ hf) zc_X11_hasEntry q_ml_X11_66 ⟨rfl, rfl⟩ ⟨Nat.le_of_ble_eq_true rfl, Nat.le_of_ble_eq_true rfl⟩ hP [0, 1, 2, 3, 4, 5, 6, 7, 8] rfl 10 rfl rfl hl.1 rfl rfl (Nat.le_of_ble_eq_true rfl) ⟨Nat.zero_le _, Nat.zero_le _⟩ dX11_entries_14 (fun r_3 hf => ?_)
        obtain ⟨hbr_3, hf⟩ := hf
        refine lv_if_eq (tgt := 24) hx hb dX11_entries_17 (by decide) (fun c_4 => ?_) (fun c_4 => ?_)
        · have hf := hf.1 c_4
          refine lv_iconst (v := 0) hx hb dX11_entries_24 (by decide) ?_
          refine lv_iadd hx hb dX11_entries_25 ?_
          refine lv_topi (fun x_5 ex_5 => ?_)
          have hf := hf x_5 ex_5
          refine lv_istore_n (lv' := [(2, .int x_5), (0, .ref (a 0)), (1, .int x1), (3, .int y3)]) hx hb dX11_entries_26 rfl hl (by decide) rfl (fun ls hl => ?_)
          obtain ⟨x_6, ex_6⟩ : ∃ y : Int32, y = y3 + (1 : Int32) := ⟨_, rfl⟩
          have hf := hf x_6 ex_6
          refine lv_iinc (v := x_6) (lv' := [(3, .int x_6), (2, .int x_5), (0, .ref (a 0)), (1, .int x1)]) hx hb dX11_entries_27 hl (k := 3) rfl (by rw [ex_6]; rfl) (by decide) rfl (fun ls hl => ?_)
          refine lv_goto (tgt := 4) hx hb dX11_entries_30 (by decide) ?_
          obtain ⟨k_7, hk_7, hf⟩ := hf
          exact (ih k_7 hk_7) _ _ ls hf (lv_sub hl [2, 3, 1, 0] rfl)
        · have hf := hf.2 c_4
          refine lv_iconst (v := 1) hx hb dX11_entries_20 (by decide) ?_
          refine lv_goto (tgt := 25) hx hb dX11_entries_21 (by decide) ?_
          refine lv_iadd hx hb dX11_entries_25 ?_
          refine lv_topi (fun x_8 ex_8 => ?_)
          have hf := hf x_8 ex_8
          refine lv_istore_n (lv' := [(2, .int x_8), (0, .ref (a 0)), (1, .int x1), (3, .int y3)]) hx hb dX11_entries_26 rfl hl (by decide) rfl (fun ls hl => ?_)
          obtain ⟨x_9, ex_9⟩ : ∃ y : Int32, y = y3 + (1 : Int32) := ⟨_, rfl⟩
          have hf := hf x_9 ex_9
          refine lv_iinc (v := x_9) (lv' := [(3, .int x_9), (2, .int x_8), (0, .ref (a 0)), (1, .int x1)]) hx hb dX11_entries_27 hl (k := 3) rfl (by rw [ex_9]; rfl) (by decide) rfl (fun ls hl => ?_)
          refine lv_goto (tgt := 4) hx hb dX11_entries_30 (by decide) ?_
          obtain ⟨k_10, hk_10, hf⟩ := hf
          exact (ih k_10 hk_10) _ _ ls hf (lv_sub hl [2, 3, 1, 0] rfl)
  unfold t_X11_entries_e at hf
  refine lv_iconst (v := 0) hx hb dX11_entries_0 (by decide) ?_
  refine lv_istore_n (lv' := [(2, .int (0 : Int32)), (0, .ref (a 0)), (1, .int x1)]) hx hb dX11_entries_1 rfl hl (by decide) rfl (fun ls hl => ?_)
  refine lv_iconst (v := 0) hx hb dX11_entries_2 (by decide) ?_
  refine lv_istore_n (lv' := [(3, .int (0 : Int32)), (2, .int (0 : Int32)), (0, .ref (a 0)), (1, .int x1)]) hx hb dX11_entries_3 rfl hl (by decide) rfl (fun ls hl => ?_)
  obtain ⟨k_1, hf⟩ := hf
  exact (LP k_1) _ _ ls hf (lv_sub hl [2, 3, 1, 0] rfl)
def s_X11_entries (u : zModel) (x1 : Int32) (Q : Int32 → Prop) : Prop := ∃ t : Nat, t < 6 ∧ x1 = nI t ∧ Q (nI (fa_cnt (fun k => decide (¬ u.2.1 (3102 + 6 * (64 * t + k) + 1) ≤ 0)) 64))
theorem st_X11_entries {u : zModel} {x1 : Int32} {Q : Int32 → Prop} (h : s_X11_entries u x1 Q) : v_X11_entries u x1 Q := by
  obtain ⟨t, ht, rfl, h⟩ := h
  refine zlp2 (T := fun y y' K => t_X11_entries_4 u (nI t) y y' K Q) (E := fun K => t_X11_entries_e u (nI t) K Q) 64 (fun i => nI (fa_cnt (fun k => decide (¬ u.2.1 (3102 + 6 * (64 * t + k) + 1) ≤ 0)) i)) (fun i => nI i) (fun K hK => hK) ?_ ?_
  · intro i hi K hK
    refine ⟨fun c => absurd c (ge64 hi), fun _ => ⟨t, i, ht, hi, rfl, rfl, fun d => ⟨fun _ x e x' e' => ?_, fun q => absurd rfl q⟩, fun d => ⟨fun q => absurd q (by decide), fun _ x e x' e' => ?_⟩⟩⟩
    · rw [e, e', nI_1, Int32.add_zero]
      rw [fa_cnt_no (p := fun k => decide (¬ u.2.1 (3102 + 6 * (64 * t + k) + 1) ≤ 0)) (decide_eq_false (fun q => q d))] at hK; exact hK
    · rw [e, e', nI_1, nI_1]
      rw [fa_cnt_yes (p := fun k => decide (¬ u.2.1 (3102 + 6 * (64 * t + k) + 1) ≤ 0)) (decide_eq_true d)] at hK; exact hK
  · intro K
    exact ⟨fun _ => h, fun c => absurd (le64 (Nat.le_refl _) (by decide)) c⟩
/-- entries of a level, as the State has them -/
theorem entries_rel {v : zState} {m : Nat → Int32} (hr : mRel v m) {t : Nat} (ht : t ≤ tR v.2.2.2.1) : fa_cnt (fun k => decide (¬ m (3102 + 6 * (64 * t + k) + 1) ≤ 0)) 64 = fa_cnt (fun k => zHas v.2.2.2.1.1 t k) 64 := by
  apply fa_cnt_cong
  intro k hk
  show decide (¬ m (3102 + 6 * (64 * t + k) + 1) ≤ 0) = decide (¬ v.2.2.2.1.1 (64 * t + k) = 0)
  rw [(hr.2.2.2.1 t k ht hk).1]
  exact decide_eq_decide.mpr (not_congr (uKind_pos _))
theorem c_X11_entries (l : Launch) (dC : Nat → ClassId) (dI : Nat → Nat → Nat) (cI cJ cS : ClassId) (a : Nat → Nat) (u : zModel) (x1 : Int32) (Q : Int32 → Prop) (hf : s_X11_entries u x1 Q) : Met l yX11_entries (Cond.code yX11_entries cX11_entries 4 (some .int) :: zT) rm_X11_entries (zPp dC dI cI cJ cS (cl_X11 cI cJ a u) [.ref (a 0), .int x1]) (vp_Si Q) 0 0 (fun _ => False) := by
  obtain ⟨I4, h4, hf⟩ := st_X11_entries hf
  exact L_X11_entries l dC dI cI cJ cS a u x1 Q I4 h4 hf

def t_X11_tableOf_e (u : zModel) (x1 : Int32) (K2 : Int32 → Prop) (Q : Int32 → Prop) : Prop := K2 (0 : Int32)
def t_X11_tableOf_2 (u : zModel) (x1 : Int32) (y2 : Int32) (K2 : Int32 → Prop) (Q : Int32 → Prop) : Prop := vp_in (4 : Int32) 5497 ∧ (((u.2.1 (4 : Int32).toNatClampNeg) < y2 → Q (-1 : Int32)) ∧ (¬ (u.2.1 (4 : Int32).toNatClampNeg) < y2 → s_X11_hasEntry u y2 x1 (fun r_3 : Int32 => ((r_3 = 0 → ∀ x_5 : Int32, x_5 = y2 + (1 : Int32) → K2 x_5) ∧ (¬ r_3 = 0 → Q y2)))))
theorem zc_X11_tableOf : zCalV RX11 yX11_tableOf cX11_tableOf 3 (some .int) 1 := ⟨q_im_X11_tableOf, q_se_X11_tableOf, q_in_X11, q_cd_X11_tableOf, ⟨by decide, by decide, by decide +kernel⟩, rfl⟩
abbrev rm_X11_tableOf : Room := { frames := 2, cells := 0, slots := 0, locals := 43 }
def v_X11_tableOf (u : zModel) (x1 : Int32) (Q : Int32 → Prop) : Prop := ∃ I2 : Nat → Int32 → Prop, (∀ (n : Nat) (y2 : Int32), I2 n y2 → t_X11_tableOf_2 u x1 y2 (fun q0 => ∃ k : Nat, k < n ∧ I2 k q0) Q) ∧ t_X11_tableOf_e u x1 (fun q0 => ∃ k : Nat, I2 k q0) Q
set_option maxHeartbeats 4000000 in
set_option maxRecDepth 100000 in
theorem L_X11_tableOf (l : Launch) (dC : Nat → ClassId) (dI : Nat → Nat → Nat) (cI cJ cS : ClassId) (a : Nat → Nat) (u : zModel) (x1 : Int32) (Q : Int32 → Prop) (I2 : Nat → Int32 → Prop) (h2 : ∀ (n : Nat) (y2 : Int32), I2 n y2 → t_X11_tableOf_2 u x1 y2 (fun q0 => ∃ k : Nat, k < n ∧ I2 k q0) Q) (hf : t_X11_tableOf_e u x1 (fun q0 => ∃ k : Nat, I2 k q0) Q) : Met l yX11_tableOf (Cond.code yX11_tableOf cX11_tableOf 3 (some .int) :: zT) rm_X11_tableOf (zPp dC dI cI cJ cS (cl_X11 cI cJ a u) [.ref (a 0), .int x1]) (vp_Si Q) 0 0 (fun _ => False) := by
  refine z_enterP (cc := cX11_tableOf) (maxL := 3) (ret := (some .int)) (by decide) (Nat.le_of_ble_eq_true rfl) ?_
  intro p e s m below meth c ls X hP hl
  obtain ⟨⟨hx, hb, hml, hown, hts⟩, hr, hlk, hK⟩ := id X
  have hl : lv_has ls 3 [(0, .ref (a 0)), (1, .int x1)] := hl
  have LP : ∀ n : Nat, (∀ (y2 : Int32) (ls : Array Slot), I2 n y2 → lv_has ls 3 [(0, .ref (a 0)), (1, .int x1), (2, .int y2)] → W p l e rm_X11_tableOf s m [.ref (a 0), .int x1].toArray below meth c s.heap [] 0 0 (MQ below (vp_Si Q) [.ref (a 0), .int x1].toArray s 0 0 (fun _ => False)) (F0 m 2 ls [])) := by
    intro n
    induction n using Nat.strongRecOn with
    | _ n ih =>
      intro y2 ls hI hl
      have hf := h2 n y2 hI
      unfold t_X11_tableOf_2 at hf
      refine lv_iload_n hx hb dX11_tableOf_2 rfl (lv_at hl 2 rfl) ?_
      refine lv_aload_n hx hb dX11_tableOf_3 rfl (lv_at hl 0 rfl) ?_
      refine va_get (D := (dC, dI)) (ci := 10) (v := .ref (a 1)) (C := RX11) (T := TX11) (N := 17) hx hb hts inX11 hown hK hP 0 rfl rfl 1 (by decide) (hts _ q_fl_X11_7) (fun _ h9 => h9) rfl dX11_tableOf_4 ?_
      refine lv_iconst (v := 4) hx hb dX11_tableOf_7 (by decide) ?_
      obtain ⟨hg, hf⟩ := hf
      refine va_iald hx hb hK hP 1 0 rfl rfl hg dX11_tableOf_8 ?_
      refine lv_icmp_gt (tgt := 29) hx hb dX11_tableOf_9 (by decide) (fun c_2 => ?_) (fun c_2 => ?_)
      · have hf := hf.1 c_2
        refine lv_iconst (v := (-1)) hx hb dX11_tableOf_29 (by decide) ?_
        exact z_retPi X hf dX11_tableOf_30
      · have hf := hf.2 c_2
        refine lv_aload_n hx hb dX11_tableOf_12 rfl (lv_at hl 0 rfl) ?_
        refine lv_iload_n hx hb dX11_tableOf_13 rfl (lv_at hl 2 rfl) ?_
        refine lv_iload_n hx hb dX11_tableOf_14 rfl (lv_at hl 1 rfl) ?_
        refine z_cVi (As := [.int y2, .int x1]) (rest := []) X (c_X11_hasEntry l dC dI cI cJ cS a u y2 x1 _ hf) zc_X11_hasEntry q_ml_X11_66 ⟨rfl, rfl⟩ ⟨Nat.le_of_ble_eq_true rfl, Nat.le_of_ble_eq_true rfl⟩ hP [0, 1, 2, 3, 4, 5, 6, 7, 8] rfl 10 rfl rfl hl.1 rfl rfl (Nat.le_of_ble_eq_true rfl) ⟨Nat.zero_le _, Nat.zero_le _⟩ dX11_tableOf_15 (fun r_3 hf => ?_)
        obtain ⟨hbr_3, hf⟩ := hf
        refine lv_if_eq (tgt := 23) hx hb dX11_tableOf_18 (by decide) (fun c_4 => ?_) (fun c_4 => ?_)
        · have hf := hf.1 c_4
          obtain ⟨x_5, ex_5⟩ : ∃ y : Int32, y = y2 + (1 : Int32) := ⟨_, rfl⟩
          have hf := hf x_5 ex_5
          refine lv_iinc (v := x_5) (lv' := [(2, .int x_5), (0, .ref (a 0)), (1, .int x1)]) hx hb dX11_tableOf_23 hl (k := 2) rfl (by rw [ex_5]; rfl) (by decide) rfl (fun ls hl => ?_)
          refine lv_goto (tgt := 2) hx hb dX11_tableOf_26 (by decide) ?_
          obtain ⟨k_6, hk_6, hf⟩ := hf
          exact (ih k_6 hk_6) _ ls hf (lv_sub hl [1, 2, 0] rfl)
        · have hf := hf.2 c_4
          refine lv_iload_n hx hb dX11_tableOf_21 rfl (lv_at hl 2 rfl) ?_
          exact z_retPi X hf dX11_tableOf_22
  unfold t_X11_tableOf_e at hf
  refine lv_iconst (v := 0) hx hb dX11_tableOf_0 (by decide) ?_
  refine lv_istore_n (lv' := [(2, .int (0 : Int32)), (0, .ref (a 0)), (1, .int x1)]) hx hb dX11_tableOf_1 rfl hl (by decide) rfl (fun ls hl => ?_)
  obtain ⟨k_1, hf⟩ := hf
  exact (LP k_1) _ ls hf (lv_sub hl [1, 2, 0] rfl)
def s_X11_tableOf (u : zModel) (x1 : Int32) (Q : Int32 → Prop) : Prop := ∃ (v : zState) (k : Nat), mOk v u.2.1 ∧ k < 64 ∧ x1 = nI k ∧ Q (uLvl v k)
theorem st_X11_tableOf {u : zModel} {x1 : Int32} {Q : Int32 → Prop} (h : s_X11_tableOf u x1 Q) : v_X11_tableOf u x1 Q := by
  obtain ⟨v, k, hm, hk, rfl, h⟩ := h
  have ho := hm.ok
  obtain ⟨-, hr⟩ := hm
  have hR : rN v < 6 := ho.2.1.2
  have e4 : u.2.1 4 = nI (rN v) := (hr.1 4 (by decide)).trans ho.r
  have hle := fa_first_le (fun l => zHas v.2.2.2.1.1 l k) (rN v + 1)
  unfold uLvl at h
  refine zlp1 (T := fun y K => t_X11_tableOf_2 u (nI k) y K Q) (E := fun K => t_X11_tableOf_e u (nI k) K Q) (fa_first (fun l => zHas v.2.2.2.1.1 l k) (rN v + 1)) (fun i => nI i) (fun K hK => hK) ?_ ?_
  · intro i hi K hK
    have hp := fa_first_no (fun l => zHas v.2.2.2.1.1 l k) (rN v + 1) i hi
    simp only [decide_eq_false_iff_not, Decidable.not_not] at hp
    have ek := (hr.2.2.2.1 i k (show i ≤ rN v by omega) hk).1
    refine ⟨vp_in_nI (n := 4) (by decide) (by decide), ?_⟩
    rw [n_c4, e4]
    refine ⟨fun c => absurd c (nI_nlt (by omega) (by omega)), fun _ => ⟨i, k, by omega, hk, rfl, rfl, fun d => ⟨fun _ x e => ?_, fun q => absurd rfl q⟩, fun d => ?_⟩⟩
    · rw [e, nI_1]; exact hK
    · rw [ek] at d
      exact absurd ((uKind_pos _).mpr hp) d
  · intro K
    by_cases hf : fa_first (fun l => zHas v.2.2.2.1.1 l k) (rN v + 1) < rN v + 1
    · have hp := fa_first_yes (fun l => zHas v.2.2.2.1.1 l k) (rN v + 1) hf
      simp only [decide_eq_true_eq] at hp
      rw [zFst_yes hf] at h
      have ek := (hr.2.2.2.1 _ k (show fa_first (fun l => zHas v.2.2.2.1.1 l k) (rN v + 1) ≤ rN v by omega) hk).1
      refine ⟨vp_in_nI (n := 4) (by decide) (by decide), ?_⟩
      rw [n_c4, e4]
      refine ⟨fun c => absurd c (nI_nlt (by omega) (by omega)), fun _ => ⟨_, k, by omega, hk, rfl, rfl, fun d => ?_, fun d => ⟨fun q => absurd q (by decide), fun _ => h⟩⟩⟩
      rw [ek] at d
      exact absurd ((uKind_pos _).mp d) hp
    · rw [zFst_no hf] at h
      have he : fa_first (fun l => zHas v.2.2.2.1.1 l k) (rN v + 1) = rN v + 1 := by omega
      show t_X11_tableOf_2 u (nI k) (nI (fa_first (fun l => zHas v.2.2.2.1.1 l k) (rN v + 1))) K Q
      rw [he]
      refine ⟨vp_in_nI (n := 4) (by decide) (by decide), ?_⟩
      rw [n_c4, e4]
      exact ⟨fun _ => h, fun c => absurd (nI_lt (Nat.lt_succ_self _) (by omega)) c⟩
theorem c_X11_tableOf (l : Launch) (dC : Nat → ClassId) (dI : Nat → Nat → Nat) (cI cJ cS : ClassId) (a : Nat → Nat) (u : zModel) (x1 : Int32) (Q : Int32 → Prop) (hf : s_X11_tableOf u x1 Q) : Met l yX11_tableOf (Cond.code yX11_tableOf cX11_tableOf 3 (some .int) :: zT) rm_X11_tableOf (zPp dC dI cI cJ cS (cl_X11 cI cJ a u) [.ref (a 0), .int x1]) (vp_Si Q) 0 0 (fun _ => False) := by
  obtain ⟨I2, h2, hf⟩ := st_X11_tableOf hf
  exact L_X11_tableOf l dC dI cI cJ cS a u x1 Q I2 h2 hf
