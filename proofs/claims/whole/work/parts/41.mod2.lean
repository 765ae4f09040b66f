def t_X11_current (u : zModel) (x1 : Int32) (x2 : Int32) (Q : Int32 → Prop) : Prop := s_X11_tableOf u x1 (fun r_1 : Int32 => ((¬ r_1 = (-1 : Int32) → s_X11_entryAt r_1 x1 (fun r_3 : Int32 => vp_in (r_3 + x2) 5497 ∧ Q (u.2.1 (r_3 + x2).toNatClampNeg))) ∧ (r_1 = (-1 : Int32) → Q (0 : Int32))))
theorem zc_X11_current : zCalV RX11 yX11_current cX11_current 4 (some .int) 2 := ⟨q_im_X11_current, q_se_X11_current, q_in_X11, q_cd_X11_current, ⟨by decide, by decide, by decide +kernel⟩, rfl⟩
abbrev rm_X11_current : Room := { frames := 3, cells := 0, slots := 0, locals := 65 }
set_option maxHeartbeats 4000000 in
set_option maxRecDepth 100000 in
theorem L_X11_current (l : Launch) (dC : Nat → ClassId) (dI : Nat → Nat → Nat) (cI cJ cS : ClassId) (a : Nat → Nat) (u : zModel) (x1 : Int32) (x2 : Int32) (Q : Int32 → Prop) (hf : t_X11_current u x1 x2 Q) : Met l yX11_current (Cond.code yX11_current cX11_current 4 (some .int) :: zT) rm_X11_current (zPp dC dI cI cJ cS (cl_X11 cI cJ a u) [.ref (a 0), .int x1, .int x2]) (vp_Si Q) 0 0 (fun _ => False) := by
  refine z_enterP (cc := cX11_current) (maxL := 4) (ret := (some .int)) (by decide) (Nat.le_of_ble_eq_true rfl) ?_
  intro p e s m below meth c ls X hP hl
  obtain ⟨⟨hx, hb, hml, hown, hts⟩, hr, hlk, hK⟩ := id X
  have hl : lv_has ls 4 [(0, .ref (a 0)), (1, .int x1), (2, .int x2)] := hl
  unfold t_X11_current at hf
  refine lv_aload_n hx hb dX11_current_0 rfl (lv_at hl 0 rfl) ?_
  refine lv_iload_n hx hb dX11_current_1 rfl (lv_at hl 1 rfl) ?_
  refine z_cVi (As := [.int x1]) (rest := []) X (c_X11_tableOf l dC dI cI cJ cS a u x1 _ hf) zc_X11_tableOf q_ml_X11_70 ⟨rfl, rfl⟩ ⟨Nat.le_of_ble_eq_true rfl, Nat.le_of_ble_eq_true rfl⟩ hP [0, 1, 2, 3, 4, 5, 6, 7, 8] rfl 10 rfl rfl hl.1 rfl rfl (Nat.le_of_ble_eq_true rfl) ⟨Nat.zero_le _, Nat.zero_le _⟩ dX11_current_2 (fun r_1 hf => ?_)
  refine lv_istore_n (lv' := [(3, .int r_1), (0, .ref (a 0)), (1, .int x1), (2, .int x2)]) hx hb dX11_current_5 rfl hl (by decide) rfl (fun ls hl => ?_)
  refine lv_iload_n hx hb dX11_current_6 rfl (lv_at hl 0 rfl) ?_
  refine lv_iconst (v := (-1)) hx hb dX11_current_7 (by decide) ?_
  refine lv_icmp_ne (tgt := 15) hx hb dX11_current_8 (by decide) (fun c_2 => ?_) (fun c_2 => ?_)
  · have hf := hf.1 c_2
    refine lv_aload_n hx hb dX11_current_15 rfl (lv_at hl 1 rfl) ?_
    refine va_get (D := (dC, dI)) (ci := 10) (v := .ref (a 1)) (C := RX11) (T := TX11) (N := 17) hx hb hts inX11 hown hK hP 0 rfl rfl 1 (by decide) (hts _ q_fl_X11_7) (fun _ h9 => h9) rfl dX11_current_16 ?_
    refine lv_iload_n hx hb dX11_current_19 rfl (lv_at hl 0 rfl) ?_
    refine lv_iload_n hx hb dX11_current_20 rfl (lv_at hl 2 rfl) ?_
    refine z_cSi (As := [.int r_1, .int x1]) (rest := [.ref (a 1)]) X (c_X11_entryAt l dC dI cI cJ cS   r_1 x1 _ hf) zc_X11_entryAt q_ml_X11_63 ⟨rfl, rfl⟩ ⟨Nat.le_of_ble_eq_true rfl, Nat.le_of_ble_eq_true rfl⟩ hP [] rfl hl.1 rfl rfl (Nat.le_of_ble_eq_true rfl) ⟨Nat.zero_le _, Nat.zero_le _⟩ dX11_current_21 (fun r_3 hf => ?_)
    refine lv_iload_n hx hb dX11_current_24 rfl (lv_at hl 3 rfl) ?_
    refine lv_iadd hx hb dX11_current_25 ?_
    obtain ⟨hg, hf⟩ := hf
    refine va_iald hx hb hK hP 1 0 rfl rfl hg dX11_current_26 ?_
    exact z_retPi X hf dX11_current_27
  · have hf := hf.2 c_2
    refine lv_iconst (v := 0) hx hb dX11_current_11 (by decide) ?_
    refine lv_goto (tgt := 27) hx hb dX11_current_12 (by decide) ?_
    exact z_retPi X hf dX11_current_27
theorem n_clt (x : Int32) : x.toNatClampNeg < 2 ^ 31 := by
  by_cases h : x < 0
  · rw [Int32.toNatClampNeg, Int.toNat_of_nonpos (by have := Int32.lt_iff_toInt_lt.mp h; have e : (0 : Int32).toInt = 0 := by decide
                                                     omega)]
    decide
  · obtain ⟨j, hj, rfl⟩ := nI_of h
    rw [nI_clamp hj]; exact hj
/-- what the reference tells of a key's current entry; 0 without one -/
def curF (v : zState) (k w : Nat) : Int32 := if uCur v k = 0 then 0 else entF v.1.2.1 (uCur v k) w
theorem lvl_none {v : zState} {k : Nat} : uLvl v k = -1 ↔ uCur v k = 0 := by
  unfold uLvl uCur zCur
  have hle := fa_first_le (fun l => zHas v.2.2.2.1.1 l k) (rN v + 1)
  by_cases hf : fa_first (fun l => zHas v.2.2.2.1.1 l k) (rN v + 1) < rN v + 1
  · have hp := fa_first_yes (fun l => zHas v.2.2.2.1.1 l k) (rN v + 1) hf
    simp only [decide_eq_true_eq] at hp
    rw [zFst_yes hf, if_pos hf]
    have hb : rN v < 2 ^ 31 := n_clt _
    by_cases hq : fa_first (fun l => zHas v.2.2.2.1.1 l k) (rN v + 1) < 2 ^ 31
    · exact ⟨fun q => absurd q (n_neg hq), fun q => absurd q hp⟩
    · omega
  · rw [zFst_no hf, if_neg hf]; exact ⟨fun _ => rfl, fun _ => rfl⟩
theorem lvl_some {v : zState} {k : Nat} (h : ¬ uCur v k = 0) : ∃ l, l ≤ rN v ∧ uLvl v k = nI l ∧ uCur v k = v.2.2.2.1.1 (64 * l + k) := by
  unfold uCur zCur at h ⊢
  unfold uLvl
  by_cases hf : fa_first (fun l => zHas v.2.2.2.1.1 l k) (rN v + 1) < rN v + 1
  · rw [if_pos hf]; exact ⟨_, by omega, zFst_yes hf, rfl⟩
  · rw [if_neg hf] at h; exact absurd rfl h
def s_X11_current (u : zModel) (x1 x2 : Int32) (Q : Int32 → Prop) : Prop := ∃ (v : zState) (k w : Nat), mOk v u.2.1 ∧ k < 64 ∧ w < 6 ∧ x1 = nI k ∧ x2 = nI w ∧ Q (curF v k w)
theorem st_X11_current {u : zModel} {x1 x2 : Int32} {Q : Int32 → Prop} (h : s_X11_current u x1 x2 Q) : t_X11_current u x1 x2 Q := by
  obtain ⟨v, k, w, hm, hk, hw, rfl, rfl, h⟩ := h
  have hR : rN v < 6 := hm.ok.2.1.2
  unfold curF at h
  refine ⟨v, k, hm, hk, rfl, fun c => ?_, fun c => ?_⟩
  · have h0 : ¬ uCur v k = 0 := fun q => c (lvl_none.mpr q)
    rw [if_neg h0] at h
    obtain ⟨l, hl, e1, e2⟩ := lvl_some h0
    rw [e1]
    unfold s_X11_entryAt
    rw [ix_ent]
    dsimp only
    rw [nI_add, nI_clamp (by omega)]
    refine ⟨vp_in_nI (by omega) (by decide), ?_⟩
    rw [(hm.2.2.2.2.1 l k hl hk).2 (by rw [← e2]; exact h0) w hw, ← e2]; exact h
  · rw [if_pos (lvl_none.mp c)] at h; exact h
theorem c_X11_current (l : Launch) (dC : Nat → ClassId) (dI : Nat → Nat → Nat) (cI cJ cS : ClassId) (a : Nat → Nat) (u : zModel) (x1 : Int32) (x2 : Int32) (Q : Int32 → Prop) (hf : s_X11_current u x1 x2 Q) : Met l yX11_current (Cond.code yX11_current cX11_current 4 (some .int) :: zT) rm_X11_current (zPp dC dI cI cJ cS (cl_X11 cI cJ a u) [.ref (a 0), .int x1, .int x2]) (vp_Si Q) 0 0 (fun _ => False) := L_X11_current l dC dI cI cJ cS a u x1 x2 Q (st_X11_current hf)

def t_X11_hasValue (u : zModel) (x1 : Int32) (Q : Int32 → Prop) : Prop := s_X11_current u x1 (1 : Int32) (fun r_1 : Int32 => ((r_1 ≤ (1 : Int32) → Q (0 : Int32)) ∧ (¬ r_1 ≤ (1 : Int32) → Q (1 : Int32))))
theorem zc_X11_hasValue : zCalV RX11 yX11_hasValue cX11_hasValue 2 (some .boolean) 1 := ⟨q_im_X11_hasValue, q_se_X11_hasValue, q_in_X11, q_cd_X11_hasValue, ⟨by decide, by decide, by decide +kernel⟩, rfl⟩
abbrev rm_X11_hasValue : Room := { frames := 4, cells := 0, slots := 0, locals := 88 }
set_option maxHeartbeats 4000000 in
set_option maxRecDepth 100000 in
theorem L_X11_hasValue (l : Launch) (dC : Nat → ClassId) (dI : Nat → Nat → Nat) (cI cJ cS : ClassId) (a : Nat → Nat) (u : zModel) (x1 : Int32) (Q : Int32 → Prop) (hf : t_X11_hasValue u x1 Q) : Met l yX11_hasValue (Cond.code yX11_hasValue cX11_hasValue 2 (some .boolean) :: zT) rm_X11_hasValue (zPp dC dI cI cJ cS (cl_X11 cI cJ a u) [.ref (a 0), .int x1]) (vp_Si (fun r => (r = 0 ∨ r = 1) ∧ Q r)) 0 0 (fun _ => False) := by
  refine z_enterP (cc := cX11_hasValue) (maxL := 2) (ret := (some .boolean)) (by decide) (Nat.le_of_ble_eq_true rfl) ?_
  intro p e s m below meth c ls X hP hl
  obtain ⟨⟨hx, hb, hml, hown, hts⟩, hr, hlk, hK⟩ := id X
  have hl : lv_has ls 2 [(0, .ref (a 0)), (1, .int x1)] := hl
  unfold t_X11_hasValue at hf
  refine lv_aload_n hx hb dX11_hasValue_0 rfl (lv_at hl 0 rfl) ?_
  refine lv_iload_n hx hb dX11_hasValue_1 rfl (lv_at hl 1 rfl) ?_
  refine lv_iconst (v := 1) hx hb dX11_hasValue_2 (by decide) ?_
  refine z_cVi (As := [.int x1, .int (1 : Int32)]) (rest := []) X (c_X11_current l dC dI cI cJ cS a u x1 (1 : Int32) _ hf) zc_X11_current q_ml_X11_74 ⟨rfl, rfl⟩ ⟨Nat.le_of_ble_eq_true rfl, Nat.le_of_ble_eq_true rfl⟩ hP [0, 1, 2, 3, 4, 5, 6, 7, 8] rfl 10 rfl rfl hl.1 rfl rfl (Nat.le_of_ble_eq_true rfl) ⟨Nat.zero_le _, Nat.zero_le _⟩ dX11_hasValue_3 (fun r_1 hf => ?_)
  refine lv_iconst (v := 1) hx hb dX11_hasValue_6 (by decide) ?_
  refine lv_icmp_le (tgt := 14) hx hb dX11_hasValue_7 (by decide) (fun c_2 => ?_) (fun c_2 => ?_)
  · have hf := hf.1 c_2
    refine lv_iconst (v := 0) hx hb dX11_hasValue_14 (by decide) ?_
    exact z_retPz X (Or.inl rfl) hf dX11_hasValue_15
  · have hf := hf.2 c_2
    refine lv_iconst (v := 1) hx hb dX11_hasValue_10 (by decide) ?_
    refine lv_goto (tgt := 15) hx hb dX11_hasValue_11 (by decide) ?_
    exact z_retPz X (Or.inr rfl) hf dX11_hasValue_15
theorem kind_val (b : Int32) (c : Int64) : (¬ uKind b c ≤ 1) ↔ ¬ cDrop c := by
  unfold uKind
  by_cases h : c = 0
  · rw [if_pos h, h]; exact ⟨fun q => absurd (by decide) q, fun q => absurd cDrop_0 q⟩
  · rw [if_neg h]
    by_cases h2 : c &&& 16128 = 0
    · rw [if_pos h2]; exact ⟨fun q => absurd (by decide) q, fun q => absurd h2 q⟩
    · rw [if_neg h2]
      refine ⟨fun _ => h2, fun _ => ?_⟩
      split <;> decide
theorem curF_1 (v : zState) (k : Nat) : curF v k 1 = uKind v.1.2.1 (uCur v k) := by
  unfold curF
  by_cases h : uCur v k = 0
  · rw [if_pos h, h]; rfl
  · rw [if_neg h]; rfl
def s_X11_hasValue (u : zModel) (x1 : Int32) (Q : Int32 → Prop) : Prop := ∃ (v : zState) (k : Nat), mOk v u.2.1 ∧ k < 64 ∧ x1 = nI k ∧ (uVal v k = true → Q 1) ∧ (uVal v k = false → Q 0)
theorem st_X11_hasValue {u : zModel} {x1 : Int32} {Q : Int32 → Prop} (h : s_X11_hasValue u x1 Q) : t_X11_hasValue u x1 Q := by
  obtain ⟨v, k, hm, hk, rfl, h1, h0⟩ := h
  refine ⟨v, k, 1, hm, hk, by decide, rfl, rfl, ?_⟩
  rw [curF_1]
  exact ⟨fun c => h0 (decide_eq_false (fun q => (kind_val _ _).mpr q c)), fun c => h1 (decide_eq_true ((kind_val _ _).mp c))⟩
theorem c_X11_hasValue (l : Launch) (dC : Nat → ClassId) (dI : Nat → Nat → Nat) (cI cJ cS : ClassId) (a : Nat → Nat) (u : zModel) (x1 : Int32) (Q : Int32 → Prop) (hf : s_X11_hasValue u x1 Q) : Met l yX11_hasValue (Cond.code yX11_hasValue cX11_hasValue 2 (some .boolean) :: zT) rm_X11_hasValue (zPp dC dI cI cJ cS (cl_X11 cI cJ a u) [.ref (a 0), .int x1]) (vp_Si (fun r => (r = 0 ∨ r = 1) ∧ Q r)) 0 0 (fun _ => False) := L_X11_hasValue l dC dI cI cJ cS a u x1 Q (st_X11_hasValue hf)

def t_X11_lengthOf (u : zModel) (x1 : Int32) (Q : Int32 → Prop) : Prop := s_X11_hasValue u x1 (fun r_1 : Int32 => ((r_1 = 0 → Q (-1 : Int32)) ∧ (¬ r_1 = 0 → s_X11_current u x1 (2 : Int32) (fun r_3 : Int32 => Q r_3))))
theorem zc_X11_lengthOf : zCalV RX11 yX11_lengthOf cX11_lengthOf 2 (some .int) 1 := ⟨q_im_X11_lengthOf, q_se_X11_lengthOf, q_in_X11, q_cd_X11_lengthOf, ⟨by decide, by decide, by decide +kernel⟩, rfl⟩
abbrev rm_X11_lengthOf : Room := { frames := 5, cells := 0, slots := 0, locals := 109 }
set_option maxHeartbeats 4000000 in
set_option maxRecDepth 100000 in
theorem L_X11_lengthOf (l : Launch) (dC : Nat → ClassId) (dI : Nat → Nat → Nat) (cI cJ cS : ClassId) (a : Nat → Nat) (u : zModel) (x1 : Int32) (Q : Int32 → Prop) (hf : t_X11_lengthOf u x1 Q) : Met l yX11_lengthOf (Cond.code yX11_lengthOf cX11_lengthOf 2 (some .int) :: zT) rm_X11_lengthOf (zPp dC dI cI cJ cS (cl_X11 cI cJ a u) [.ref (a 0), .int x1]) (vp_Si Q) 0 0 (fun _ => False) := by
  refine z_enterP (cc := cX11_lengthOf) (maxL := 2) (ret := (some .int)) (by decide) (Nat.le_of_ble_eq_true rfl) ?_
  intro p e s m below meth c ls X hP hl
  obtain ⟨⟨hx, hb, hml, hown, hts⟩, hr, hlk, hK⟩ := id X
  have hl : lv_has ls 2 [(0, .ref (a 0)), (1, .int x1)] := hl
  unfold t_X11_lengthOf at hf
  refine lv_aload_n hx hb dX11_lengthOf_0 rfl (lv_at hl 0 rfl) ?_
  refine lv_iload_n hx hb dX11_lengthOf_1 rfl (lv_at hl 1 rfl) ?_
  refine z_cVi (As := [.int x1]) (rest := []) X (c_X11_hasValue l dC dI cI cJ cS a u x1 _ hf) zc_X11_hasValue q_ml_X11_81 ⟨rfl, rfl⟩ ⟨Nat.le_of_ble_eq_true rfl, Nat.le_of_ble_eq_true rfl⟩ hP [0, 1, 2, 3, 4, 5, 6, 7, 8] rfl 10 rfl rfl hl.1 rfl rfl (Nat.le_of_ble_eq_true rfl) ⟨Nat.zero_le _, Nat.zero_le _⟩ dX11_lengthOf_2 (fun r_1 hf => ?_)
  obtain ⟨hbr_1, hf⟩ := hf
  refine lv_if_eq (tgt := 17) hx hb dX11_lengthOf_5 (by decide) (fun c_2 => ?_) (fun c_2 => ?_)
  · have hf := hf.1 c_2
    refine lv_iconst (v := (-1)) hx hb dX11_lengthOf_17 (by decide) ?_
    exact z_retPi X hf dX11_lengthOf_18
  · have hf := hf.2 c_2
    refine lv_aload_n hx hb dX11_lengthOf_8 rfl (lv_at hl 0 rfl) ?_
    refine lv_iload_n hx hb dX11_lengthOf_9 rfl (lv_at hl 1 rfl) ?_
    refine lv_iconst (v := 2) hx hb dX11_lengthOf_10 (by decide) ?_
    refine z_cVi (As := [.int x1, .int (2 : Int32)]) (rest := []) X (c_X11_current l dC dI cI cJ cS a u x1 (2 : Int32) _ hf) zc_X11_current q_ml_X11_74 ⟨rfl, rfl⟩ ⟨Nat.le_of_ble_eq_true rfl, Nat.le_of_ble_eq_true rfl⟩ hP [0, 1, 2, 3, 4, 5, 6, 7, 8] rfl 10 rfl rfl hl.1 rfl rfl (Nat.le_of_ble_eq_true rfl) ⟨Nat.zero_le _, Nat.zero_le _⟩ dX11_lengthOf_11 (fun r_3 hf => ?_)
    refine lv_goto (tgt := 18) hx hb dX11_lengthOf_14 (by decide) ?_
    exact z_retPi X hf dX11_lengthOf_18
theorem val_ne {v : zState} {k : Nat} (h : uVal v k = true) : ¬ uCur v k = 0 ∧ ¬ cLen (uCur v k) = 0 := by
  have h := of_decide_eq_true h
  exact ⟨fun q => h (by rw [q]; exact cDrop_0), fun q => h ((cDrop_iff _).mpr q)⟩
def uLenF (v : zState) (k : Nat) : Int32 := if uVal v k then cLen (uCur v k) else -1
def uSeedF (v : zState) (k : Nat) : Int32 := if uVal v k then cSeed (uCur v k) else -1
def s_X11_lengthOf (u : zModel) (x1 : Int32) (Q : Int32 → Prop) : Prop := ∃ (v : zState) (k : Nat), mOk v u.2.1 ∧ k < 64 ∧ x1 = nI k ∧ Q (uLenF v k)
theorem st_X11_lengthOf {u : zModel} {x1 : Int32} {Q : Int32 → Prop} (h : s_X11_lengthOf u x1 Q) : t_X11_lengthOf u x1 Q := by
  obtain ⟨v, k, hm, hk, rfl, h⟩ := h
  unfold uLenF at h
  refine ⟨v, k, hm, hk, rfl, fun hv => ⟨fun q => absurd q (by decide), fun _ => ⟨v, k, 2, hm, hk, by decide, rfl, rfl, ?_⟩⟩, fun hv => ⟨fun _ => ?_, fun q => absurd rfl q⟩⟩
  · obtain ⟨q1, q2⟩ := val_ne hv
    rw [if_pos hv] at h
    unfold curF
    rw [if_neg q1]
    show Q (lenI (uCur v k))
    unfold lenI
    rw [if_neg q2]; exact h
  · rw [if_neg (by rw [hv]; decide)] at h; exact h
theorem c_X11_lengthOf (l : Launch) (dC : Nat → ClassId) (dI : Nat → Nat → Nat) (cI cJ cS : ClassId) (a : Nat → Nat) (u : zModel) (x1 : Int32) (Q : Int32 → Prop) (hf : s_X11_lengthOf u x1 Q) : Met l yX11_lengthOf (Cond.code yX11_lengthOf cX11_lengthOf 2 (some .int) :: zT) rm_X11_lengthOf (zPp dC dI cI cJ cS (cl_X11 cI cJ a u) [.ref (a 0), .int x1]) (vp_Si Q) 0 0 (fun _ => False) := L_X11_lengthOf l dC dI cI cJ cS a u x1 Q (st_X11_lengthOf hf)

def t_X11_placeOf_e (u : zModel) (x1 : Int32) (x2 : Int32) (K2 : Int32 → Prop) (Q : Int32 → Prop) : Prop := K2 (0 : Int32)
def t_X11_placeOf_2 (u : zModel) (x1 : Int32) (x2 : Int32) (y3 : Int32) (K2 : Int32 → Prop) (Q : Int32 → Prop) : Prop := s_X11_noted u x1 y3 (4 : Int32) (fun r_2 : Int32 => ((r_2 = x2 → Q y3) ∧ (¬ r_2 = x2 → ∀ x_4 : Int32, x_4 = y3 + (1 : Int32) → K2 x_4)))
theorem zc_X11_placeOf : zCalV RX11 yX11_placeOf cX11_placeOf 4 (some .int) 2 := ⟨q_im_X11_placeOf, q_se_X11_placeOf, q_in_X11, q_cd_X11_placeOf, ⟨by decide, by decide, by decide +kernel⟩, rfl⟩
abbrev rm_X11_placeOf : Room := { frames := 2, cells := 0, slots := 0, locals := 44 }
def v_X11_placeOf (u : zModel) (x1 : Int32) (x2 : Int32) (Q : Int32 → Prop) : Prop := ∃ I2 : Nat → Int32 → Prop, (∀ (n : Nat) (y3 : Int32), I2 n y3 → t_X11_placeOf_2 u x1 x2 y3 (fun q0 => ∃ k : Nat, k < n ∧ I2 k q0) Q) ∧ t_X11_placeOf_e u x1 x2 (fun q0 => ∃ k : Nat, I2 k q0) Q
set_option maxHeartbeats 4000000 in
set_option maxRecDepth 100000 in
theorem L_X11_placeOf (l : Launch) (dC : Nat → ClassId) (dI : Nat → Nat → Nat) (cI cJ cS : ClassId) (a : Nat → Nat) (u : zModel) (x1 : Int32) (x2 : Int32) (Q : Int32 → Prop) (I2 : Nat → Int32 → Prop) (h2 : ∀ (n : Nat) (y3 : Int32), I2 n y3 → t_X11_placeOf_2 u x1 x2 y3 (fun q0 => ∃ k : Nat, k < n ∧ I2 k q0) Q) (hf : t_X11_placeOf_e u x1 x2 (fun q0 => ∃ k : Nat, I2 k q0) Q) : Met l yX11_placeOf (Cond.code yX11_placeOf cX11_placeOf 4 (some .int) :: zT) rm_X11_placeOf (zPp dC dI cI cJ cS (cl_X11 cI cJ a u) [.ref (a 0), .int x1, .int x2]) (vp_Si Q) 0 0 (fun _ => False) := by
  refine z_enterP (cc := cX11_placeOf) (maxL := 4) (ret := (some .int)) (by decide) (Nat.le_of_ble_eq_true rfl) ?_
  intro p e s m below meth c ls X hP hl
  obtain ⟨⟨hx, hb, hml, hown, hts⟩, hr, hlk, hK⟩ := id X
  have hl : lv_has ls 4 [(0, .ref (a 0)), (1, .int x1), (2, .int x2)] := hl
  have LP : ∀ n : Nat, (∀ (y3 : Int32) (ls : Array Slot), I2 n y3 → lv_has ls 4 [(0, .ref (a 0)), (1, .int x1), (2, .int x2), (3, .int y3)] → W p l e rm_X11_placeOf s m [.ref (a 0), .int x1, .int x2].toArray below meth c s.heap [] 0 0 (MQ below (vp_Si Q) [.ref (a 0), .int x1, .int x2].toArray s 0 0 (fun _ => False)) (F0 m 2 ls [])) := by
    intro n
    induction n using Nat.strongRecOn with
    | _ n ih =>
      intro y3 ls hI hl
      have hf := h2 n y3 hI
      unfold t_X11_placeOf_2 at hf
      refine lv_aload_n hx hb dX11_placeOf_2 rfl (lv_at hl 0 rfl) ?_
      refine lv_iload_n hx hb dX11_placeOf_3 rfl (lv_at hl 1 rfl) ?_
      refine lv_iload_n hx hb dX11_placeOf_4 rfl (lv_at hl 3 rfl) ?_
      refine lv_iconst (v := 4) hx hb dX11_placeOf_5 (by decide) ?_
      refine z_cVi (As := [.int x1, .int y3, .int (4 : Int32)]) (rest := []) X (c_X11_noted l dC dI cI cJ cS a u x1 y3 (4 : Int32) _ hf) zc_X11_noted q_ml_X11_77 ⟨rfl, rfl⟩ ⟨Nat.le_of_ble_eq_true rfl, Nat.le_of_ble_eq_true rfl⟩ hP [0, 1, 2, 3, 4, 5, 6, 7, 8] rfl 10 rfl rfl hl.1 rfl rfl (Nat.le_of_ble_eq_true rfl) ⟨Nat.zero_le _, Nat.zero_le _⟩ dX11_placeOf_6 (fun r_2 hf => ?_)
      refine lv_iload_n hx hb dX11_placeOf_9 rfl (lv_at hl 2 rfl) ?_
      refine lv_icmp_eq (tgt := 19) hx hb dX11_placeOf_10 (by decide) (fun c_3 => ?_) (fun c_3 => ?_)
      · have hf := hf.1 c_3
        refine lv_iload_n hx hb dX11_placeOf_19 rfl (lv_at hl 3 rfl) ?_
        exact z_retPi X hf dX11_placeOf_20
      · have hf := hf.2 c_3
        obtain ⟨x_4, ex_4⟩ : ∃ y : Int32, y = y3 + (1 : Int32) := ⟨_, rfl⟩
        have hf := hf x_4 ex_4
        refine lv_iinc (v := x_4) (lv' := [(3, .int x_4), (0, .ref (a 0)), (1, .int x1), (2, .int x2)]) hx hb dX11_placeOf_13 hl (k := 3) rfl (by rw [ex_4]; rfl) (by decide) rfl (fun ls hl => ?_)
        refine lv_goto (tgt := 2) hx hb dX11_placeOf_16 (by decide) ?_
        obtain ⟨k_5, hk_5, hf⟩ := hf
        exact (ih k_5 hk_5) _ ls hf (lv_sub hl [1, 2, 3, 0] rfl)
  unfold t_X11_placeOf_e at hf
  refine lv_iconst (v := 0) hx hb dX11_placeOf_0 (by decide) ?_
  refine lv_istore_n (lv' := [(3, .int (0 : Int32)), (0, .ref (a 0)), (1, .int x1), (2, .int x2)]) hx hb dX11_placeOf_1 rfl hl (by decide) rfl (fun ls hl => ?_)
  obtain ⟨k_1, hf⟩ := hf
  exact (LP k_1) _ ls hf (lv_sub hl [1, 2, 3, 0] rfl)
theorem gB_lt (g : zSegs) (s : Nat) {i : Nat} : ∀ j, i < j → gB g s i < gB g s j
  | 0, h => absurd h (Nat.not_lt_zero _)
  | j + 1, h => by
    by_cases q : i = j
    · subst q; show gB g s i < gB g s i + _; omega
    · have := gB_lt g s j (i := i) (by omega)
      show gB g s i < gB g s j + _
      omega
def s_X11_placeOf (u : zModel) (x1 x2 : Int32) (Q : Int32 → Prop) : Prop := ∃ (v : zState) (s j : Nat), mOk v u.2.1 ∧ s < 12 ∧ j < gN v.2.2.1 s ∧ x1 = nI s ∧ x2 = cBeg (uRec v s j) ∧ Q (nI j)
theorem st_X11_placeOf {u : zModel} {x1 x2 : Int32} {Q : Int32 → Prop} (h : s_X11_placeOf u x1 x2 Q) : v_X11_placeOf u x1 x2 Q := by
  obtain ⟨v, s, j, ⟨⟨ρ, β, mo, lm, L, S, M, B, hP⟩, hr⟩, hs, hj, rfl, rfl, h⟩ := h
  have hg := hP.2.2.2.2.2.1
  have h50 := (hg.2.1 s hs).2
  have hρ := hP.1.2.2
  have hB := (hg.2.2.2.1 s hs).2
  have hmj := gB_lt v.2.2.1 s (gN v.2.2.1 s) hj
  refine zlp1 (T := fun y K => t_X11_placeOf_2 u (nI s) (cBeg (uRec v s j)) y K Q) (E := fun K => t_X11_placeOf_e u (nI s) (cBeg (uRec v s j)) K Q) j (fun i => nI i) (fun K hK => hK) ?_ ?_
  · intro i hi K hK
    refine ⟨s, i, 4, hs, by omega, by decide, rfl, rfl, rfl, fun c => ?_, fun c x e => ?_⟩
    · rw [hr.2.2.1 s i 4 hs (by omega) (by decide)] at c
      have c : cBeg (uRec v s i) = cBeg (uRec v s j) := c
      rw [(hg.2.2.2.2.1 s hs i (by omega)).2.1, (hg.2.2.2.2.1 s hs j hj).2.1] at c
      have hlt := gB_lt v.2.2.1 s j hi
      have := (nI_eq (by omega) (by omega)).mp c
      omega
    · rw [e, nI_1]; exact hK
  · intro K
    refine ⟨s, j, 4, hs, by omega, by decide, rfl, rfl, rfl, fun _ => h, fun c => ?_⟩
    rw [hr.2.2.1 s j 4 hs hj (by decide)] at c
    exact absurd rfl c
/-- a long current card has its record -/
theorem cur_in {ρ β mo lm L S M B : Nat} {v : zState} (h : zPw ρ β mo lm L S M B v) {k : Nat} (hk : k < 64) (hl : v.1.2.1 < cLen (uCur v k)) : ∃ s j, s < 12 ∧ j < gN v.2.2.1 s ∧ uRec v s j = uCur v k := by
  have hL := h.2.2.2.2.2.2.2.2.1
  have e : uCur v k = if v.2.2.2.1.1 k = 0 then runCur v.2.2.2.1.1 (tR v.2.2.2.1) k else v.2.2.2.1.1 k := tCur_eq v.2.2.2.1 k
  by_cases h0 : v.2.2.2.1.1 k = 0
  · rw [if_pos h0] at e
    rw [e] at hl ⊢
    exact hL.2 k hk hl
  · rw [if_neg h0] at e
    rw [e]
    exact hL.1 k hk h0
theorem c_X11_placeOf (l : Launch) (dC : Nat → ClassId) (dI : Nat → Nat → Nat) (cI cJ cS : ClassId) (a : Nat → Nat) (u : zModel) (x1 : Int32) (x2 : Int32) (Q : Int32 → Prop) (hf : s_X11_placeOf u x1 x2 Q) : Met l yX11_placeOf (Cond.code yX11_placeOf cX11_placeOf 4 (some .int) :: zT) rm_X11_placeOf (zPp dC dI cI cJ cS (cl_X11 cI cJ a u) [.ref (a 0), .int x1, .int x2]) (vp_Si Q) 0 0 (fun _ => False) := by
  obtain ⟨I2, h2, hf⟩ := st_X11_placeOf hf
  exact L_X11_placeOf l dC dI cI cJ cS a u x1 x2 Q I2 h2 hf

def t_X11_seedOf (u : zModel) (x1 : Int32) (Q : Int32 → Prop) : Prop := s_X11_hasValue u x1 (fun r_1 : Int32 => ((¬ r_1 = 0 → s_X11_current u x1 (1 : Int32) (fun r_3 : Int32 => ((¬ r_3 = (2 : Int32) → s_X11_current u x1 (4 : Int32) (fun r_5 : Int32 => s_X11_current u x1 (5 : Int32) (fun r_6 : Int32 => s_X11_placeOf u r_5 r_6 (fun r_7 : Int32 => s_X11_noted u r_5 r_7 (2 : Int32) (fun r_8 : Int32 => Q r_8))))) ∧ (r_3 = (2 : Int32) → s_X11_current u x1 (3 : Int32) (fun r_9 : Int32 => Q r_9))))) ∧ (r_1 = 0 → Q (-1 : Int32))))
theorem zc_X11_seedOf : zCalV RX11 yX11_seedOf cX11_seedOf 3 (some .int) 1 := ⟨q_im_X11_seedOf, q_se_X11_seedOf, q_in_X11, q_cd_X11_seedOf, ⟨by decide, by decide, by decide +kernel⟩, rfl⟩
abbrev rm_X11_seedOf : Room := { frames := 5, cells := 0, slots := 0, locals := 109 }
set_option maxHeartbeats 4000000 in
set_option maxRecDepth 100000 in
theorem L_X11_seedOf (l : Launch) (dC : Nat → ClassId) (dI : Nat → Nat → Nat) (cI cJ cS : ClassId) (a : Nat → Nat) (u : zModel) (x1 : Int32) (Q : Int32 → Prop) (hf : t_X11_seedOf u x1 Q) : Met l yX11_seedOf (Cond.code yX11_seedOf cX11_seedOf 3 (some .int) :: zT) rm_X11_seedOf (zPp dC dI cI cJ cS (cl_X11 cI cJ a u) [.ref (a 0), .int x1]) (vp_Si Q) 0 0 (fun _ => False) := by
  refine z_enterP (cc := cX11_seedOf) (maxL := 3) (ret := (some .int)) (by decide) (Nat.le_of_ble_eq_true rfl) ?_
  intro p e s m below meth c ls X hP hl
  obtain ⟨⟨hx, hb, hml, hown, hts⟩, hr, hlk, hK⟩ := id X
  have hl : lv_has ls 3 [(0, .ref (a 0)), (1, .int x1)] := hl
  unfold t_X11_seedOf at hf
  refine lv_aload_n hx hb dX11_seedOf_0 rfl (lv_at hl 0 rfl) ?_
  refine lv_iload_n hx hb dX11_seedOf_1 rfl (lv_at hl 1 rfl) ?_
  refine z_cVi (As := [.int x1]) (rest := []) X (c_X11_hasValue l dC dI cI cJ cS a u x1 _ hf) zc_X11_hasValue q_ml_X11_81 ⟨rfl, rfl⟩ ⟨Nat.le_of_ble_eq_true rfl, Nat.le_of_ble_eq_true rfl⟩ hP [0, 1, 2, 3, 4, 5, 6, 7, 8] rfl 10 rfl rfl hl.1 rfl rfl (Nat.le_of_ble_eq_true rfl) ⟨Nat.zero_le _, Nat.zero_le _⟩ dX11_seedOf_2 (fun r_1 hf => ?_)
  obtain ⟨hbr_1, hf⟩ := hf
  refine lv_if_ne (tgt := 10) hx hb dX11_seedOf_5 (by decide) (fun c_2 => ?_) (fun c_2 => ?_)
  · have hf := hf.1 c_2
    refine lv_aload_n hx hb dX11_seedOf_10 rfl (lv_at hl 0 rfl) ?_
    refine lv_iload_n hx hb dX11_seedOf_11 rfl (lv_at hl 1 rfl) ?_
    refine lv_iconst (v := 1) hx hb dX11_seedOf_12 (by decide) ?_
    refine z_cVi (As := [.int x1, .int (1 : Int32)]) (rest := []) X (c_X11_current l dC dI cI cJ cS a u x1 (1 : Int32) _ hf) zc_X11_current q_ml_X11_74 ⟨rfl, rfl⟩ ⟨Nat.le_of_ble_eq_true rfl, Nat.le_of_ble_eq_true rfl⟩ hP [0, 1, 2, 3, 4, 5, 6, 7, 8] rfl 10 rfl rfl hl.1 rfl rfl (Nat.le_of_ble_eq_true rfl) ⟨Nat.zero_le _, Nat.zero_le _⟩ dX11_seedOf_13 (fun r_3 hf => ?_)
    refine lv_iconst (v := 2) hx hb dX11_seedOf_16 (by decide) ?_
    refine lv_icmp_ne (tgt := 27) hx hb dX11_seedOf_17 (by decide) (fun c_4 => ?_) (fun c_4 => ?_)
    · have hf := hf.1 c_4
      refine lv_aload_n hx hb dX11_seedOf_27 rfl (lv_at hl 0 rfl) ?_
      refine lv_iload_n hx hb dX11_seedOf_28 rfl (lv_at hl 1 rfl) ?_
      refine lv_iconst (v := 4) hx hb dX11_seedOf_29 (by decide) ?_
      refine z_cVi (As := [.int x1, .int (4 : Int32)]) (rest := []) X (c_X11_current l dC dI cI cJ cS a u x1 (4 : Int32) _ hf) zc_X11_current q_ml_X11_74 ⟨rfl, rfl⟩ ⟨Nat.le_of_ble_eq_true rfl, Nat.le_of_ble_eq_true rfl⟩ hP [0, 1, 2, 3, 4, 5, 6, 7, 8] rfl 10 rfl rfl hl.1 rfl rfl (Nat.le_of_ble_eq_true rfl) ⟨Nat.zero_le _, Nat.zero_le _⟩ dX11_seedOf_30 (fun r_5 hf => ?_)
      refine lv_istore_n (lv' := [(2, .int r_5), (0, .ref (a 0)), (1, .int x1)]) hx hb dX11_seedOf_33 rfl hl (by decide) rfl (fun ls hl => ?_)
      refine lv_aload_n hx hb dX11_seedOf_34 rfl (lv_at hl 1 rfl) ?_
      refine lv_iload_n hx hb dX11_seedOf_35 rfl (lv_at hl 0 rfl) ?_
      refine lv_aload_n hx hb dX11_seedOf_36 rfl (lv_at hl 1 rfl) ?_
      refine lv_iload_n hx hb dX11_seedOf_37 rfl (lv_at hl 0 rfl) ?_
      refine lv_aload_n hx hb dX11_seedOf_38 rfl (lv_at hl 1 rfl) ?_
      refine lv_iload_n hx hb dX11_seedOf_39 rfl (lv_at hl 2 rfl) ?_
      refine lv_iconst (v := 5) hx hb dX11_seedOf_40 (by decide) ?_
      refine z_cVi (As := [.int x1, .int (5 : Int32)]) (rest := [.int r_5, .ref (a 0), .int r_5, .ref (a 0)]) X (c_X11_current l dC dI cI cJ cS a u x1 (5 : Int32) _ hf) zc_X11_current q_ml_X11_74 ⟨rfl, rfl⟩ ⟨Nat.le_of_ble_eq_true rfl, Nat.le_of_ble_eq_true rfl⟩ hP [0, 1, 2, 3, 4, 5, 6, 7, 8] rfl 10 rfl rfl hl.1 rfl rfl (Nat.le_of_ble_eq_true rfl) ⟨Nat.zero_le _, Nat.zero_le _⟩ dX11_seedOf_41 (fun r_6 hf => ?_)
      refine z_cVi (As := [.int r_5, .int r_6]) (rest := [.int r_5, .ref (a 0)]) X (c_X11_placeOf l dC dI cI cJ cS a u r_5 r_6 _ hf) zc_X11_placeOf q_ml_X11_85 ⟨rfl, rfl⟩ ⟨Nat.le_of_ble_eq_true rfl, Nat.le_of_ble_eq_true rfl⟩ hP [0, 1, 2, 3, 4, 5, 6, 7, 8] rfl 10 rfl rfl hl.1 rfl rfl (Nat.le_of_ble_eq_true rfl) ⟨Nat.zero_le _, Nat.zero_le _⟩ dX11_seedOf_44 (fun r_7 hf => ?_)
      refine lv_iconst (v := 2) hx hb dX11_seedOf_47 (by decide) ?_
      refine z_cVi (As := [.int r_5, .int r_7, .int (2 : Int32)]) (rest := []) X (c_X11_noted l dC dI cI cJ cS a u r_5 r_7 (2 : Int32) _ hf) zc_X11_noted q_ml_X11_77 ⟨rfl, rfl⟩ ⟨Nat.le_of_ble_eq_true rfl, Nat.le_of_ble_eq_true rfl⟩ hP [0, 1, 2, 3, 4, 5, 6, 7, 8] rfl 10 rfl rfl hl.1 rfl rfl (Nat.le_of_ble_eq_true rfl) ⟨Nat.zero_le _, Nat.zero_le _⟩ dX11_seedOf_48 (fun r_8 hf => ?_)
      exact z_retPi X hf dX11_seedOf_51
    · have hf := hf.2 c_4
      refine lv_aload_n hx hb dX11_seedOf_20 rfl (lv_at hl 0 rfl) ?_
      refine lv_iload_n hx hb dX11_seedOf_21 rfl (lv_at hl 1 rfl) ?_
      refine lv_iconst (v := 3) hx hb dX11_seedOf_22 (by decide) ?_
      refine z_cVi (As := [.int x1, .int (3 : Int32)]) (rest := []) X (c_X11_current l dC dI cI cJ cS a u x1 (3 : Int32) _ hf) zc_X11_current q_ml_X11_74 ⟨rfl, rfl⟩ ⟨Nat.le_of_ble_eq_true rfl, Nat.le_of_ble_eq_true rfl⟩ hP [0, 1, 2, 3, 4, 5, 6, 7, 8] rfl 10 rfl rfl hl.1 rfl rfl (Nat.le_of_ble_eq_true rfl) ⟨Nat.zero_le _, Nat.zero_le _⟩ dX11_seedOf_23 (fun r_9 hf => ?_)
      exact z_retPi X hf dX11_seedOf_26
  · have hf := hf.2 c_2
    refine lv_iconst (v := (-1)) hx hb dX11_seedOf_8 (by decide) ?_
    exact z_retPi X hf dX11_seedOf_9
def s_X11_seedOf (u : zModel) (x1 : Int32) (Q : Int32 → Prop) : Prop := ∃ (v : zState) (k : Nat), mOk v u.2.1 ∧ k < 64 ∧ x1 = nI k ∧ Q (uSeedF v k)
theorem st_X11_seedOf {u : zModel} {x1 : Int32} {Q : Int32 → Prop} (h : s_X11_seedOf u x1 Q) : t_X11_seedOf u x1 Q := by
  obtain ⟨v, k, hm, hk, rfl, h⟩ := h
  obtain ⟨⟨ρ, β, mo, lm, L, S, M, B, hP⟩, hr⟩ := id hm
  have hg := hP.2.2.2.2.2.1
  unfold uSeedF at h
  refine ⟨v, k, hm, hk, rfl, fun hv => ⟨fun _ => ⟨v, k, 1, hm, hk, by decide, rfl, rfl, ?_⟩, fun q => absurd q (by decide)⟩, fun hv => ⟨fun q => absurd rfl q, fun _ => ?_⟩⟩
  · obtain ⟨q1, q2⟩ := val_ne hv
    rw [if_pos hv] at h
    rw [curF_1]
    refine ⟨fun c => ?_, fun c => ⟨v, k, 3, hm, hk, by decide, rfl, rfl, ?_⟩⟩
    · have hl : v.1.2.1 < cLen (uCur v k) := by
        unfold uKind at c
        rw [if_neg q1, if_neg (fun q => q2 ((cDrop_iff _).mp q))] at c
        by_cases z : v.1.2.1 < cLen (uCur v k)
        · exact z
        · rw [if_neg z] at c; exact absurd rfl c
      obtain ⟨s, j, hs, hj, e⟩ := cur_in hP hk hl
      have h50 := (hg.2.1 s hs).2
      have hro := hg.2.2.2.2.1 s hs j hj
      have e4 : curF v k 4 = nI s := by
        unfold curF
        rw [if_neg q1]
        show cSeg (uCur v k) = _
        rw [← e]; exact hro.1
      have e5 : curF v k 5 = cBeg (uRec v s j) := by
        unfold curF
        rw [if_neg q1]
        show cBeg (uCur v k) = _
        rw [e]
      refine ⟨v, k, 4, hm, hk, by decide, rfl, rfl, v, k, 5, hm, hk, by decide, rfl, rfl, ?_⟩
      rw [e4, e5]
      refine ⟨v, s, j, hm, hs, hj, rfl, rfl, s, j, 2, hs, by omega, by decide, rfl, rfl, rfl, ?_⟩
      rw [hr.2.2.1 s j 2 hs hj (by decide)]
      show Q (cSeed (uRec v s j))
      rw [e]; exact h
    · unfold curF
      rw [if_neg q1]; exact h
  · rw [if_neg (by rw [hv]; decide)] at h; exact h
theorem c_X11_seedOf (l : Launch) (dC : Nat → ClassId) (dI : Nat → Nat → Nat) (cI cJ cS : ClassId) (a : Nat → Nat) (u : zModel) (x1 : Int32) (Q : Int32 → Prop) (hf : s_X11_seedOf u x1 Q) : Met l yX11_seedOf (Cond.code yX11_seedOf cX11_seedOf 3 (some .int) :: zT) rm_X11_seedOf (zPp dC dI cI cJ cS (cl_X11 cI cJ a u) [.ref (a 0), .int x1]) (vp_Si Q) 0 0 (fun _ => False) := L_X11_seedOf l dC dI cI cJ cS a u x1 Q (st_X11_seedOf hf)

def t_X11_isLive (u : zModel) (x1 : Int32) (x2 : Int32) (Q : Int32 → Prop) : Prop := s_X11_noted u x1 x2 (0 : Int32) (fun r_1 : Int32 => s_X11_current u r_1 (1 : Int32) (fun r_2 : Int32 => ((¬ r_2 = (3 : Int32) → Q (0 : Int32)) ∧ (r_2 = (3 : Int32) → s_X11_current u r_1 (4 : Int32) (fun r_4 : Int32 => ((¬ r_4 = x1 → Q (0 : Int32)) ∧ (r_4 = x1 → s_X11_current u r_1 (5 : Int32) (fun r_6 : Int32 => s_X11_noted u x1 x2 (4 : Int32) (fun r_7 : Int32 => ((¬ r_6 = r_7 → Q (0 : Int32)) ∧ (r_6 = r_7 → Q (1 : Int32))))))))))))
theorem zc_X11_isLive : zCalV RX11 yX11_isLive cX11_isLive 4 (some .boolean) 2 := ⟨q_im_X11_isLive, q_se_X11_isLive, q_in_X11, q_cd_X11_isLive, ⟨by decide, by decide, by decide +kernel⟩, rfl⟩
abbrev rm_X11_isLive : Room := { frames := 4, cells := 0, slots := 0, locals := 88 }
set_option maxHeartbeats 4000000 in
set_option maxRecDepth 100000 in
theorem L_X11_isLive (l : Launch) (dC : Nat → ClassId) (dI : Nat → Nat → Nat) (cI cJ cS : ClassId) (a : Nat → Nat) (u : zModel) (x1 : Int32) (x2 : Int32) (Q : Int32 → Prop) (hf : t_X11_isLive u x1 x2 Q) : Met l yX11_isLive (Cond.code yX11_isLive cX11_isLive 4 (some .boolean) :: zT) rm_X11_isLive (zPp dC dI cI cJ cS (cl_X11 cI cJ a u) [.ref (a 0), .int x1, .int x2]) (vp_Si (fun r => (r = 0 ∨ r = 1) ∧ Q r)) 0 0 (fun _ => False) := by
  refine z_enterP (cc := cX11_isLive) (maxL := 4) (ret := (some .boolean)) (by decide) (Nat.le_of_ble_eq_true rfl) ?_
  intro p e s m below meth c ls X hP hl
  obtain ⟨⟨hx, hb, hml, hown, hts⟩, hr, hlk, hK⟩ := id X
  have hl : lv_has ls 4 [(0, .ref (a 0)), (1, .int x1), (2, .int x2)] := hl
  unfold t_X11_isLive at hf
  refine lv_aload_n hx hb dX11_isLive_0 rfl (lv_at hl 0 rfl) ?_
  refine lv_iload_n hx hb dX11_isLive_1 rfl (lv_at hl 1 rfl) ?_
  refine lv_iload_n hx hb dX11_isLive_2 rfl (lv_at hl 2 rfl) ?_
  refine lv_iconst (v := 0) hx hb dX11_isLive_3 (by decide) ?_
  refine z_cVi (As := [.int x1, .int x2, .int (0 : Int32)]) (rest := []) X (c_X11_noted l dC dI cI cJ cS a u x1 x2 (0 : Int32) _ hf) zc_X11_noted q_ml_X11_77 ⟨rfl, rfl⟩ ⟨Nat.le_of_ble_eq_true rfl, Nat.le_of_ble_eq_true rfl⟩ hP [0, 1, 2, 3, 4, 5, 6, 7, 8] rfl 10 rfl rfl hl.1 rfl rfl (Nat.le_of_ble_eq_true rfl) ⟨Nat.zero_le _, Nat.zero_le _⟩ dX11_isLive_4 (fun r_1 hf => ?_)
  refine lv_istore_n (lv' := [(3, .int r_1), (0, .ref (a 0)), (1, .int x1), (2, .int x2)]) hx hb dX11_isLive_7 rfl hl (by decide) rfl (fun ls hl => ?_)
  refine lv_aload_n hx hb dX11_isLive_8 rfl (lv_at hl 1 rfl) ?_
  refine lv_iload_n hx hb dX11_isLive_9 rfl (lv_at hl 0 rfl) ?_
  refine lv_iconst (v := 1) hx hb dX11_isLive_10 (by decide) ?_
  refine z_cVi (As := [.int r_1, .int (1 : Int32)]) (rest := []) X (c_X11_current l dC dI cI cJ cS a u r_1 (1 : Int32) _ hf) zc_X11_current q_ml_X11_74 ⟨rfl, rfl⟩ ⟨Nat.le_of_ble_eq_true rfl, Nat.le_of_ble_eq_true rfl⟩ hP [0, 1, 2, 3, 4, 5, 6, 7, 8] rfl 10 rfl rfl hl.1 rfl rfl (Nat.le_of_ble_eq_true rfl) ⟨Nat.zero_le _, Nat.zero_le _⟩ dX11_isLive_11 (fun r_2 hf => ?_)
  refine lv_iconst (v := 3) hx hb dX11_isLive_14 (by decide) ?_
  refine lv_icmp_ne (tgt := 48) hx hb dX11_isLive_15 (by decide) (fun c_3 => ?_) (fun c_3 => ?_)
  · have hf := hf.1 c_3
    refine lv_iconst (v := 0) hx hb dX11_isLive_48 (by decide) ?_
    exact z_retPz X (Or.inl rfl) hf dX11_isLive_49
  · have hf := hf.2 c_3
    refine lv_aload_n hx hb dX11_isLive_18 rfl (lv_at hl 1 rfl) ?_
    refine lv_iload_n hx hb dX11_isLive_19 rfl (lv_at hl 0 rfl) ?_
    refine lv_iconst (v := 4) hx hb dX11_isLive_20 (by decide) ?_
    refine z_cVi (As := [.int r_1, .int (4 : Int32)]) (rest := []) X (c_X11_current l dC dI cI cJ cS a u r_1 (4 : Int32) _ hf) zc_X11_current q_ml_X11_74 ⟨rfl, rfl⟩ ⟨Nat.le_of_ble_eq_true rfl, Nat.le_of_ble_eq_true rfl⟩ hP [0, 1, 2, 3, 4, 5, 6, 7, 8] rfl 10 rfl rfl hl.1 rfl rfl (Nat.le_of_ble_eq_true rfl) ⟨Nat.zero_le _, Nat.zero_le _⟩ dX11_isLive_21 (fun r_4 hf => ?_)
    refine lv_iload_n hx hb dX11_isLive_24 rfl (lv_at hl 2 rfl) ?_
    refine lv_icmp_ne (tgt := 48) hx hb dX11_isLive_25 (by decide) (fun c_5 => ?_) (fun c_5 => ?_)
    · have hf := hf.1 c_5
      refine lv_iconst (v := 0) hx hb dX11_isLive_48 (by decide) ?_
      exact z_retPz X (Or.inl rfl) hf dX11_isLive_49
    · have hf := hf.2 c_5
      refine lv_aload_n hx hb dX11_isLive_28 rfl (lv_at hl 1 rfl) ?_
      refine lv_iload_n hx hb dX11_isLive_29 rfl (lv_at hl 0 rfl) ?_
      refine lv_iconst (v := 5) hx hb dX11_isLive_30 (by decide) ?_
      refine z_cVi (As := [.int r_1, .int (5 : Int32)]) (rest := []) X (c_X11_current l dC dI cI cJ cS a u r_1 (5 : Int32) _ hf) zc_X11_current q_ml_X11_74 ⟨rfl, rfl⟩ ⟨Nat.le_of_ble_eq_true rfl, Nat.le_of_ble_eq_true rfl⟩ hP [0, 1, 2, 3, 4, 5, 6, 7, 8] rfl 10 rfl rfl hl.1 rfl rfl (Nat.le_of_ble_eq_true rfl) ⟨Nat.zero_le _, Nat.zero_le _⟩ dX11_isLive_31 (fun r_6 hf => ?_)
      refine lv_aload_n hx hb dX11_isLive_34 rfl (lv_at hl 1 rfl) ?_
      refine lv_iload_n hx hb dX11_isLive_35 rfl (lv_at hl 2 rfl) ?_
      refine lv_iload_n hx hb dX11_isLive_36 rfl (lv_at hl 3 rfl) ?_
      refine lv_iconst (v := 4) hx hb dX11_isLive_37 (by decide) ?_
      refine z_cVi (As := [.int x1, .int x2, .int (4 : Int32)]) (rest := [.int r_6]) X (c_X11_noted l dC dI cI cJ cS a u x1 x2 (4 : Int32) _ hf) zc_X11_noted q_ml_X11_77 ⟨rfl, rfl⟩ ⟨Nat.le_of_ble_eq_true rfl, Nat.le_of_ble_eq_true rfl⟩ hP [0, 1, 2, 3, 4, 5, 6, 7, 8] rfl 10 rfl rfl hl.1 rfl rfl (Nat.le_of_ble_eq_true rfl) ⟨Nat.zero_le _, Nat.zero_le _⟩ dX11_isLive_38 (fun r_7 hf => ?_)
      refine lv_icmp_ne (tgt := 48) hx hb dX11_isLive_41 (by decide) (fun c_8 => ?_) (fun c_8 => ?_)
      · have hf := hf.1 c_8
        refine lv_iconst (v := 0) hx hb dX11_isLive_48 (by decide) ?_
        exact z_retPz X (Or.inl rfl) hf dX11_isLive_49
      · have hf := hf.2 c_8
        refine lv_iconst (v := 1) hx hb dX11_isLive_44 (by decide) ?_
        refine lv_goto (tgt := 49) hx hb dX11_isLive_45 (by decide) ?_
        exact z_retPz X (Or.inr rfl) hf dX11_isLive_49
def s_X11_isLive (u : zModel) (x1 x2 : Int32) (Q : Int32 → Prop) : Prop := ∃ (v : zState) (s j : Nat), mOk v u.2.1 ∧ s < 12 ∧ j < gN v.2.2.1 s ∧ x1 = nI s ∧ x2 = nI j ∧ (uLiv v (uRec v s j) = true → Q 1) ∧ (uLiv v (uRec v s j) = false → Q 0)
theorem kind3 {b : Int32} (hb : 0 ≤ b) (c : Int64) : uKind b c = 3 ↔ b < cLen c := by
  unfold uKind
  by_cases h : c = 0
  · rw [if_pos h, h, cLen_0]
    exact ⟨fun q => absurd q (by decide), fun q => absurd hb (fa_of_lt q).2.1⟩
  · rw [if_neg h]
    by_cases h2 : c &&& 16128 = 0
    · rw [if_pos h2, (cDrop_iff c).mp h2]
      exact ⟨fun q => absurd q (by decide), fun q => absurd hb (fa_of_lt q).2.1⟩
    · rw [if_neg h2]
      by_cases h3 : b < cLen c
      · rw [if_pos h3]; exact ⟨fun _ => h3, fun _ => rfl⟩
      · rw [if_neg h3]; exact ⟨fun q => absurd q (by decide), fun q => absurd q h3⟩
theorem st_X11_isLive {u : zModel} {x1 x2 : Int32} {Q : Int32 → Prop} (h : s_X11_isLive u x1 x2 Q) : t_X11_isLive u x1 x2 Q := by
  obtain ⟨v, s, j, hm, hs, hj, rfl, rfl, h1, h0⟩ := h
  obtain ⟨⟨ρ, β, mo, lm, L, S, M, B, hP⟩, hr⟩ := id hm
  have hg := hP.2.2.2.2.2.1
  have h50 := (hg.2.1 s hs).2
  have hro := hg.2.2.2.2.1 s hs j hj
  have hb : 0 ≤ v.1.2.1 := by rw [hP.2.1.1]; exact n_b0 hP.2.1.2
  have hk := kN_lt (uRec v s j)
  refine ⟨s, j, 0, hs, by omega, by decide, rfl, rfl, rfl, ?_⟩
  rw [hr.2.2.1 s j 0 hs hj (by decide)]
  refine ⟨v, kN (uRec v s j), 1, hm, hk, by decide, kN_eq _, rfl, ?_⟩
  rw [curF_1]
  refine ⟨fun c => h0 (decide_eq_false (fun q => c ?_)), fun c => ?_⟩
  · rw [q.2]; exact (kind3 hb _).mpr q.1
  · have hl := (kind3 hb _).mp c
    have hc0 : ¬ uCur v (kN (uRec v s j)) = 0 := fun q => by
      rw [q, cLen_0] at hl
      exact absurd hb (fa_of_lt hl).2.1
    obtain ⟨s0, j0, hs0, hj0, e⟩ := cur_in hP hk hl
    have hro0 := hg.2.2.2.2.1 s0 hs0 j0 hj0
    have e4 : curF v (kN (uRec v s j)) 4 = nI s0 := by
      unfold curF
      rw [if_neg hc0]
      show cSeg (uCur v _) = _
      rw [← e]; exact hro0.1
    have e5 : curF v (kN (uRec v s j)) 5 = nI (gB v.2.2.1 s0 j0) := by
      unfold curF
      rw [if_neg hc0]
      show cBeg (uCur v _) = _
      rw [← e]; exact hro0.2.1
    refine ⟨v, kN (uRec v s j), 4, hm, hk, by decide, kN_eq _, rfl, ?_⟩
    rw [e4]
    refine ⟨fun c2 => h0 (decide_eq_false (fun q => c2 ?_)), fun c2 => ⟨v, kN (uRec v s j), 5, hm, hk, by decide, kN_eq _, rfl, ?_⟩⟩
    · exact (hro0.1.symm.trans (by show cSeg (uRec v s0 j0) = _; rw [e, q.2])).trans hro.1
    · have hss : s0 = s := (nI_eq (by omega) (by omega)).mp c2
      subst hss
      rw [e5]
      refine ⟨s0, j, 4, hs, by omega, by decide, rfl, rfl, rfl, ?_⟩
      rw [hr.2.2.1 s0 j 4 hs hj (by decide)]
      show (¬ nI (gB v.2.2.1 s0 j0) = cBeg (uRec v s0 j) → _) ∧ (nI (gB v.2.2.1 s0 j0) = cBeg (uRec v s0 j) → _)
      rw [hro.2.1]
      have hB := (hg.2.2.2.1 s0 hs).2
      have hρ := hP.1.2.2
      have hmj := gB_lt v.2.2.1 s0 (gN v.2.2.1 s0) hj
      have hmj0 := gB_lt v.2.2.1 s0 (gN v.2.2.1 s0) hj0
      refine ⟨fun c3 => h0 (decide_eq_false (fun q => c3 ?_)), fun c3 => h1 (decide_eq_true ?_)⟩
      · have : cBeg (uRec v s0 j0) = cBeg (uRec v s0 j) := by rw [e, q.2]
        rw [← hro.2.1, ← this]; exact hro0.2.1.symm
      · have hjj : j0 = j := by
          have := (nI_eq (by omega) (by omega)).mp c3
          rcases Nat.lt_trichotomy j0 j with q | q | q
          · have := gB_lt v.2.2.1 s0 j q; omega
          · exact q
          · have := gB_lt v.2.2.1 s0 j0 q; omega
        subst hjj
        rw [← e] at hl
        exact ⟨hl, e.symm⟩
theorem c_X11_isLive (l : Launch) (dC : Nat → ClassId) (dI : Nat → Nat → Nat) (cI cJ cS : ClassId) (a : Nat → Nat) (u : zModel) (x1 : Int32) (x2 : Int32) (Q : Int32 → Prop) (hf : s_X11_isLive u x1 x2 Q) : Met l yX11_isLive (Cond.code yX11_isLive cX11_isLive 4 (some .boolean) :: zT) rm_X11_isLive (zPp dC dI cI cJ cS (cl_X11 cI cJ a u) [.ref (a 0), .int x1, .int x2]) (vp_Si (fun r => (r = 0 ∨ r = 1) ∧ Q r)) 0 0 (fun _ => False) := L_X11_isLive l dC dI cI cJ cS a u x1 x2 Q (st_X11_isLive hf)

def s_X11_left (u : zModel) (Q : Int32 → Prop) : Prop := vp_in (9 : Int32) 5497 ∧ vp_in (10 : Int32) 5497 ∧ Q ((u.2.1 (9 : Int32).toNatClampNeg) - (u.2.1 (10 : Int32).toNatClampNeg))
theorem zc_X11_left : zCalV RX11 yX11_left cX11_left 1 (some .int) 0 := ⟨q_im_X11_left, q_se_X11_left, q_in_X11, q_cd_X11_left, ⟨by decide, by decide, by decide +kernel⟩, rfl⟩
abbrev rm_X11_left : Room := { frames := 0, cells := 0, slots := 0, locals := 0 }
set_option maxHeartbeats 4000000 in
set_option maxRecDepth 100000 in
theorem c_X11_left (l : Launch) (dC : Nat → ClassId) (dI : Nat → Nat → Nat) (cI cJ cS : ClassId) (a : Nat → Nat) (u : zModel) (Q : Int32 → Prop) (hf : s_X11_left u Q) : Met l yX11_left (Cond.code yX11_left cX11_left 1 (some .int) :: zT) rm_X11_left (zPp dC dI cI cJ cS (cl_X11 cI cJ a u) [.ref (a 0)]) (vp_Si Q) 0 0 (fun _ => False) := by
  refine z_enterP (cc := cX11_left) (maxL := 1) (ret := (some .int)) (by decide) (Nat.le_of_ble_eq_true rfl) ?_
  intro p e s m below meth c ls X hP hl
  obtain ⟨⟨hx, hb, hml, hown, hts⟩, hr, hlk, hK⟩ := id X
  have hl : lv_has ls 1 [(0, .ref (a 0))] := hl
  unfold s_X11_left at hf
  refine lv_aload_n hx hb dX11_left_0 rfl (lv_at hl 0 rfl) ?_
  refine va_get (D := (dC, dI)) (ci := 10) (v := .ref (a 1)) (C := RX11) (T := TX11) (N := 17) hx hb hts inX11 hown hK hP 0 rfl rfl 1 (by decide) (hts _ q_fl_X11_7) (fun _ h9 => h9) rfl dX11_left_1 ?_
  refine lv_bipush (v := 9) hx hb dX11_left_4 (by decide) ?_
  obtain ⟨hg, hf⟩ := hf
  refine va_iald hx hb hK hP 1 0 rfl rfl hg dX11_left_6 ?_
  refine lv_aload_n hx hb dX11_left_7 rfl (lv_at hl 0 rfl) ?_
  refine va_get (D := (dC, dI)) (ci := 10) (v := .ref (a 1)) (C := RX11) (T := TX11) (N := 17) hx hb hts inX11 hown hK hP 0 rfl rfl 1 (by decide) (hts _ q_fl_X11_7) (fun _ h9 => h9) rfl dX11_left_8 ?_
  refine lv_bipush (v := 10) hx hb dX11_left_11 (by decide) ?_
  obtain ⟨hg, hf⟩ := hf
  refine va_iald hx hb hK hP 1 0 rfl rfl hg dX11_left_13 ?_
  refine lv_isub hx hb dX11_left_14 ?_
  exact z_retPi X hf dX11_left_15
