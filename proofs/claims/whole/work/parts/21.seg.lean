def t_X4_copyFrom (u : zSegs) (v : zSegs) (Q : zSegs × zSegs → Prop) : Prop := (¬ (0 : Int32) < 0 ∧ ¬ (0 : Int32) < 0 ∧ ¬ (600 : Int32) < 0 ∧ (0 : Int32).toNatClampNeg + (600 : Int32).toNatClampNeg ≤ 600 ∧ (0 : Int32).toNatClampNeg + (600 : Int32).toNatClampNeg ≤ 600) ∧ ∃ f_1 : Nat → Int64, (∀ k : Nat, k < 600 → f_1 k = va_cpy v.1 u.1 (0 : Int32).toNatClampNeg (0 : Int32).toNatClampNeg (600 : Int32).toNatClampNeg k) ∧ (¬ (0 : Int32) < 0 ∧ ¬ (0 : Int32) < 0 ∧ ¬ (12 : Int32) < 0 ∧ (0 : Int32).toNatClampNeg + (12 : Int32).toNatClampNeg ≤ 12 ∧ (0 : Int32).toNatClampNeg + (12 : Int32).toNatClampNeg ≤ 12) ∧ ∃ f_2 : Nat → Int32, (∀ k : Nat, k < 12 → f_2 k = va_cpy v.2.1 u.2.1 (0 : Int32).toNatClampNeg (0 : Int32).toNatClampNeg (12 : Int32).toNatClampNeg k) ∧ (¬ (0 : Int32) < 0 ∧ ¬ (0 : Int32) < 0 ∧ ¬ (12 : Int32) < 0 ∧ (0 : Int32).toNatClampNeg + (12 : Int32).toNatClampNeg ≤ 12 ∧ (0 : Int32).toNatClampNeg + (12 : Int32).toNatClampNeg ≤ 12) ∧ ∃ f_3 : Nat → Int32, (∀ k : Nat, k < 12 → f_3 k = va_cpy v.2.2.1 u.2.2.1 (0 : Int32).toNatClampNeg (0 : Int32).toNatClampNeg (12 : Int32).toNatClampNeg k) ∧ (¬ (0 : Int32) < 0 ∧ ¬ (0 : Int32) < 0 ∧ ¬ (12 : Int32) < 0 ∧ (0 : Int32).toNatClampNeg + (12 : Int32).toNatClampNeg ≤ 12 ∧ (0 : Int32).toNatClampNeg + (12 : Int32).toNatClampNeg ≤ 12) ∧ ∃ f_4 : Nat → Int32, (∀ k : Nat, k < 12 → f_4 k = va_cpy v.2.2.2.1 u.2.2.2.1 (0 : Int32).toNatClampNeg (0 : Int32).toNatClampNeg (12 : Int32).toNatClampNeg k) ∧ ∀ x_5 : Int32, x_5 = v.2.2.2.2 → Q ((f_1, f_2, f_3, f_4, x_5), v)
theorem zc_X4_copyFrom : zCalV RX4 yX4_copyFrom cX4_copyFrom 2 none 1 := ⟨q_im_X4_copyFrom, q_se_X4_copyFrom, q_in_X4, q_cd_X4_copyFrom, ⟨by decide, by decide, by decide +kernel⟩, rfl⟩
abbrev rm_X4_copyFrom : Room := { frames := 1, cells := 0, slots := 0, locals := 48 }
set_option maxHeartbeats 4000000 in
set_option maxRecDepth 100000 in
theorem L_X4_copyFrom (l : Launch) (dC : Nat → ClassId) (dI : Nat → Nat → Nat) (cI cJ cS : ClassId) (a : Nat → Nat) (b : Nat → Nat) (u : zSegs) (v : zSegs) (Q : zSegs × zSegs → Prop) (hf : t_X4_copyFrom u v Q) : ∀ sz : Nat, Met l yX4_copyFrom (Cond.code yX4_copyFrom cX4_copyFrom 2 none :: zT) rm_X4_copyFrom (zPm dC dI cI cJ cS (cl_X4 cI cJ a u ++ cl_X4 cI cJ b v) [.ref (a 0), .ref (b 0)] sz) (va_Qv Q (zB dC dI cI cJ cS (va_A (cl_X4 cI cJ a u ++ cl_X4 cI cJ b v) sz) (fun z => cl_X4 cI cJ a z.1 ++ cl_X4 cI cJ b z.2)) (va_A (cl_X4 cI cJ a u ++ cl_X4 cI cJ b v) sz)) 0 0 (va_A (cl_X4 cI cJ a u ++ cl_X4 cI cJ b v) sz) := by
  intro sz
  refine z_enterM (Qc := fun A => va_Qv Q (zB dC dI cI cJ cS A (fun z => cl_X4 cI cJ a z.1 ++ cl_X4 cI cJ b z.2)) A) (cc := cX4_copyFrom) (maxL := 2) (ret := none) (by decide) (Nat.le_of_ble_eq_true rfl) ?_
  intro p e s m below meth c ls A X hP hD hS hA hl
  obtain ⟨⟨hx, hb, hml, hown, hts⟩, hr, hlk, hK⟩ := id X
  have hl : lv_has ls 2 [(0, .ref (a 0)), (1, .ref (b 0))] := hl
  unfold t_X4_copyFrom at hf
  refine lv_aload_n hx hb dX4_copyFrom_0 rfl (lv_at hl 1 rfl) ?_
  refine va_get (D := (dC, dI)) (ci := 3) (v := .ref (b 1)) (C := RX4) (T := TX4) (N := 5) hx hb hts inX4 hown hK hP 5 rfl rfl 0 (by decide) (hts _ q_fl_X4_9) (fun _ h9 => h9) rfl dX4_copyFrom_1 ?_
  refine lv_iconst (v := 0) hx hb dX4_copyFrom_4 (by decide) ?_
  refine lv_aload_n hx hb dX4_copyFrom_5 rfl (lv_at hl 0 rfl) ?_
  refine va_get (D := (dC, dI)) (ci := 3) (v := .ref (a 1)) (C := RX4) (T := TX4) (N := 5) hx hb hts inX4 hown hK hP 0 rfl rfl 0 (by decide) (hts _ q_fl_X4_9) (fun _ h9 => h9) rfl dX4_copyFrom_6 ?_
  refine lv_iconst (v := 0) hx hb dX4_copyFrom_9 (by decide) ?_
  refine lv_aload_n hx hb dX4_copyFrom_10 rfl (lv_at hl 0 rfl) ?_
  refine va_get (D := (dC, dI)) (ci := 3) (v := .ref (a 1)) (C := RX4) (T := TX4) (N := 5) hx hb hts inX4 hown hK hP 0 rfl rfl 0 (by decide) (hts _ q_fl_X4_9) (fun _ h9 => h9) rfl dX4_copyFrom_11 ?_
  refine va_alen (v := 600) hx hb hK hP 1 1 rfl (ty := .long) rfl rfl dX4_copyFrom_14 ?_
  obtain ⟨⟨g1, g2, g3, g4, g5⟩, f_1, ef_1, hf⟩ := hf
  refine z_copyl (Wn := fun f_1 => cl_X4 cI cJ a (f_1, u.2.1, u.2.2.1, u.2.2.2.1, u.2.2.2.2) ++ cl_X4 cI cJ b v) (idx := 25) X (hts _ q_ml_X4_25) (hts _ q_na_copy) (hts _ q_st_copy) (hts _ q_in_System) hl.1 hP hD hS 6 1 rfl rfl g1 g2 g3 g4 g5 (Nat.le_of_ble_eq_true rfl) (Nat.le_of_ble_eq_true rfl) (fun _ => rfl) f_1 ef_1 dX4_copyFrom_15 (fun H locs hP hD hS => ?_)
  refine lv_aload_n hx hb dX4_copyFrom_18 rfl (lv_at hl 1 rfl) ?_
  refine va_get (D := (dC, dI)) (ci := 3) (v := .ref (b 2)) (C := RX4) (T := TX4) (N := 5) hx hb hts inX4 hown hK hP 5 rfl rfl 1 (by decide) (hts _ q_fl_X4_15) (fun _ h9 => h9) rfl dX4_copyFrom_19 ?_
  refine lv_iconst (v := 0) hx hb dX4_copyFrom_22 (by decide) ?_
  refine lv_aload_n hx hb dX4_copyFrom_23 rfl (lv_at hl 0 rfl) ?_
  refine va_get (D := (dC, dI)) (ci := 3) (v := .ref (a 2)) (C := RX4) (T := TX4) (N := 5) hx hb hts inX4 hown hK hP 0 rfl rfl 1 (by decide) (hts _ q_fl_X4_15) (fun _ h9 => h9) rfl dX4_copyFrom_24 ?_
  refine lv_iconst (v := 0) hx hb dX4_copyFrom_27 (by decide) ?_
  refine lv_bipush (v := 12) hx hb dX4_copyFrom_28 (by decide) ?_
  obtain ⟨⟨g1, g2, g3, g4, g5⟩, f_2, ef_2, hf⟩ := hf
  refine z_copyi (Wn := fun f_2 => cl_X4 cI cJ a (f_1, f_2, u.2.2.1, u.2.2.2.1, u.2.2.2.2) ++ cl_X4 cI cJ b v) (idx := 25) X (hts _ q_ml_X4_25) (hts _ q_na_copy) (hts _ q_st_copy) (hts _ q_in_System) hl.1 hP hD hS 7 2 rfl rfl g1 g2 g3 g4 g5 (Nat.le_of_ble_eq_true rfl) (Nat.le_of_ble_eq_true rfl) (fun _ => rfl) f_2 ef_2 dX4_copyFrom_30 (fun H locs hP hD hS => ?_)
  refine lv_aload_n hx hb dX4_copyFrom_33 rfl (lv_at hl 1 rfl) ?_
  refine va_get (D := (dC, dI)) (ci := 3) (v := .ref (b 3)) (C := RX4) (T := TX4) (N := 5) hx hb hts inX4 hown hK hP 5 rfl rfl 2 (by decide) (hts _ q_fl_X4_19) (fun _ h9 => h9) rfl dX4_copyFrom_34 ?_
  refine lv_iconst (v := 0) hx hb dX4_copyFrom_37 (by decide) ?_
  refine lv_aload_n hx hb dX4_copyFrom_38 rfl (lv_at hl 0 rfl) ?_
  refine va_get (D := (dC, dI)) (ci := 3) (v := .ref (a 3)) (C := RX4) (T := TX4) (N := 5) hx hb hts inX4 hown hK hP 0 rfl rfl 2 (by decide) (hts _ q_fl_X4_19) (fun _ h9 => h9) rfl dX4_copyFrom_39 ?_
  refine lv_iconst (v := 0) hx hb dX4_copyFrom_42 (by decide) ?_
  refine lv_bipush (v := 12) hx hb dX4_copyFrom_43 (by decide) ?_
  obtain ⟨⟨g1, g2, g3, g4, g5⟩, f_3, ef_3, hf⟩ := hf
  refine z_copyi (Wn := fun f_3 => cl_X4 cI cJ a (f_1, f_2, f_3, u.2.2.2.1, u.2.2.2.2) ++ cl_X4 cI cJ b v) (idx := 25) X (hts _ q_ml_X4_25) (hts _ q_na_copy) (hts _ q_st_copy) (hts _ q_in_System) hl.1 hP hD hS 8 3 rfl rfl g1 g2 g3 g4 g5 (Nat.le_of_ble_eq_true rfl) (Nat.le_of_ble_eq_true rfl) (fun _ => rfl) f_3 ef_3 dX4_copyFrom_45 (fun H locs hP hD hS => ?_)
  refine lv_aload_n hx hb dX4_copyFrom_48 rfl (lv_at hl 1 rfl) ?_
  refine va_get (D := (dC, dI)) (ci := 3) (v := .ref (b 4)) (C := RX4) (T := TX4) (N := 5) hx hb hts inX4 hown hK hP 5 rfl rfl 3 (by decide) (hts _ q_fl_X4_22) (fun _ h9 => h9) rfl dX4_copyFrom_49 ?_
  refine lv_iconst (v := 0) hx hb dX4_copyFrom_52 (by decide) ?_
  refine lv_aload_n hx hb dX4_copyFrom_53 rfl (lv_at hl 0 rfl) ?_
  refine va_get (D := (dC, dI)) (ci := 3) (v := .ref (a 4)) (C := RX4) (T := TX4) (N := 5) hx hb hts inX4 hown hK hP 0 rfl rfl 3 (by decide) (hts _ q_fl_X4_22) (fun _ h9 => h9) rfl dX4_copyFrom_54 ?_
  refine lv_iconst (v := 0) hx hb dX4_copyFrom_57 (by decide) ?_
  refine lv_bipush (v := 12) hx hb dX4_copyFrom_58 (by decide) ?_
  obtain ⟨⟨g1, g2, g3, g4, g5⟩, f_4, ef_4, hf⟩ := hf
  refine z_copyi (Wn := fun f_4 => cl_X4 cI cJ a (f_1, f_2, f_3, f_4, u.2.2.2.2) ++ cl_X4 cI cJ b v) (idx := 25) X (hts _ q_ml_X4_25) (hts _ q_na_copy) (hts _ q_st_copy) (hts _ q_in_System) hl.1 hP hD hS 9 4 rfl rfl g1 g2 g3 g4 g5 (Nat.le_of_ble_eq_true rfl) (Nat.le_of_ble_eq_true rfl) (fun _ => rfl) f_4 ef_4 dX4_copyFrom_60 (fun H locs hP hD hS => ?_)
  refine lv_aload_n hx hb dX4_copyFrom_63 rfl (lv_at hl 0 rfl) ?_
  refine lv_aload_n hx hb dX4_copyFrom_64 rfl (lv_at hl 1 rfl) ?_
  refine va_get (D := (dC, dI)) (ci := 3) (v := .int v.2.2.2.2) (C := RX4) (T := TX4) (N := 5) hx hb hts inX4 hown hK hP 5 rfl rfl 4 (by decide) (hts _ q_fl_X4_31) (fun _ h9 => h9) rfl dX4_copyFrom_65 ?_
  refine lv_topi (fun x_5 ex_5 => ?_)
  have hf := hf x_5 ex_5
  refine z_put (w' := cl_X4 cI cJ a (f_1, f_2, f_3, f_4, x_5) ++ cl_X4 cI cJ b v) (ci := 3) (v := .int x_5) (ty := .int) (Cn := RX4) (T := TX4) (N := 5) X inX4 tyX4 tyX4_ok nmX4 hP hD hS 0 rfl rfl 4 (by decide) (hts _ q_fl_X4_31) (fun _ h9 => h9) rfl (tyX4_ok 4 (by decide)) rfl rfl (Nat.le_of_ble_eq_true rfl) rfl dX4_copyFrom_68 (fun H locs hP hD hS => ?_)
  exact z_retMv (Wf := (fun z => cl_X4 cI cJ a z.1 ++ cl_X4 cI cJ b z.2)) (u := ((f_1, f_2, f_3, f_4, x_5), v)) X hf hP hD hS dX4_copyFrom_71
theorem cpy_all {α : Type} (f g : Nat → α) {n : Nat} : ∀ k : Nat, k < n → f k = va_cpy f g 0 0 n k := fun k hk => by
  unfold va_cpy
  rw [if_pos (by omega), show 0 + (k - 0) = k by omega]
def s_X4_copyFrom (u v : zSegs) (Q : zSegs × zSegs → Prop) : Prop := Q (v, v)
theorem st_X4_copyFrom {u v : zSegs} {Q : zSegs × zSegs → Prop} (h : s_X4_copyFrom u v Q) : t_X4_copyFrom u v Q := by
  refine ⟨by decide, v.1, cpy_all v.1 u.1, by decide, v.2.1, cpy_all v.2.1 u.2.1, by decide, v.2.2.1, cpy_all v.2.2.1 u.2.2.1, by decide, v.2.2.2.1, cpy_all v.2.2.2.1 u.2.2.2.1, fun x e => ?_⟩
  rw [e]; exact h
theorem c_X4_copyFrom (l : Launch) (dC : Nat → ClassId) (dI : Nat → Nat → Nat) (cI cJ cS : ClassId) (a : Nat → Nat) (b : Nat → Nat) (u : zSegs) (v : zSegs) (Q : zSegs × zSegs → Prop) (hf : s_X4_copyFrom u v Q) : ∀ sz : Nat, Met l yX4_copyFrom (Cond.code yX4_copyFrom cX4_copyFrom 2 none :: zT) rm_X4_copyFrom (zPm dC dI cI cJ cS (cl_X4 cI cJ a u ++ cl_X4 cI cJ b v) [.ref (a 0), .ref (b 0)] sz) (va_Qv Q (zB dC dI cI cJ cS (va_A (cl_X4 cI cJ a u ++ cl_X4 cI cJ b v) sz) (fun z => cl_X4 cI cJ a z.1 ++ cl_X4 cI cJ b z.2)) (va_A (cl_X4 cI cJ a u ++ cl_X4 cI cJ b v) sz)) 0 0 (va_A (cl_X4 cI cJ a u ++ cl_X4 cI cJ b v) sz) := L_X4_copyFrom l dC dI cI cJ cS a b u v Q (st_X4_copyFrom hf)

def t_X4_isOne (x0 : Int32) (Q : Int32 → Prop) : Prop := ((x0 < 0 → Q (0 : Int32)) ∧ (¬ x0 < 0 → (((12 : Int32) ≤ x0 → Q (0 : Int32)) ∧ (¬ (12 : Int32) ≤ x0 → Q (1 : Int32)))))
theorem zc_X4_isOne : zCalS yX4_isOne cX4_isOne 1 (some .boolean) 1 := ⟨q_st_X4_isOne, q_in_X4, q_cd_X4_isOne, ⟨by decide, by decide, by decide +kernel⟩⟩
abbrev rm_X4_isOne : Room := { frames := 0, cells := 0, slots := 0, locals := 0 }
set_option maxHeartbeats 4000000 in
set_option maxRecDepth 100000 in
theorem L_X4_isOne (l : Launch) (dC : Nat → ClassId) (dI : Nat → Nat → Nat) (cI cJ cS : ClassId) (x0 : Int32) (Q : Int32 → Prop) (hf : t_X4_isOne x0 Q) : Met l yX4_isOne (Cond.code yX4_isOne cX4_isOne 1 (some .boolean) :: zT) rm_X4_isOne (zPp dC dI cI cJ cS ([]) [.int x0]) (vp_Si (fun r => (r = 0 ∨ r = 1) ∧ Q r)) 0 0 (fun _ => False) := by
  refine z_enterP (cc := cX4_isOne) (maxL := 1) (ret := (some .boolean)) (by decide) (Nat.le_of_ble_eq_true rfl) ?_
  intro p e s m below meth c ls X hP hl
  obtain ⟨⟨hx, hb, hml, hown, hts⟩, hr, hlk, hK⟩ := id X
  have hl : lv_has ls 1 [(0, .int x0)] := hl
  unfold t_X4_isOne at hf
  refine lv_iload_n hx hb dX4_isOne_0 rfl (lv_at hl 0 rfl) ?_
  refine lv_if_lt (tgt := 14) hx hb dX4_isOne_1 (by decide) (fun c_1 => ?_) (fun c_1 => ?_)
  · have hf := hf.1 c_1
    refine lv_iconst (v := 0) hx hb dX4_isOne_14 (by decide) ?_
    exact z_retPz X (Or.inl rfl) hf dX4_isOne_15
  · have hf := hf.2 c_1
    refine lv_iload_n hx hb dX4_isOne_4 rfl (lv_at hl 0 rfl) ?_
    refine lv_bipush (v := 12) hx hb dX4_isOne_5 (by decide) ?_
    refine lv_icmp_ge (tgt := 14) hx hb dX4_isOne_7 (by decide) (fun c_2 => ?_) (fun c_2 => ?_)
    · have hf := hf.1 c_2
      refine lv_iconst (v := 0) hx hb dX4_isOne_14 (by decide) ?_
      exact z_retPz X (Or.inl rfl) hf dX4_isOne_15
    · have hf := hf.2 c_2
      refine lv_iconst (v := 1) hx hb dX4_isOne_10 (by decide) ?_
      refine lv_goto (tgt := 15) hx hb dX4_isOne_11 (by decide) ?_
      exact z_retPz X (Or.inr rfl) hf dX4_isOne_15
def s_X4_isOne (x0 : Int32) (Q : Int32 → Prop) : Prop := (∃ s : Nat, s < 12 ∧ x0 = nI s) ∧ Q 1
theorem st_X4_isOne {x0 : Int32} {Q : Int32 → Prop} (h : s_X4_isOne x0 Q) : t_X4_isOne x0 Q := by
  obtain ⟨⟨s, hs, rfl⟩, h⟩ := h
  exact ⟨fun c => absurd c (nI_pos (by omega)), fun _ => ⟨fun c => absurd c (ge12 hs), fun _ => h⟩⟩
theorem c_X4_isOne (l : Launch) (dC : Nat → ClassId) (dI : Nat → Nat → Nat) (cI cJ cS : ClassId) (x0 : Int32) (Q : Int32 → Prop) (hf : s_X4_isOne x0 Q) : Met l yX4_isOne (Cond.code yX4_isOne cX4_isOne 1 (some .boolean) :: zT) rm_X4_isOne (zPp dC dI cI cJ cS ([]) [.int x0]) (vp_Si (fun r => (r = 0 ∨ r = 1) ∧ Q r)) 0 0 (fun _ => False) := L_X4_isOne l dC dI cI cJ cS x0 Q (st_X4_isOne hf)

def t_X4_kindOf (u : zSegs) (x1 : Int32) (Q : Int32 → Prop) : Prop := ((x1 < 0 → Q (0 : Int32)) ∧ (¬ x1 < 0 → ((x1 < (12 : Int32) → vp_in x1 12 ∧ Q (u.2.2.2.1 x1.toNatClampNeg)) ∧ (¬ x1 < (12 : Int32) → Q (0 : Int32)))))
theorem zc_X4_kindOf : zCalV RX4 yX4_kindOf cX4_kindOf 2 (some .int) 1 := ⟨q_im_X4_kindOf, q_se_X4_kindOf, q_in_X4, q_cd_X4_kindOf, ⟨by decide, by decide, by decide +kernel⟩, rfl⟩
abbrev rm_X4_kindOf : Room := { frames := 0, cells := 0, slots := 0, locals := 0 }
set_option maxHeartbeats 4000000 in
set_option maxRecDepth 100000 in
theorem L_X4_kindOf (l : Launch) (dC : Nat → ClassId) (dI : Nat → Nat → Nat) (cI cJ cS : ClassId) (a : Nat → Nat) (u : zSegs) (x1 : Int32) (Q : Int32 → Prop) (hf : t_X4_kindOf u x1 Q) : Met l yX4_kindOf (Cond.code yX4_kindOf cX4_kindOf 2 (some .int) :: zT) rm_X4_kindOf (zPp dC dI cI cJ cS (cl_X4 cI cJ a u) [.ref (a 0), .int x1]) (vp_Si Q) 0 0 (fun _ => False) := by
  refine z_enterP (cc := cX4_kindOf) (maxL := 2) (ret := (some .int)) (by decide) (Nat.le_of_ble_eq_true rfl) ?_
  intro p e s m below meth c ls X hP hl
  obtain ⟨⟨hx, hb, hml, hown, hts⟩, hr, hlk, hK⟩ := id X
  have hl : lv_has ls 2 [(0, .ref (a 0)), (1, .int x1)] := hl
  unfold t_X4_kindOf at hf
  refine lv_iload_n hx hb dX4_kindOf_0 rfl (lv_at hl 1 rfl) ?_
  refine lv_if_lt (tgt := 10) hx hb dX4_kindOf_1 (by decide) (fun c_1 => ?_) (fun c_1 => ?_)
  · have hf := hf.1 c_1
    refine lv_iconst (v := 0) hx hb dX4_kindOf_10 (by decide) ?_
    refine lv_goto (tgt := 20) hx hb dX4_kindOf_11 (by decide) ?_
    exact z_retPi X hf dX4_kindOf_20
  · have hf := hf.2 c_1
    refine lv_iload_n hx hb dX4_kindOf_4 rfl (lv_at hl 1 rfl) ?_
    refine lv_bipush (v := 12) hx hb dX4_kindOf_5 (by decide) ?_
    refine lv_icmp_lt (tgt := 14) hx hb dX4_kindOf_7 (by decide) (fun c_2 => ?_) (fun c_2 => ?_)
    · have hf := hf.1 c_2
      refine lv_aload_n hx hb dX4_kindOf_14 rfl (lv_at hl 0 rfl) ?_
      refine va_get (D := (dC, dI)) (ci := 3) (v := .ref (a 4)) (C := RX4) (T := TX4) (N := 5) hx hb hts inX4 hown hK hP 0 rfl rfl 3 (by decide) (hts _ q_fl_X4_22) (fun _ h9 => h9) rfl dX4_kindOf_15 ?_
      refine lv_iload_n hx hb dX4_kindOf_18 rfl (lv_at hl 1 rfl) ?_
      obtain ⟨hg, hf⟩ := hf
      refine va_iald hx hb hK hP 4 0 rfl rfl hg dX4_kindOf_19 ?_
      exact z_retPi X hf dX4_kindOf_20
    · have hf := hf.2 c_2
      refine lv_iconst (v := 0) hx hb dX4_kindOf_10 (by decide) ?_
      refine lv_goto (tgt := 20) hx hb dX4_kindOf_11 (by decide) ?_
      exact z_retPi X hf dX4_kindOf_20
def s_X4_kindOf (u : zSegs) (x1 : Int32) (Q : Int32 → Prop) : Prop := (∃ s : Nat, s < 12 ∧ x1 = nI s ∧ Q (u.2.2.2.1 s)) ∨ (x1 = -1 ∧ Q 0)
theorem st_X4_kindOf {u : zSegs} {x1 : Int32} {Q : Int32 → Prop} (h : s_X4_kindOf u x1 Q) : t_X4_kindOf u x1 Q := by
  rcases h with ⟨s, hs, rfl, h⟩ | ⟨rfl, h⟩
  · refine ⟨fun c => absurd c (nI_pos (by omega)), fun _ => ⟨fun c => ⟨vp_in_nI hs (by decide), ?_⟩, fun c => absurd (nI_lt hs (by decide)) c⟩⟩
    rw [nI_clamp (by omega)]; exact h
  · exact ⟨fun _ => h, fun c => absurd n_m1 c⟩
theorem c_X4_kindOf (l : Launch) (dC : Nat → ClassId) (dI : Nat → Nat → Nat) (cI cJ cS : ClassId) (a : Nat → Nat) (u : zSegs) (x1 : Int32) (Q : Int32 → Prop) (hf : s_X4_kindOf u x1 Q) : Met l yX4_kindOf (Cond.code yX4_kindOf cX4_kindOf 2 (some .int) :: zT) rm_X4_kindOf (zPp dC dI cI cJ cS (cl_X4 cI cJ a u) [.ref (a 0), .int x1]) (vp_Si Q) 0 0 (fun _ => False) := L_X4_kindOf l dC dI cI cJ cS a u x1 Q (st_X4_kindOf hf)

def t_X4_countOf (u : zSegs) (x1 : Int32) (Q : Int32 → Prop) : Prop := ((x1 < 0 → Q (0 : Int32)) ∧ (¬ x1 < 0 → ((x1 < (12 : Int32) → vp_in x1 12 ∧ Q (u.2.1 x1.toNatClampNeg)) ∧ (¬ x1 < (12 : Int32) → Q (0 : Int32)))))
theorem zc_X4_countOf : zCalV RX4 yX4_countOf cX4_countOf 2 (some .int) 1 := ⟨q_im_X4_countOf, q_se_X4_countOf, q_in_X4, q_cd_X4_countOf, ⟨by decide, by decide, by decide +kernel⟩, rfl⟩
abbrev rm_X4_countOf : Room := { frames := 0, cells := 0, slots := 0, locals := 0 }
set_option maxHeartbeats 4000000 in
set_option maxRecDepth 100000 in
theorem L_X4_countOf (l : Launch) (dC : Nat → ClassId) (dI : Nat → Nat → Nat) (cI cJ cS : ClassId) (a : Nat → Nat) (u : zSegs) (x1 : Int32) (Q : Int32 → Prop) (hf : t_X4_countOf u x1 Q) : Met l yX4_countOf (Cond.code yX4_countOf cX4_countOf 2 (some .int) :: zT) rm_X4_countOf (zPp dC dI cI cJ cS (cl_X4 cI cJ a u) [.ref (a 0), .int x1]) (vp_Si Q) 0 0 (fun _ => False) := by
  refine z_enterP (cc := cX4_countOf) (maxL := 2) (ret := (some .int)) (by decide) (Nat.le_of_ble_eq_true rfl) ?_
  intro p e s m below meth c ls X hP hl
  obtain ⟨⟨hx, hb, hml, hown, hts⟩, hr, hlk, hK⟩ := id X
  have hl : lv_has ls 2 [(0, .ref (a 0)), (1, .int x1)] := hl
  unfold t_X4_countOf at hf
  refine lv_iload_n hx hb dX4_countOf_0 rfl (lv_at hl 1 rfl) ?_
  refine lv_if_lt (tgt := 10) hx hb dX4_countOf_1 (by decide) (fun c_1 => ?_) (fun c_1 => ?_)
  · have hf := hf.1 c_1
    refine lv_iconst (v := 0) hx hb dX4_countOf_10 (by decide) ?_
    refine lv_goto (tgt := 20) hx hb dX4_countOf_11 (by decide) ?_
    exact z_retPi X hf dX4_countOf_20
  · have hf := hf.2 c_1
    refine lv_iload_n hx hb dX4_countOf_4 rfl (lv_at hl 1 rfl) ?_
    refine lv_bipush (v := 12) hx hb dX4_countOf_5 (by decide) ?_
    refine lv_icmp_lt (tgt := 14) hx hb dX4_countOf_7 (by decide) (fun c_2 => ?_) (fun c_2 => ?_)
    · have hf := hf.1 c_2
      refine lv_aload_n hx hb dX4_countOf_14 rfl (lv_at hl 0 rfl) ?_
      refine va_get (D := (dC, dI)) (ci := 3) (v := .ref (a 2)) (C := RX4) (T := TX4) (N := 5) hx hb hts inX4 hown hK hP 0 rfl rfl 1 (by decide) (hts _ q_fl_X4_15) (fun _ h9 => h9) rfl dX4_countOf_15 ?_
      refine lv_iload_n hx hb dX4_countOf_18 rfl (lv_at hl 1 rfl) ?_
      obtain ⟨hg, hf⟩ := hf
      refine va_iald hx hb hK hP 2 0 rfl rfl hg dX4_countOf_19 ?_
      exact z_retPi X hf dX4_countOf_20
    · have hf := hf.2 c_2
      refine lv_iconst (v := 0) hx hb dX4_countOf_10 (by decide) ?_
      refine lv_goto (tgt := 20) hx hb dX4_countOf_11 (by decide) ?_
      exact z_retPi X hf dX4_countOf_20
def s_X4_countOf (u : zSegs) (x1 : Int32) (Q : Int32 → Prop) : Prop := ∃ s : Nat, s < 12 ∧ x1 = nI s ∧ Q (u.2.1 s)
theorem st_X4_countOf {u : zSegs} {x1 : Int32} {Q : Int32 → Prop} (h : s_X4_countOf u x1 Q) : t_X4_countOf u x1 Q := by
  obtain ⟨s, hs, rfl, h⟩ := h
  refine ⟨fun c => absurd c (nI_pos (by omega)), fun _ => ⟨fun c => ⟨vp_in_nI hs (by decide), ?_⟩, fun c => absurd (nI_lt hs (by decide)) c⟩⟩
  rw [nI_clamp (by omega)]; exact h
theorem c_X4_countOf (l : Launch) (dC : Nat → ClassId) (dI : Nat → Nat → Nat) (cI cJ cS : ClassId) (a : Nat → Nat) (u : zSegs) (x1 : Int32) (Q : Int32 → Prop) (hf : s_X4_countOf u x1 Q) : Met l yX4_countOf (Cond.code yX4_countOf cX4_countOf 2 (some .int) :: zT) rm_X4_countOf (zPp dC dI cI cJ cS (cl_X4 cI cJ a u) [.ref (a 0), .int x1]) (vp_Si Q) 0 0 (fun _ => False) := L_X4_countOf l dC dI cI cJ cS a u x1 Q (st_X4_countOf hf)

def t_X4_takenOf (u : zSegs) (x1 : Int32) (Q : Int32 → Prop) : Prop := ((x1 < 0 → Q (0 : Int32)) ∧ (¬ x1 < 0 → ((x1 < (12 : Int32) → vp_in x1 12 ∧ Q (u.2.2.1 x1.toNatClampNeg)) ∧ (¬ x1 < (12 : Int32) → Q (0 : Int32)))))
theorem zc_X4_takenOf : zCalV RX4 yX4_takenOf cX4_takenOf 2 (some .int) 1 := ⟨q_im_X4_takenOf, q_se_X4_takenOf, q_in_X4, q_cd_X4_takenOf, ⟨by decide, by decide, by decide +kernel⟩, rfl⟩
abbrev rm_X4_takenOf : Room := { frames := 0, cells := 0, slots := 0, locals := 0 }
set_option maxHeartbeats 4000000 in
set_option maxRecDepth 100000 in
theorem L_X4_takenOf (l : Launch) (dC : Nat → ClassId) (dI : Nat → Nat → Nat) (cI cJ cS : ClassId) (a : Nat → Nat) (u : zSegs) (x1 : Int32) (Q : Int32 → Prop) (hf : t_X4_takenOf u x1 Q) : Met l yX4_takenOf (Cond.code yX4_takenOf cX4_takenOf 2 (some .int) :: zT) rm_X4_takenOf (zPp dC dI cI cJ cS (cl_X4 cI cJ a u) [.ref (a 0), .int x1]) (vp_Si Q) 0 0 (fun _ => False) := by
  refine z_enterP (cc := cX4_takenOf) (maxL := 2) (ret := (some .int)) (by decide) (Nat.le_of_ble_eq_true rfl) ?_
  intro p e s m below meth c ls X hP hl
  obtain ⟨⟨hx, hb, hml, hown, hts⟩, hr, hlk, hK⟩ := id X
  have hl : lv_has ls 2 [(0, .ref (a 0)), (1, .int x1)] := hl
  unfold t_X4_takenOf at hf
  refine lv_iload_n hx hb dX4_takenOf_0 rfl (lv_at hl 1 rfl) ?_
  refine lv_if_lt (tgt := 10) hx hb dX4_takenOf_1 (by decide) (fun c_1 => ?_) (fun c_1 => ?_)
  · have hf := hf.1 c_1
    refine lv_iconst (v := 0) hx hb dX4_takenOf_10 (by decide) ?_
    refine lv_goto (tgt := 20) hx hb dX4_takenOf_11 (by decide) ?_
    exact z_retPi X hf dX4_takenOf_20
  · have hf := hf.2 c_1
    refine lv_iload_n hx hb dX4_takenOf_4 rfl (lv_at hl 1 rfl) ?_
    refine lv_bipush (v := 12) hx hb dX4_takenOf_5 (by decide) ?_
    refine lv_icmp_lt (tgt := 14) hx hb dX4_takenOf_7 (by decide) (fun c_2 => ?_) (fun c_2 => ?_)
    · have hf := hf.1 c_2
      refine lv_aload_n hx hb dX4_takenOf_14 rfl (lv_at hl 0 rfl) ?_
      refine va_get (D := (dC, dI)) (ci := 3) (v := .ref (a 3)) (C := RX4) (T := TX4) (N := 5) hx hb hts inX4 hown hK hP 0 rfl rfl 2 (by decide) (hts _ q_fl_X4_19) (fun _ h9 => h9) rfl dX4_takenOf_15 ?_
      refine lv_iload_n hx hb dX4_takenOf_18 rfl (lv_at hl 1 rfl) ?_
      obtain ⟨hg, hf⟩ := hf
      refine va_iald hx hb hK hP 3 0 rfl rfl hg dX4_takenOf_19 ?_
      exact z_retPi X hf dX4_takenOf_20
    · have hf := hf.2 c_2
      refine lv_iconst (v := 0) hx hb dX4_takenOf_10 (by decide) ?_
      refine lv_goto (tgt := 20) hx hb dX4_takenOf_11 (by decide) ?_
      exact z_retPi X hf dX4_takenOf_20
def s_X4_takenOf (u : zSegs) (x1 : Int32) (Q : Int32 → Prop) : Prop := ∃ s : Nat, s < 12 ∧ x1 = nI s ∧ Q (u.2.2.1 s)
theorem st_X4_takenOf {u : zSegs} {x1 : Int32} {Q : Int32 → Prop} (h : s_X4_takenOf u x1 Q) : t_X4_takenOf u x1 Q := by
  obtain ⟨s, hs, rfl, h⟩ := h
  refine ⟨fun c => absurd c (nI_pos (by omega)), fun _ => ⟨fun c => ⟨vp_in_nI hs (by decide), ?_⟩, fun c => absurd (nI_lt hs (by decide)) c⟩⟩
  rw [nI_clamp (by omega)]; exact h
theorem c_X4_takenOf (l : Launch) (dC : Nat → ClassId) (dI : Nat → Nat → Nat) (cI cJ cS : ClassId) (a : Nat → Nat) (u : zSegs) (x1 : Int32) (Q : Int32 → Prop) (hf : s_X4_takenOf u x1 Q) : Met l yX4_takenOf (Cond.code yX4_takenOf cX4_takenOf 2 (some .int) :: zT) rm_X4_takenOf (zPp dC dI cI cJ cS (cl_X4 cI cJ a u) [.ref (a 0), .int x1]) (vp_Si Q) 0 0 (fun _ => False) := L_X4_takenOf l dC dI cI cJ cS a u x1 Q (st_X4_takenOf hf)

def t_X4_takenOfAll_e (u : zSegs) (K13 : Int32 → Int32 → Int32 → Prop) (Q : Int32 → Prop) : Prop := K13 (0 : Int32) (12 : Int32) (0 : Int32)
def t_X4_takenOfAll_13 (u : zSegs) (y1 : Int32) (y3 : Int32) (y4 : Int32) (K13 : Int32 → Int32 → Int32 → Prop) (Q : Int32 → Prop) : Prop := ((y3 ≤ y4 → Q y1) ∧ (¬ y3 ≤ y4 → vp_in y4 12 ∧ ∀ x_3 : Int32, x_3 = (u.2.2.1 y4.toNatClampNeg) → ∀ x_4 : Int32, x_4 = (y1 + x_3) → ∀ x_5 : Int32, x_5 = y4 + (1 : Int32) → K13 x_4 y3 x_5))
theorem zc_X4_takenOfAll : zCalV RX4 yX4_takenOfAll cX4_takenOfAll 6 (some .int) 0 := ⟨q_im_X4_takenOfAll, q_se_X4_takenOfAll, q_in_X4, q_cd_X4_takenOfAll, ⟨by decide, by decide, by decide +kernel⟩, rfl⟩
abbrev rm_X4_takenOfAll : Room := { frames := 0, cells := 0, slots := 0, locals := 0 }
def v_X4_takenOfAll (u : zSegs) (Q : Int32 → Prop) : Prop := ∃ I13 : Nat → Int32 → Int32 → Int32 → Prop, (∀ (n : Nat) (y1 : Int32) (y3 : Int32) (y4 : Int32), I13 n y1 y3 y4 → t_X4_takenOfAll_13 u y1 y3 y4 (fun q0 q1 q2 => ∃ k : Nat, k < n ∧ I13 k q0 q1 q2) Q) ∧ t_X4_takenOfAll_e u (fun q0 q1 q2 => ∃ k : Nat, I13 k q0 q1 q2) Q
set_option maxHeartbeats 4000000 in
set_option maxRecDepth 100000 in
theorem L_X4_takenOfAll (l : Launch) (dC : Nat → ClassId) (dI : Nat → Nat → Nat) (cI cJ cS : ClassId) (a : Nat → Nat) (u : zSegs) (Q : Int32 → Prop) (I13 : Nat → Int32 → Int32 → Int32 → Prop) (h13 : ∀ (n : Nat) (y1 : Int32) (y3 : Int32) (y4 : Int32), I13 n y1 y3 y4 → t_X4_takenOfAll_13 u y1 y3 y4 (fun q0 q1 q2 => ∃ k : Nat, k < n ∧ I13 k q0 q1 q2) Q) (hf : t_X4_takenOfAll_e u (fun q0 q1 q2 => ∃ k : Nat, I13 k q0 q1 q2) Q) : Met l yX4_takenOfAll (Cond.code yX4_takenOfAll cX4_takenOfAll 6 (some .int) :: zT) rm_X4_takenOfAll (zPp dC dI cI cJ cS (cl_X4 cI cJ a u) [.ref (a 0)]) (vp_Si Q) 0 0 (fun _ => False) := by
  refine z_enterP (cc := cX4_takenOfAll) (maxL := 6) (ret := (some .int)) (by decide) (Nat.le_of_ble_eq_true rfl) ?_
  intro p e s m below meth c ls X hP hl
  obtain ⟨⟨hx, hb, hml, hown, hts⟩, hr, hlk, hK⟩ := id X
  have hl : lv_has ls 6 [(0, .ref (a 0))] := hl
  have LP : ∀ n : Nat, (∀ (y1 : Int32) (y3 : Int32) (y4 : Int32) (ls : Array Slot), I13 n y1 y3 y4 → lv_has ls 6 [(0, .ref (a 0)), (1, .int y1), (2, .ref (a 3)), (3, .int y3), (4, .int y4)] → W p l e rm_X4_takenOfAll s m [.ref (a 0)].toArray below meth c s.heap [] 0 0 (MQ below (vp_Si Q) [.ref (a 0)].toArray s 0 0 (fun _ => False)) (F0 m 13 ls [])) := by
    intro n
    induction n using Nat.strongRecOn with
    | _ n ih =>
      intro y1 y3 y4 ls hI hl
      have hf := h13 n y1 y3 y4 hI
      unfold t_X4_takenOfAll_13 at hf
      refine lv_iload hx hb dX4_takenOfAll_13 (lv_at hl 4 rfl) ?_
      refine lv_iload_n hx hb dX4_takenOfAll_15 rfl (lv_at hl 3 rfl) ?_
      refine lv_icmp_ge (tgt := 36) hx hb dX4_takenOfAll_16 (by decide) (fun c_2 => ?_) (fun c_2 => ?_)
      · have hf := hf.1 c_2
        refine lv_iload_n hx hb dX4_takenOfAll_36 rfl (lv_at hl 1 rfl) ?_
        exact z_retPi X hf dX4_takenOfAll_37
      · have hf := hf.2 c_2
        refine lv_aload_n hx hb dX4_takenOfAll_19 rfl (lv_at hl 2 rfl) ?_
        refine lv_iload hx hb dX4_takenOfAll_20 (lv_at hl 4 rfl) ?_
        obtain ⟨hg, hf⟩ := hf
        refine va_iald hx hb hK hP 3 0 rfl rfl hg dX4_takenOfAll_22 ?_
        refine lv_topi (fun x_3 ex_3 => ?_)
        have hf := hf x_3 ex_3
        refine lv_istore (lv' := [(5, .int x_3), (0, .ref (a 0)), (1, .int y1), (2, .ref (a 3)), (3, .int y3), (4, .int y4)]) hx hb dX4_takenOfAll_23 hl (by decide) rfl (fun ls hl => ?_)
        refine lv_iload_n hx hb dX4_takenOfAll_25 rfl (lv_at hl 2 rfl) ?_
        refine lv_iload hx hb dX4_takenOfAll_26 (lv_at hl 0 rfl) ?_
        refine lv_iadd hx hb dX4_takenOfAll_28 ?_
        refine lv_topi (fun x_4 ex_4 => ?_)
        have hf := hf x_4 ex_4
        refine lv_istore_n (lv' := [(1, .int x_4), (5, .int x_3), (0, .ref (a 0)), (2, .ref (a 3)), (3, .int y3), (4, .int y4)]) hx hb dX4_takenOfAll_29 rfl hl (by decide) rfl (fun ls hl => ?_)
        obtain ⟨x_5, ex_5⟩ : ∃ y : Int32, y = y4 + (1 : Int32) := ⟨_, rfl⟩
        have hf := hf x_5 ex_5
        refine lv_iinc (v := x_5) (lv' := [(4, .int x_5), (1, .int x_4), (5, .int x_3), (0, .ref (a 0)), (2, .ref (a 3)), (3, .int y3)]) hx hb dX4_takenOfAll_30 hl (k := 5) rfl (by rw [ex_5]; rfl) (by decide) rfl (fun ls hl => ?_)
        refine lv_goto (tgt := 13) hx hb dX4_takenOfAll_33 (by decide) ?_
        obtain ⟨k_6, hk_6, hf⟩ := hf
        exact (ih k_6 hk_6) _ _ _ ls hf (lv_sub hl [3, 1, 4, 5, 0] rfl)
  unfold t_X4_takenOfAll_e at hf
  refine lv_iconst (v := 0) hx hb dX4_takenOfAll_0 (by decide) ?_
  refine lv_istore_n (lv' := [(1, .int (0 : Int32)), (0, .ref (a 0))]) hx hb dX4_takenOfAll_1 rfl hl (by decide) rfl (fun ls hl => ?_)
  refine lv_aload_n hx hb dX4_takenOfAll_2 rfl (lv_at hl 1 rfl) ?_
  refine va_get (D := (dC, dI)) (ci := 3) (v := .ref (a 3)) (C := RX4) (T := TX4) (N := 5) hx hb hts inX4 hown hK hP 0 rfl rfl 2 (by decide) (hts _ q_fl_X4_19) (fun _ h9 => h9) rfl dX4_takenOfAll_3 ?_
  refine lv_astore_n (lv' := [(2, .ref (a 3)), (1, .int (0 : Int32)), (0, .ref (a 0))]) hx hb dX4_takenOfAll_6 rfl hl (by decide) rfl (fun ls hl => ?_)
  refine lv_aload_n hx hb dX4_takenOfAll_7 rfl (lv_at hl 0 rfl) ?_
  refine va_alen (v := 12) hx hb hK hP 3 0 rfl (ty := .int) rfl rfl dX4_takenOfAll_8 ?_
  refine lv_istore_n (lv' := [(3, .int (12 : Int32)), (2, .ref (a 3)), (1, .int (0 : Int32)), (0, .ref (a 0))]) hx hb dX4_takenOfAll_9 rfl hl (by decide) rfl (fun ls hl => ?_)
  refine lv_iconst (v := 0) hx hb dX4_takenOfAll_10 (by decide) ?_
  refine lv_istore (lv' := [(4, .int (0 : Int32)), (3, .int (12 : Int32)), (2, .ref (a 3)), (1, .int (0 : Int32)), (0, .ref (a 0))]) hx hb dX4_takenOfAll_11 hl (by decide) rfl (fun ls hl => ?_)
  obtain ⟨k_1, hf⟩ := hf
  exact (LP k_1) _ _ _ ls hf (lv_sub hl [4, 3, 2, 1, 0] rfl)
def s_X4_takenOfAll (u : zSegs) (Q : Int32 → Prop) : Prop := Q (l_sum u.2.2.1 12)
theorem st_X4_takenOfAll {u : zSegs} {Q : Int32 → Prop} (h : s_X4_takenOfAll u Q) : v_X4_takenOfAll u Q := by
  refine zlp3 (T := fun y1 y3 y4 K => t_X4_takenOfAll_13 u y1 y3 y4 K Q) (E := fun K => t_X4_takenOfAll_e u K Q) 12 (fun i => l_sum u.2.2.1 i) (fun _ => 12) (fun i => nI i) (fun K hK => hK) ?_ ?_
  · intro i hi K hK
    refine ⟨fun c => absurd c (ge12 hi), fun _ => ⟨vp_in_nI hi (by decide), ?_⟩⟩
    intro x3 e3 x4 e4 x5 e5
    rw [nI_clamp (by omega)] at e3
    rw [e5, e4, e3, nI_1]; exact hK
  · intro K
    exact ⟨fun _ => h, fun c => absurd (nI_le (Nat.le_refl 12) (by decide)) c⟩
theorem c_X4_takenOfAll (l : Launch) (dC : Nat → ClassId) (dI : Nat → Nat → Nat) (cI cJ cS : ClassId) (a : Nat → Nat) (u : zSegs) (Q : Int32 → Prop) (hf : s_X4_takenOfAll u Q) : Met l yX4_takenOfAll (Cond.code yX4_takenOfAll cX4_takenOfAll 6 (some .int) :: zT) rm_X4_takenOfAll (zPp dC dI cI cJ cS (cl_X4 cI cJ a u) [.ref (a 0)]) (vp_Si Q) 0 0 (fun _ => False) := by
  obtain ⟨I13, h13, hf⟩ := st_X4_takenOfAll hf
  exact L_X4_takenOfAll l dC dI cI cJ cS a u Q I13 h13 hf

def t_X4_cardAt (u : zSegs) (x1 : Int32) (x2 : Int32) (Q : Int64 → Prop) : Prop := ((x1 < 0 → Q (0 : Int64)) ∧ (¬ x1 < 0 → (((12 : Int32) ≤ x1 → Q (0 : Int64)) ∧ (¬ (12 : Int32) ≤ x1 → ((x2 < 0 → Q (0 : Int64)) ∧ (¬ x2 < 0 → vp_in x1 12 ∧ (((u.2.1 x1.toNatClampNeg) ≤ x2 → Q (0 : Int64)) ∧ (¬ (u.2.1 x1.toNatClampNeg) ≤ x2 → ((x2 < (50 : Int32) → vp_in ((x1 * (50 : Int32)) + x2) 600 ∧ Q (u.1 ((x1 * (50 : Int32)) + x2).toNatClampNeg)) ∧ (¬ x2 < (50 : Int32) → Q (0 : Int64)))))))))))
theorem zc_X4_cardAt : zCalV RX4 yX4_cardAt cX4_cardAt 3 (some .long) 2 := ⟨q_im_X4_cardAt, q_se_X4_cardAt, q_in_X4, q_cd_X4_cardAt, ⟨by decide, by decide, by decide +kernel⟩, rfl⟩
abbrev rm_X4_cardAt : Room := { frames := 0, cells := 0, slots := 0, locals := 0 }
set_option maxHeartbeats 4000000 in
set_option maxRecDepth 100000 in
theorem L_X4_cardAt (l : Launch) (dC : Nat → ClassId) (dI : Nat → Nat → Nat) (cI cJ cS : ClassId) (a : Nat → Nat) (u : zSegs) (x1 : Int32) (x2 : Int32) (Q : Int64 → Prop) (hf : t_X4_cardAt u x1 x2 Q) : Met l yX4_cardAt (Cond.code yX4_cardAt cX4_cardAt 3 (some .long) :: zT) rm_X4_cardAt (zPp dC dI cI cJ cS (cl_X4 cI cJ a u) [.ref (a 0), .int x1, .int x2]) (vp_Sl Q) 0 0 (fun _ => False) := by
  refine z_enterP (cc := cX4_cardAt) (maxL := 3) (ret := (some .long)) (by decide) (Nat.le_of_ble_eq_true rfl) ?_
  intro p e s m below meth c ls X hP hl
  obtain ⟨⟨hx, hb, hml, hown, hts⟩, hr, hlk, hK⟩ := id X
  have hl : lv_has ls 3 [(0, .ref (a 0)), (1, .int x1), (2, .int x2)] := hl
  unfold t_X4_cardAt at hf
  refine lv_iload_n hx hb dX4_cardAt_0 rfl (lv_at hl 1 rfl) ?_
  refine lv_if_lt (tgt := 30) hx hb dX4_cardAt_1 (by decide) (fun c_1 => ?_) (fun c_1 => ?_)
  · have hf := hf.1 c_1
    refine lv_lconst (v := 0) hx hb dX4_cardAt_30 (by decide) ?_
    exact z_retPl X hf dX4_cardAt_31
  · have hf := hf.2 c_1
    refine lv_iload_n hx hb dX4_cardAt_4 rfl (lv_at hl 1 rfl) ?_
    refine lv_bipush (v := 12) hx hb dX4_cardAt_5 (by decide) ?_
    refine lv_icmp_ge (tgt := 30) hx hb dX4_cardAt_7 (by decide) (fun c_2 => ?_) (fun c_2 => ?_)
    · have hf := hf.1 c_2
      refine lv_lconst (v := 0) hx hb dX4_cardAt_30 (by decide) ?_
      exact z_retPl X hf dX4_cardAt_31
    · have hf := hf.2 c_2
      refine lv_iload_n hx hb dX4_cardAt_10 rfl (lv_at hl 2 rfl) ?_
      refine lv_if_lt (tgt := 30) hx hb dX4_cardAt_11 (by decide) (fun c_3 => ?_) (fun c_3 => ?_)
      · have hf := hf.1 c_3
        refine lv_lconst (v := 0) hx hb dX4_cardAt_30 (by decide) ?_
        exact z_retPl X hf dX4_cardAt_31
      · have hf := hf.2 c_3
        refine lv_iload_n hx hb dX4_cardAt_14 rfl (lv_at hl 2 rfl) ?_
        refine lv_aload_n hx hb dX4_cardAt_15 rfl (lv_at hl 0 rfl) ?_
        refine va_get (D := (dC, dI)) (ci := 3) (v := .ref (a 2)) (C := RX4) (T := TX4) (N := 5) hx hb hts inX4 hown hK hP 0 rfl rfl 1 (by decide) (hts _ q_fl_X4_15) (fun _ h9 => h9) rfl dX4_cardAt_16 ?_
        refine lv_iload_n hx hb dX4_cardAt_19 rfl (lv_at hl 1 rfl) ?_
        obtain ⟨hg, hf⟩ := hf
        refine va_iald hx hb hK hP 2 0 rfl rfl hg dX4_cardAt_20 ?_
        refine lv_icmp_ge (tgt := 30) hx hb dX4_cardAt_21 (by decide) (fun c_4 => ?_) (fun c_4 => ?_)
        · have hf := hf.1 c_4
          refine lv_lconst (v := 0) hx hb dX4_cardAt_30 (by decide) ?_
          exact z_retPl X hf dX4_cardAt_31
        · have hf := hf.2 c_4
          refine lv_iload_n hx hb dX4_cardAt_24 rfl (lv_at hl 2 rfl) ?_
          refine lv_bipush (v := 50) hx hb dX4_cardAt_25 (by decide) ?_
          refine lv_icmp_lt (tgt := 32) hx hb dX4_cardAt_27 (by decide) (fun c_5 => ?_) (fun c_5 => ?_)
          · have hf := hf.1 c_5
            refine lv_aload_n hx hb dX4_cardAt_32 rfl (lv_at hl 0 rfl) ?_
            refine va_get (D := (dC, dI)) (ci := 3) (v := .ref (a 1)) (C := RX4) (T := TX4) (N := 5) hx hb hts inX4 hown hK hP 0 rfl rfl 0 (by decide) (hts _ q_fl_X4_9) (fun _ h9 => h9) rfl dX4_cardAt_33 ?_
            refine lv_iload_n hx hb dX4_cardAt_36 rfl (lv_at hl 1 rfl) ?_
            refine lv_bipush (v := 50) hx hb dX4_cardAt_37 (by decide) ?_
            refine lv_imul hx hb dX4_cardAt_39 ?_
            refine lv_iload_n hx hb dX4_cardAt_40 rfl (lv_at hl 2 rfl) ?_
            refine lv_iadd hx hb dX4_cardAt_41 ?_
            obtain ⟨hg, hf⟩ := hf
            refine va_lald hx hb hK hP 1 1 rfl rfl hg dX4_cardAt_42 ?_
            exact z_retPl X hf dX4_cardAt_43
          · have hf := hf.2 c_5
            refine lv_lconst (v := 0) hx hb dX4_cardAt_30 (by decide) ?_
            exact z_retPl X hf dX4_cardAt_31
/-- the k-th card of a segment, of c there are -/
def s_X4_cardAt (u : zSegs) (x1 : Int32) (x2 : Int32) (Q : Int64 → Prop) : Prop := ∃ s c : Nat, s < 12 ∧ c ≤ 50 ∧ x1 = nI s ∧ u.2.1 s = nI c ∧ ((∃ k : Nat, k < c ∧ x2 = nI k ∧ Q (u.1 (50 * s + k))) ∨ ((x2 < 0 ∨ nI c ≤ x2) ∧ Q 0))
theorem st_X4_cardAt {u : zSegs} {x1 x2 : Int32} {Q : Int64 → Prop} (h : s_X4_cardAt u x1 x2 Q) : t_X4_cardAt u x1 x2 Q := by
  obtain ⟨s, c, hs, hc, rfl, e, h⟩ := h
  unfold t_X4_cardAt
  refine ⟨fun k => absurd k (nI_pos (by omega)), fun _ => ⟨fun k => absurd k (ge12 hs), fun _ => ?_⟩⟩
  rw [nI_clamp (by omega), e]
  rcases h with ⟨k, hk, rfl, h⟩ | ⟨hk, h⟩
  · refine ⟨fun q => absurd q (nI_pos (by omega)), fun _ => ⟨vp_in_nI hs (by decide), fun q => absurd q (nI_ge hk (by omega)), fun _ => ⟨fun _ => ?_, fun q => absurd (lt50 (by omega)) q⟩⟩⟩
    rw [n_lit50, n_mul, nI_add, nI_clamp (by omega), Nat.mul_comm s 50]
    exact ⟨vp_in_nI (by omega) (by decide), h⟩
  · refine ⟨fun _ => h, fun q => ⟨vp_in_nI hs (by decide), fun _ => h, fun q2 => ?_⟩⟩
    rcases hk with hk | hk
    · exact absurd hk q
    · exact absurd hk q2
theorem c_X4_cardAt (l : Launch) (dC : Nat → ClassId) (dI : Nat → Nat → Nat) (cI cJ cS : ClassId) (a : Nat → Nat) (u : zSegs) (x1 : Int32) (x2 : Int32) (Q : Int64 → Prop) (hf : s_X4_cardAt u x1 x2 Q) : Met l yX4_cardAt (Cond.code yX4_cardAt cX4_cardAt 3 (some .long) :: zT) rm_X4_cardAt (zPp dC dI cI cJ cS (cl_X4 cI cJ a u) [.ref (a 0), .int x1, .int x2]) (vp_Sl Q) 0 0 (fun _ => False) := L_X4_cardAt l dC dI cI cJ cS a u x1 x2 Q (st_X4_cardAt hf)

def t_X4_greatestOf (u : zSegs) (x1 : Int32) (Q : Int32 → Prop) : Prop := s_X4_countOf u x1 (fun r_1 : Int32 => s_X4_cardAt u x1 (r_1 - (1 : Int32)) (fun r_2 : Int64 => s_X0_numberOf r_2 (fun r_3 : Int32 => Q r_3)))
theorem zc_X4_greatestOf : zCalV RX4 yX4_greatestOf cX4_greatestOf 2 (some .int) 1 := ⟨q_im_X4_greatestOf, q_se_X4_greatestOf, q_in_X4, q_cd_X4_greatestOf, ⟨by decide, by decide, by decide +kernel⟩, rfl⟩
abbrev rm_X4_greatestOf : Room := { frames := 1, cells := 0, slots := 0, locals := 22 }
set_option maxHeartbeats 4000000 in
set_option maxRecDepth 100000 in
theorem L_X4_greatestOf (l : Launch) (dC : Nat → ClassId) (dI : Nat → Nat → Nat) (cI cJ cS : ClassId) (a : Nat → Nat) (u : zSegs) (x1 : Int32) (Q : Int32 → Prop) (hf : t_X4_greatestOf u x1 Q) : Met l yX4_greatestOf (Cond.code yX4_greatestOf cX4_greatestOf 2 (some .int) :: zT) rm_X4_greatestOf (zPp dC dI cI cJ cS (cl_X4 cI cJ a u) [.ref (a 0), .int x1]) (vp_Si Q) 0 0 (fun _ => False) := by
  refine z_enterP (cc := cX4_greatestOf) (maxL := 2) (ret := (some .int)) (by decide) (Nat.le_of_ble_eq_true rfl) ?_
  intro p e s m below meth c ls X hP hl
  obtain ⟨⟨hx, hb, hml, hown, hts⟩, hr, hlk, hK⟩ := id X
  have hl : lv_has ls 2 [(0, .ref (a 0)), (1, .int x1)] := hl
  unfold t_X4_greatestOf at hf
  refine lv_aload_n hx hb dX4_greatestOf_0 rfl (lv_at hl 0 rfl) ?_
  refine lv_iload_n hx hb dX4_greatestOf_1 rfl (lv_at hl 1 rfl) ?_
  refine lv_aload_n hx hb dX4_greatestOf_2 rfl (lv_at hl 0 rfl) ?_
  refine lv_iload_n hx hb dX4_greatestOf_3 rfl (lv_at hl 1 rfl) ?_
  refine z_cVi (As := [.int x1]) (rest := [.int x1, .ref (a 0)]) X (c_X4_countOf l dC dI cI cJ cS a u x1 _ hf) zc_X4_countOf q_ml_X4_44 ⟨rfl, rfl⟩ ⟨Nat.le_of_ble_eq_true rfl, Nat.le_of_ble_eq_true rfl⟩ hP [0, 1, 2, 3, 4] rfl 3 rfl rfl hl.1 rfl rfl (Nat.le_of_ble_eq_true rfl) ⟨Nat.zero_le _, Nat.zero_le _⟩ dX4_greatestOf_4 (fun r_1 hf => ?_)
  refine lv_iconst (v := 1) hx hb dX4_greatestOf_7 (by decide) ?_
  refine lv_isub hx hb dX4_greatestOf_8 ?_
  refine z_cVl (As := [.int x1, .int (r_1 - (1 : Int32))]) (rest := []) X (c_X4_cardAt l dC dI cI cJ cS a u x1 (r_1 - (1 : Int32)) _ hf) zc_X4_cardAt q_ml_X4_48 ⟨rfl, rfl⟩ ⟨Nat.le_of_ble_eq_true rfl, Nat.le_of_ble_eq_true rfl⟩ hP [0, 1, 2, 3, 4] rfl 3 rfl rfl hl.1 rfl rfl (Nat.le_of_ble_eq_true rfl) ⟨Nat.zero_le _, Nat.zero_le _⟩ dX4_greatestOf_9 (fun r_2 hf => ?_)
  refine z_cSi (As := [.long r_2]) (rest := []) X (c_X0_numberOf l dC dI cI cJ cS   r_2 _ hf) zc_X0_numberOf q_ml_X4_52 ⟨rfl, rfl⟩ ⟨Nat.le_of_ble_eq_true rfl, Nat.le_of_ble_eq_true rfl⟩ hP [] rfl hl.1 rfl rfl (Nat.le_of_ble_eq_true rfl) ⟨Nat.zero_le _, Nat.zero_le _⟩ dX4_greatestOf_12 (fun r_3 hf => ?_)
  exact z_retPi X hf dX4_greatestOf_15
def s_X4_greatestOf (u : zSegs) (x1 : Int32) (Q : Int32 → Prop) : Prop := ∃ s c : Nat, s < 12 ∧ c ≤ 50 ∧ x1 = nI s ∧ u.2.1 s = nI c ∧ Q (if c = 0 then 0 else cNum (u.1 (50 * s + (c - 1))))
theorem st_X4_greatestOf {u : zSegs} {x1 : Int32} {Q : Int32 → Prop} (h : s_X4_greatestOf u x1 Q) : t_X4_greatestOf u x1 Q := by
  obtain ⟨s, c, hs, hc, rfl, e, h⟩ := h
  refine ⟨s, hs, rfl, s, c, hs, hc, rfl, e, ?_⟩
  rw [e]
  by_cases h0 : c = 0
  · subst h0
    rw [if_pos rfl] at h
    exact Or.inr ⟨Or.inl (by decide), by show Q (cNum 0); exact h⟩
  · rw [if_neg h0] at h
    obtain ⟨k, rfl⟩ : ∃ k, c = k + 1 := ⟨c - 1, by omega⟩
    exact Or.inl ⟨k, by omega, nI_pred k, h⟩
theorem c_X4_greatestOf (l : Launch) (dC : Nat → ClassId) (dI : Nat → Nat → Nat) (cI cJ cS : ClassId) (a : Nat → Nat) (u : zSegs) (x1 : Int32) (Q : Int32 → Prop) (hf : s_X4_greatestOf u x1 Q) : Met l yX4_greatestOf (Cond.code yX4_greatestOf cX4_greatestOf 2 (some .int) :: zT) rm_X4_greatestOf (zPp dC dI cI cJ cS (cl_X4 cI cJ a u) [.ref (a 0), .int x1]) (vp_Si Q) 0 0 (fun _ => False) := L_X4_greatestOf l dC dI cI cJ cS a u x1 Q (st_X4_greatestOf hf)

def t_X4_freeOnes_e (u : zSegs) (K13 : Int32 → Int32 → Int32 → Prop) (Q : Int32 → Prop) : Prop := K13 (0 : Int32) (12 : Int32) (0 : Int32)
def t_X4_freeOnes_13 (u : zSegs) (y1 : Int32) (y3 : Int32) (y4 : Int32) (K13 : Int32 → Int32 → Int32 → Prop) (Q : Int32 → Prop) : Prop := ((y3 ≤ y4 → Q y1) ∧ (¬ y3 ≤ y4 → vp_in y4 12 ∧ ∀ x_3 : Int32, x_3 = (u.2.2.2.1 y4.toNatClampNeg) → ((¬ x_3 = 0 → ∀ x_5 : Int32, x_5 = (y1 + (0 : Int32)) → ∀ x_6 : Int32, x_6 = y4 + (1 : Int32) → K13 x_5 y3 x_6) ∧ (x_3 = 0 → ∀ x_8 : Int32, x_8 = (y1 + (1 : Int32)) → ∀ x_9 : Int32, x_9 = y4 + (1 : Int32) → K13 x_8 y3 x_9))))
theorem zc_X4_freeOnes : zCalV RX4 yX4_freeOnes cX4_freeOnes 6 (some .int) 0 := ⟨q_im_X4_freeOnes, q_se_X4_freeOnes, q_in_X4, q_cd_X4_freeOnes, ⟨by decide, by decide, by decide +kernel⟩, rfl⟩
abbrev rm_X4_freeOnes : Room := { frames := 0, cells := 0, slots := 0, locals := 0 }
def v_X4_freeOnes (u : zSegs) (Q : Int32 → Prop) : Prop := ∃ I13 : Nat → Int32 → Int32 → Int32 → Prop, (∀ (n : Nat) (y1 : Int32) (y3 : Int32) (y4 : Int32), I13 n y1 y3 y4 → t_X4_freeOnes_13 u y1 y3 y4 (fun q0 q1 q2 => ∃ k : Nat, k < n ∧ I13 k q0 q1 q2) Q) ∧ t_X4_freeOnes_e u (fun q0 q1 q2 => ∃ k : Nat, I13 k q0 q1 q2) Q
set_option maxHeartbeats 4000000 in
set_option maxRecDepth 100000 in
theorem L_X4_freeOnes (l : Launch) (dC : Nat → ClassId) (dI : Nat → Nat → Nat) (cI cJ cS : ClassId) (a : Nat → Nat) (u : zSegs) (Q : Int32 → Prop) (I13 : Nat → Int32 → Int32 → Int32 → Prop) (h13 : ∀ (n : Nat) (y1 : Int32) (y3 : Int32) (y4 : Int32), I13 n y1 y3 y4 → t_X4_freeOnes_13 u y1 y3 y4 (fun q0 q1 q2 => ∃ k : Nat, k < n ∧ I13 k q0 q1 q2) Q) (hf : t_X4_freeOnes_e u (fun q0 q1 q2 => ∃ k : Nat, I13 k q0 q1 q2) Q) : Met l yX4_freeOnes (Cond.code yX4_freeOnes cX4_freeOnes 6 (some .int) :: zT) rm_X4_freeOnes (zPp dC dI cI cJ cS (cl_X4 cI cJ a u) [.ref (a 0)]) (vp_Si Q) 0 0 (fun _ => False) := by
  refine z_enterP (cc := cX4_freeOnes) (maxL := 6) (ret := (some .int)) (by decide) (Nat.le_of_ble_eq_true rfl) ?_
  intro p e s m below meth c ls X hP hl
  obtain ⟨⟨hx, hb, hml, hown, hts⟩, hr, hlk, hK⟩ := id X
  have hl : lv_has ls 6 [(0, .ref (a 0))] := hl
  have LP : ∀ n : Nat, (∀ (y1 : Int32) (y3 : Int32) (y4 : Int32) (ls : Array Slot), I13 n y1 y3 y4 → lv_has ls 6 [(0, .ref (a 0)), (1, .int y1), (2, .ref (a 4)), (3, .int y3), (4, .int y4)] → W p l e rm_X4_freeOnes s m [.ref (a 0)].toArray below meth c s.heap [] 0 0 (MQ below (vp_Si Q) [.ref (a 0)].toArray s 0 0 (fun _ => False)) (F0 m 13 ls [])) := by
    intro n
    induction n using Nat.strongRecOn with
    | _ n ih =>
      intro y1 y3 y4 ls hI hl
      have hf := h13 n y1 y3 y4 hI
      unfold t_X4_freeOnes_13 at hf
      refine lv_iload hx hb dX4_freeOnes_13 (lv_at hl 4 rfl) ?_
      refine lv_iload_n hx hb dX4_freeOnes_15 rfl (lv_at hl 3 rfl) ?_
      refine lv_icmp_ge (tgt := 44) hx hb dX4_freeOnes_16 (by decide) (fun c_2 => ?_) (fun c_2 => ?_)
      · have hf := hf.1 c_2
        refine lv_iload_n hx hb dX4_freeOnes_44 rfl (lv_at hl 1 rfl) ?_
        exact z_retPi X hf dX4_freeOnes_45
      · have hf := hf.2 c_2
        refine lv_aload_n hx hb dX4_freeOnes_19 rfl (lv_at hl 2 rfl) ?_
        refine lv_iload hx hb dX4_freeOnes_20 (lv_at hl 4 rfl) ?_
        obtain ⟨hg, hf⟩ := hf
        refine va_iald hx hb hK hP 4 0 rfl rfl hg dX4_freeOnes_22 ?_
        refine lv_topi (fun x_3 ex_3 => ?_)
        have hf := hf x_3 ex_3
        refine lv_istore (lv' := [(5, .int x_3), (0, .ref (a 0)), (1, .int y1), (2, .ref (a 4)), (3, .int y3), (4, .int y4)]) hx hb dX4_freeOnes_23 hl (by decide) rfl (fun ls hl => ?_)
        refine lv_iload_n hx hb dX4_freeOnes_25 rfl (lv_at hl 2 rfl) ?_
        refine lv_iload hx hb dX4_freeOnes_26 (lv_at hl 0 rfl) ?_
        refine lv_if_ne (tgt := 35) hx hb dX4_freeOnes_28 (by decide) (fun c_4 => ?_) (fun c_4 => ?_)
        · have hf := hf.1 c_4
          refine lv_iconst (v := 0) hx hb dX4_freeOnes_35 (by decide) ?_
          refine lv_iadd hx hb dX4_freeOnes_36 ?_
          refine lv_topi (fun x_5 ex_5 => ?_)
          have hf := hf x_5 ex_5
          refine lv_istore_n (lv' := [(1, .int x_5), (5, .int x_3), (0, .ref (a 0)), (2, .ref (a 4)), (3, .int y3), (4, .int y4)]) hx hb dX4_freeOnes_37 rfl hl (by decide) rfl (fun ls hl => ?_)
          obtain ⟨x_6, ex_6⟩ : ∃ y : Int32, y = y4 + (1 : Int32) := ⟨_, rfl⟩
          have hf := hf x_6 ex_6
          refine lv_iinc (v := x_6) (lv' := [(4, .int x_6), (1, .int x_5), (5, .int x_3), (0, .ref (a 0)), (2, .ref (a 4)), (3, .int y3)]) hx hb dX4_freeOnes_38 hl (k := 5) rfl (by rw [ex_6]; rfl) (by decide) rfl (fun ls hl => ?_)
          refine lv_goto (tgt := 13) hx hb dX4_freeOnes_41 (by decide) ?_
          obtain ⟨k_7, hk_7, hf⟩ := hf
          exact (ih k_7 hk_7) _ _ _ ls hf (lv_sub hl [3, 1, 4, 5, 0] rfl)
        · have hf := hf.2 c_4
          refine lv_iconst (v := 1) hx hb dX4_freeOnes_31 (by decide) ?_
          refine lv_goto (tgt := 36) hx hb dX4_freeOnes_32 (by decide) ?_
          refine lv_iadd hx hb dX4_freeOnes_36 ?_
          refine lv_topi (fun x_8 ex_8 => ?_)
          have hf := hf x_8 ex_8
          refine lv_istore_n (lv' := [(1, .int x_8), (5, .int x_3), (0, .ref (a 0)), (2, .ref (a 4)), (3, .int y3), (4, .int y4)]) hx hb dX4_freeOnes_37 rfl hl (by decide) rfl (fun ls hl => ?_)
          obtain ⟨x_9, ex_9⟩ : ∃ y : Int32, y = y4 + (1 : Int32) := ⟨_, rfl⟩
          have hf := hf x_9 ex_9
          refine lv_iinc (v := x_9) (lv' := [(4, .int x_9), (1, .int x_8), (5, .int x_3), (0, .ref (a 0)), (2, .ref (a 4)), (3, .int y3)]) hx hb dX4_freeOnes_38 hl (k := 5) rfl (by rw [ex_9]; rfl) (by decide) rfl (fun ls hl => ?_)
          refine lv_goto (tgt := 13) hx hb dX4_freeOnes_41 (by decide) ?_
          obtain ⟨k_10, hk_10, hf⟩ := hf
          exact (ih k_10 hk_10) _ _ _ ls hf (lv_sub hl [3, 1, 4, 5, 0] rfl)
  unfold t_X4_freeOnes_e at hf
  refine lv_iconst (v := 0) hx hb dX4_freeOnes_0 (by decide) ?_
  refine lv_istore_n (lv' := [(1, .int (0 : Int32)), (0, .ref (a 0))]) hx hb dX4_freeOnes_1 rfl hl (by decide) rfl (fun ls hl => ?_)
  refine lv_aload_n hx hb dX4_freeOnes_2 rfl (lv_at hl 1 rfl) ?_
  refine va_get (D := (dC, dI)) (ci := 3) (v := .ref (a 4)) (C := RX4) (T := TX4) (N := 5) hx hb hts inX4 hown hK hP 0 rfl rfl 3 (by decide) (hts _ q_fl_X4_22) (fun _ h9 => h9) rfl dX4_freeOnes_3 ?_
  refine lv_astore_n (lv' := [(2, .ref (a 4)), (1, .int (0 : Int32)), (0, .ref (a 0))]) hx hb dX4_freeOnes_6 rfl hl (by decide) rfl (fun ls hl => ?_)
  refine lv_aload_n hx hb dX4_freeOnes_7 rfl (lv_at hl 0 rfl) ?_
  refine va_alen (v := 12) hx hb hK hP 4 0 rfl (ty := .int) rfl rfl dX4_freeOnes_8 ?_
  refine lv_istore_n (lv' := [(3, .int (12 : Int32)), (2, .ref (a 4)), (1, .int (0 : Int32)), (0, .ref (a 0))]) hx hb dX4_freeOnes_9 rfl hl (by decide) rfl (fun ls hl => ?_)
  refine lv_iconst (v := 0) hx hb dX4_freeOnes_10 (by decide) ?_
  refine lv_istore (lv' := [(4, .int (0 : Int32)), (3, .int (12 : Int32)), (2, .ref (a 4)), (1, .int (0 : Int32)), (0, .ref (a 0))]) hx hb dX4_freeOnes_11 hl (by decide) rfl (fun ls hl => ?_)
  obtain ⟨k_1, hf⟩ := hf
  exact (LP k_1) _ _ _ ls hf (lv_sub hl [4, 3, 2, 1, 0] rfl)
def s_X4_freeOnes (u : zSegs) (Q : Int32 → Prop) : Prop := Q (nI (fa_cnt (fun s => decide (u.2.2.2.1 s = 0)) 12))
theorem st_X4_freeOnes {u : zSegs} {Q : Int32 → Prop} (h : s_X4_freeOnes u Q) : v_X4_freeOnes u Q := by
  refine zlp3 (T := fun y1 y3 y4 K => t_X4_freeOnes_13 u y1 y3 y4 K Q) (E := fun K => t_X4_freeOnes_e u K Q) 12 (fun i => nI (fa_cnt (fun s => decide (u.2.2.2.1 s = 0)) i)) (fun _ => 12) (fun i => nI i) (fun K hK => hK) ?_ ?_
  · intro i hi K hK
    refine ⟨fun c => absurd c (ge12 hi), fun _ => ⟨vp_in_nI hi (by decide), ?_⟩⟩
    intro x3 e3
    rw [nI_clamp (by omega)] at e3
    refine ⟨fun c x5 e5 x6 e6 => ?_, fun c x5 e5 x6 e6 => ?_⟩
    · have hp : (fun s => decide (u.2.2.2.1 s = 0)) i = false := by rw [e3] at c; simp [c]
      rw [e5, e6, nI_1]
      rw [fa_cnt_no hp] at hK
      rw [show ∀ z : Int32, z + 0 = z from Int32.add_zero]
      exact hK
    · have hp : (fun s => decide (u.2.2.2.1 s = 0)) i = true := by rw [e3] at c; simp [c]
      rw [e5, e6, nI_1, nI_1]
      rw [fa_cnt_yes hp] at hK
      exact hK
  · intro K
    exact ⟨fun _ => h, fun c => absurd (nI_le (Nat.le_refl 12) (by decide)) c⟩
theorem c_X4_freeOnes (l : Launch) (dC : Nat → ClassId) (dI : Nat → Nat → Nat) (cI cJ cS : ClassId) (a : Nat → Nat) (u : zSegs) (Q : Int32 → Prop) (hf : s_X4_freeOnes u Q) : Met l yX4_freeOnes (Cond.code yX4_freeOnes cX4_freeOnes 6 (some .int) :: zT) rm_X4_freeOnes (zPp dC dI cI cJ cS (cl_X4 cI cJ a u) [.ref (a 0)]) (vp_Si Q) 0 0 (fun _ => False) := by
  obtain ⟨I13, h13, hf⟩ := st_X4_freeOnes hf
  exact L_X4_freeOnes l dC dI cI cJ cS a u Q I13 h13 hf

def t_X4_leastFree_e (u : zSegs) (K2 : Int32 → Prop) (Q : Int32 → Prop) : Prop := K2 (0 : Int32)
def t_X4_leastFree_2 (u : zSegs) (y1 : Int32) (K2 : Int32 → Prop) (Q : Int32 → Prop) : Prop := (((12 : Int32) ≤ y1 → Q (-1 : Int32)) ∧ (¬ (12 : Int32) ≤ y1 → vp_in y1 12 ∧ ((¬ (u.2.2.2.1 y1.toNatClampNeg) = 0 → ∀ x_4 : Int32, x_4 = y1 + (1 : Int32) → K2 x_4) ∧ ((u.2.2.2.1 y1.toNatClampNeg) = 0 → Q y1))))
theorem zc_X4_leastFree : zCalV RX4 yX4_leastFree cX4_leastFree 2 (some .int) 0 := ⟨q_im_X4_leastFree, q_se_X4_leastFree, q_in_X4, q_cd_X4_leastFree, ⟨by decide, by decide, by decide +kernel⟩, rfl⟩
abbrev rm_X4_leastFree : Room := { frames := 0, cells := 0, slots := 0, locals := 0 }
def v_X4_leastFree (u : zSegs) (Q : Int32 → Prop) : Prop := ∃ I2 : Nat → Int32 → Prop, (∀ (n : Nat) (y1 : Int32), I2 n y1 → t_X4_leastFree_2 u y1 (fun q0 => ∃ k : Nat, k < n ∧ I2 k q0) Q) ∧ t_X4_leastFree_e u (fun q0 => ∃ k : Nat, I2 k q0) Q
set_option maxHeartbeats 4000000 in
set_option maxRecDepth 100000 in
theorem L_X4_leastFree (l : Launch) (dC : Nat → ClassId) (dI : Nat → Nat → Nat) (cI cJ cS : ClassId) (a : Nat → Nat) (u : zSegs) (Q : Int32 → Prop) (I2 : Nat → Int32 → Prop) (h2 : ∀ (n : Nat) (y1 : Int32), I2 n y1 → t_X4_leastFree_2 u y1 (fun q0 => ∃ k : Nat, k < n ∧ I2 k q0) Q) (hf : t_X4_leastFree_e u (fun q0 => ∃ k : Nat, I2 k q0) Q) : Met l yX4_leastFree (Cond.code yX4_leastFree cX4_leastFree 2 (some .int) :: zT) rm_X4_leastFree (zPp dC dI cI cJ cS (cl_X4 cI cJ a u) [.ref (a 0)]) (vp_Si Q) 0 0 (fun _ => False) := by
  refine z_enterP (cc := cX4_leastFree) (maxL := 2) (ret := (some .int)) (by decide) (Nat.le_of_ble_eq_true rfl) ?_
  intro p e s m below meth c ls X hP hl
  obtain ⟨⟨hx, hb, hml, hown, hts⟩, hr, hlk, hK⟩ := id X
  have hl : lv_has ls 2 [(0, .ref (a 0))] := hl
  have LP : ∀ n : Nat, (∀ (y1 : Int32) (ls : Array Slot), I2 n y1 → lv_has ls 2 [(0, .ref (a 0)), (1, .int y1)] → W p l e rm_X4_leastFree s m [.ref (a 0)].toArray below meth c s.heap [] 0 0 (MQ below (vp_Si Q) [.ref (a 0)].toArray s 0 0 (fun _ => False)) (F0 m 2 ls [])) := by
    intro n
    induction n using Nat.strongRecOn with
    | _ n ih =>
      intro y1 ls hI hl
      have hf := h2 n y1 hI
      unfold t_X4_leastFree_2 at hf
      refine lv_iload_n hx hb dX4_leastFree_2 rfl (lv_at hl 1 rfl) ?_
      refine lv_bipush (v := 12) hx hb dX4_leastFree_3 (by decide) ?_
      refine lv_icmp_ge (tgt := 25) hx hb dX4_leastFree_5 (by decide) (fun c_2 => ?_) (fun c_2 => ?_)
      · have hf := hf.1 c_2
        refine lv_iconst (v := (-1)) hx hb dX4_leastFree_25 (by decide) ?_
        exact z_retPi X hf dX4_leastFree_26
      · have hf := hf.2 c_2
        refine lv_aload_n hx hb dX4_leastFree_8 rfl (lv_at hl 0 rfl) ?_
        refine va_get (D := (dC, dI)) (ci := 3) (v := .ref (a 4)) (C := RX4) (T := TX4) (N := 5) hx hb hts inX4 hown hK hP 0 rfl rfl 3 (by decide) (hts _ q_fl_X4_22) (fun _ h9 => h9) rfl dX4_leastFree_9 ?_
        refine lv_iload_n hx hb dX4_leastFree_12 rfl (lv_at hl 1 rfl) ?_
        obtain ⟨hg, hf⟩ := hf
        refine va_iald hx hb hK hP 4 0 rfl rfl hg dX4_leastFree_13 ?_
        refine lv_if_ne (tgt := 19) hx hb dX4_leastFree_14 (by decide) (fun c_3 => ?_) (fun c_3 => ?_)
        · have hf := hf.1 c_3
          obtain ⟨x_4, ex_4⟩ : ∃ y : Int32, y = y1 + (1 : Int32) := ⟨_, rfl⟩
          have hf := hf x_4 ex_4
          refine lv_iinc (v := x_4) (lv' := [(1, .int x_4), (0, .ref (a 0))]) hx hb dX4_leastFree_19 hl (k := 1) rfl (by rw [ex_4]; rfl) (by decide) rfl (fun ls hl => ?_)
          refine lv_goto (tgt := 2) hx hb dX4_leastFree_22 (by decide) ?_
          obtain ⟨k_5, hk_5, hf⟩ := hf
          exact (ih k_5 hk_5) _ ls hf (lv_sub hl [1, 0] rfl)
        · have hf := hf.2 c_3
          refine lv_iload_n hx hb dX4_leastFree_17 rfl (lv_at hl 1 rfl) ?_
          exact z_retPi X hf dX4_leastFree_18
  unfold t_X4_leastFree_e at hf
  refine lv_iconst (v := 0) hx hb dX4_leastFree_0 (by decide) ?_
  refine lv_istore_n (lv' := [(1, .int (0 : Int32)), (0, .ref (a 0))]) hx hb dX4_leastFree_1 rfl hl (by decide) rfl (fun ls hl => ?_)
  obtain ⟨k_1, hf⟩ := hf
  exact (LP k_1) _ ls hf (lv_sub hl [1, 0] rfl)
def s_X4_leastFree (u : zSegs) (Q : Int32 → Prop) : Prop := Q (zFst (fun s => decide (u.2.2.2.1 s = 0)) 12)
theorem st_X4_leastFree {u : zSegs} {Q : Int32 → Prop} (h : s_X4_leastFree u Q) : v_X4_leastFree u Q := by
  have hle := fa_first_le (fun s => decide (u.2.2.2.1 s = 0)) 12
  refine zlp1 (T := fun y K => t_X4_leastFree_2 u y K Q) (E := fun K => t_X4_leastFree_e u K Q) (fa_first (fun s => decide (u.2.2.2.1 s = 0)) 12) (fun i => nI i) (fun K hK => hK) ?_ ?_
  · intro i hi K hK
    have hp := fa_first_no (fun s => decide (u.2.2.2.1 s = 0)) 12 i hi
    simp only [decide_eq_false_iff_not] at hp
    refine ⟨fun c => absurd c (ge12 (by omega)), fun _ => ⟨vp_in_nI (by omega) (by decide), ?_⟩⟩
    rw [nI_clamp (by omega)]
    refine ⟨fun c x e => ?_, fun c => absurd c hp⟩
    rw [e, nI_1]; exact hK
  · intro K
    by_cases hf : fa_first (fun s => decide (u.2.2.2.1 s = 0)) 12 < 12
    · have hp := fa_first_yes (fun s => decide (u.2.2.2.1 s = 0)) 12 hf
      simp only [decide_eq_true_eq] at hp
      unfold s_X4_leastFree at h
      rw [zFst_yes hf] at h
      refine ⟨fun c => absurd c (ge12 (by omega)), fun _ => ⟨vp_in_nI (by omega) (by decide), ?_⟩⟩
      rw [nI_clamp (by omega)]
      exact ⟨fun c => absurd hp c, fun _ => h⟩
    · unfold s_X4_leastFree at h
      rw [zFst_no hf] at h
      have he : fa_first (fun s => decide (u.2.2.2.1 s = 0)) 12 = 12 := by omega
      show t_X4_leastFree_2 u (nI (fa_first (fun s => decide (u.2.2.2.1 s = 0)) 12)) K Q
      rw [he]
      exact ⟨fun _ => h, fun c => absurd (nI_le (Nat.le_refl 12) (by decide)) c⟩
theorem c_X4_leastFree (l : Launch) (dC : Nat → ClassId) (dI : Nat → Nat → Nat) (cI cJ cS : ClassId) (a : Nat → Nat) (u : zSegs) (Q : Int32 → Prop) (hf : s_X4_leastFree u Q) : Met l yX4_leastFree (Cond.code yX4_leastFree cX4_leastFree 2 (some .int) :: zT) rm_X4_leastFree (zPp dC dI cI cJ cS (cl_X4 cI cJ a u) [.ref (a 0)]) (vp_Si Q) 0 0 (fun _ => False) := by
  obtain ⟨I2, h2, hf⟩ := st_X4_leastFree hf
  exact L_X4_leastFree l dC dI cI cJ cS a u Q I2 h2 hf

def t_X4_openAt (u : zSegs) (x1 : Int32) (Q : zSegs → Prop) : Prop := s_X4_isOne x1 (fun r_1 : Int32 => ((r_1 = 0 → Q u) ∧ (¬ r_1 = 0 → vp_in x1 12 ∧ ∀ f_3 : Nat → Int32, f_3 = upd u.2.2.2.1 x1.toNatClampNeg (1 : Int32) → Q (u.1, u.2.1, u.2.2.1, f_3, x1))))
theorem zc_X4_openAt : zCalV RX4 yX4_openAt cX4_openAt 2 none 1 := ⟨q_im_X4_openAt, q_se_X4_openAt, q_in_X4, q_cd_X4_openAt, ⟨by decide, by decide, by decide +kernel⟩, rfl⟩
abbrev rm_X4_openAt : Room := { frames := 1, cells := 0, slots := 0, locals := 20 }
set_option maxHeartbeats 4000000 in
set_option maxRecDepth 100000 in
theorem L_X4_openAt (l : Launch) (dC : Nat → ClassId) (dI : Nat → Nat → Nat) (cI cJ cS : ClassId) (a : Nat → Nat) (u : zSegs) (x1 : Int32) (Q : zSegs → Prop) (hf : t_X4_openAt u x1 Q) : ∀ sz : Nat, Met l yX4_openAt (Cond.code yX4_openAt cX4_openAt 2 none :: zT) rm_X4_openAt (zPm dC dI cI cJ cS (cl_X4 cI cJ a u) [.ref (a 0), .int x1] sz) (va_Qv Q (zB dC dI cI cJ cS (va_A (cl_X4 cI cJ a u) sz) (fun z => cl_X4 cI cJ a z)) (va_A (cl_X4 cI cJ a u) sz)) 0 0 (va_A (cl_X4 cI cJ a u) sz) := by
  intro sz
  refine z_enterM (Qc := fun A => va_Qv Q (zB dC dI cI cJ cS A (fun z => cl_X4 cI cJ a z)) A) (cc := cX4_openAt) (maxL := 2) (ret := none) (by decide) (Nat.le_of_ble_eq_true rfl) ?_
  intro p e s m below meth c ls A X hP hD hS hA hl
  obtain ⟨⟨hx, hb, hml, hown, hts⟩, hr, hlk, hK⟩ := id X
  have hl : lv_has ls 2 [(0, .ref (a 0)), (1, .int x1)] := hl
  unfold t_X4_openAt at hf
  refine lv_iload_n hx hb dX4_openAt_0 rfl (lv_at hl 1 rfl) ?_
  refine z_cSi (As := [.int x1]) (rest := []) X (c_X4_isOne l dC dI cI cJ cS   x1 _ hf) zc_X4_isOne q_ml_X4_56 ⟨rfl, rfl⟩ ⟨Nat.le_of_ble_eq_true rfl, Nat.le_of_ble_eq_true rfl⟩ hP [] rfl hl.1 rfl rfl (Nat.le_of_ble_eq_true rfl) ⟨Nat.zero_le _, Nat.zero_le _⟩ dX4_openAt_1 (fun r_1 hf => ?_)
  obtain ⟨hbr_1, hf⟩ := hf
  refine lv_if_eq (tgt := 19) hx hb dX4_openAt_4 (by decide) (fun c_2 => ?_) (fun c_2 => ?_)
  · have hf := hf.1 c_2
    exact z_retMv (Wf := (fun z => cl_X4 cI cJ a z)) (u := u) X hf hP hD hS dX4_openAt_19
  · have hf := hf.2 c_2
    refine lv_aload_n hx hb dX4_openAt_7 rfl (lv_at hl 0 rfl) ?_
    refine lv_iload_n hx hb dX4_openAt_8 rfl (lv_at hl 1 rfl) ?_
    refine z_put (w' := cl_X4 cI cJ a (u.1, u.2.1, u.2.2.1, u.2.2.2.1, x1)) (ci := 3) (v := .int x1) (ty := .int) (Cn := RX4) (T := TX4) (N := 5) X inX4 tyX4 tyX4_ok nmX4 hP hD hS 0 rfl rfl 4 (by decide) (hts _ q_fl_X4_31) (fun _ h9 => h9) rfl (tyX4_ok 4 (by decide)) rfl rfl (Nat.le_of_ble_eq_true rfl) rfl dX4_openAt_9 (fun H locs hP hD hS => ?_)
    refine lv_aload_n hx hb dX4_openAt_12 rfl (lv_at hl 0 rfl) ?_
    refine va_get (D := (dC, dI)) (ci := 3) (v := .ref (a 4)) (C := RX4) (T := TX4) (N := 5) hx hb hts inX4 hown hK hP 0 rfl rfl 3 (by decide) (hts _ q_fl_X4_22) (fun _ h9 => h9) rfl dX4_openAt_13 ?_
    refine lv_iload_n hx hb dX4_openAt_16 rfl (lv_at hl 1 rfl) ?_
    refine lv_iconst (v := 1) hx hb dX4_openAt_17 (by decide) ?_
    obtain ⟨hg, hf⟩ := hf
    refine z_iast (Wn := fun f_3 => cl_X4 cI cJ a (u.1, u.2.1, u.2.2.1, f_3, x1)) X hP hD hS 4 0 rfl rfl hg (fun _ => rfl) dX4_openAt_18 (fun f_3 H locs ef_3 hP hD hS => ?_)
    have hf := hf f_3 ef_3
    exact z_retMv (Wf := (fun z => cl_X4 cI cJ a z)) (u := (u.1, u.2.1, u.2.2.1, f_3, x1)) X hf hP hD hS dX4_openAt_19
def s_X4_openAt (u : zSegs) (x1 : Int32) (Q : zSegs → Prop) : Prop := ∃ s : Nat, s < 12 ∧ x1 = nI s ∧ Q (u.1, u.2.1, u.2.2.1, upd u.2.2.2.1 s 1, nI s)
theorem st_X4_openAt {u : zSegs} {x1 : Int32} {Q : zSegs → Prop} (h : s_X4_openAt u x1 Q) : t_X4_openAt u x1 Q := by
  obtain ⟨s, hs, rfl, h⟩ := h
  refine ⟨⟨s, hs, rfl⟩, fun c => absurd c (by decide), fun _ => ⟨vp_in_nI hs (by decide), fun f e => ?_⟩⟩
  rw [nI_clamp (by omega)] at e
  rw [e]; exact h
theorem c_X4_openAt (l : Launch) (dC : Nat → ClassId) (dI : Nat → Nat → Nat) (cI cJ cS : ClassId) (a : Nat → Nat) (u : zSegs) (x1 : Int32) (Q : zSegs → Prop) (hf : s_X4_openAt u x1 Q) : ∀ sz : Nat, Met l yX4_openAt (Cond.code yX4_openAt cX4_openAt 2 none :: zT) rm_X4_openAt (zPm dC dI cI cJ cS (cl_X4 cI cJ a u) [.ref (a 0), .int x1] sz) (va_Qv Q (zB dC dI cI cJ cS (va_A (cl_X4 cI cJ a u) sz) (fun z => cl_X4 cI cJ a z)) (va_A (cl_X4 cI cJ a u) sz)) 0 0 (va_A (cl_X4 cI cJ a u) sz) := L_X4_openAt l dC dI cI cJ cS a u x1 Q (st_X4_openAt hf)

def t_X4_openNext (u : zSegs) (Q : zSegs → Prop) : Prop := s_X4_leastFree u (fun r_1 : Int32 => s_X4_isOne u.2.2.2.2 (fun r_2 : Int32 => ((r_2 = 0 → Q u) ∧ (¬ r_2 = 0 → ((r_1 = (-1 : Int32) → Q u) ∧ (¬ r_1 = (-1 : Int32) → vp_in u.2.2.2.2 12 ∧ ∀ f_5 : Nat → Int32, f_5 = upd u.2.2.2.1 u.2.2.2.2.toNatClampNeg (2 : Int32) → s_X4_openAt (u.1, u.2.1, u.2.2.1, f_5, u.2.2.2.2) r_1 (fun (u_7 : zSegs) => Q u_7)))))))
theorem zc_X4_openNext : zCalV RX4 yX4_openNext cX4_openNext 2 none 0 := ⟨q_im_X4_openNext, q_se_X4_openNext, q_in_X4, q_cd_X4_openNext, ⟨by decide, by decide, by decide +kernel⟩, rfl⟩
abbrev rm_X4_openNext : Room := { frames := 2, cells := 0, slots := 0, locals := 41 }
set_option maxHeartbeats 4000000 in
set_option maxRecDepth 100000 in
theorem L_X4_openNext (l : Launch) (dC : Nat → ClassId) (dI : Nat → Nat → Nat) (cI cJ cS : ClassId) (a : Nat → Nat) (u : zSegs) (Q : zSegs → Prop) (hf : t_X4_openNext u Q) : ∀ sz : Nat, Met l yX4_openNext (Cond.code yX4_openNext cX4_openNext 2 none :: zT) rm_X4_openNext (zPm dC dI cI cJ cS (cl_X4 cI cJ a u) [.ref (a 0)] sz) (va_Qv Q (zB dC dI cI cJ cS (va_A (cl_X4 cI cJ a u) sz) (fun z => cl_X4 cI cJ a z)) (va_A (cl_X4 cI cJ a u) sz)) 0 0 (va_A (cl_X4 cI cJ a u) sz) := by
  intro sz
  refine z_enterM (Qc := fun A => va_Qv Q (zB dC dI cI cJ cS A (fun z => cl_X4 cI cJ a z)) A) (cc := cX4_openNext) (maxL := 2) (ret := none) (by decide) (Nat.le_of_ble_eq_true rfl) ?_
  intro p e s m below meth c ls A X hP hD hS hA hl
  obtain ⟨⟨hx, hb, hml, hown, hts⟩, hr, hlk, hK⟩ := id X
  have hl : lv_has ls 2 [(0, .ref (a 0))] := hl
  unfold t_X4_openNext at hf
  refine lv_aload_n hx hb dX4_openNext_0 rfl (lv_at hl 0 rfl) ?_
  refine z_cVi (As := []) (rest := []) X (c_X4_leastFree l dC dI cI cJ cS a u  _ hf) zc_X4_leastFree q_ml_X4_60 ⟨rfl, rfl⟩ ⟨Nat.le_of_ble_eq_true rfl, Nat.le_of_ble_eq_true rfl⟩ hP [0, 1, 2, 3, 4] rfl 3 rfl rfl hl.1 rfl rfl (Nat.le_of_ble_eq_true rfl) ⟨Nat.zero_le _, Nat.zero_le _⟩ dX4_openNext_1 (fun r_1 hf => ?_)
  refine lv_istore_n (lv' := [(1, .int r_1), (0, .ref (a 0))]) hx hb dX4_openNext_4 rfl hl (by decide) rfl (fun ls hl => ?_)
  refine lv_aload_n hx hb dX4_openNext_5 rfl (lv_at hl 1 rfl) ?_
  refine va_get (D := (dC, dI)) (ci := 3) (v := .int u.2.2.2.2) (C := RX4) (T := TX4) (N := 5) hx hb hts inX4 hown hK hP 0 rfl rfl 4 (by decide) (hts _ q_fl_X4_31) (fun _ h9 => h9) rfl dX4_openNext_6 ?_
  refine z_cSi (As := [.int u.2.2.2.2]) (rest := []) X (c_X4_isOne l dC dI cI cJ cS   u.2.2.2.2 _ hf) zc_X4_isOne q_ml_X4_56 ⟨rfl, rfl⟩ ⟨Nat.le_of_ble_eq_true rfl, Nat.le_of_ble_eq_true rfl⟩ hP [] rfl hl.1 rfl rfl (Nat.le_of_ble_eq_true rfl) ⟨Nat.zero_le _, Nat.zero_le _⟩ dX4_openNext_9 (fun r_2 hf => ?_)
  obtain ⟨hbr_2, hf⟩ := hf
  refine lv_if_eq (tgt := 35) hx hb dX4_openNext_12 (by decide) (fun c_3 => ?_) (fun c_3 => ?_)
  · have hf := hf.1 c_3
    exact z_retMv (Wf := (fun z => cl_X4 cI cJ a z)) (u := u) X hf hP hD hS dX4_openNext_35
  · have hf := hf.2 c_3
    refine lv_iload_n hx hb dX4_openNext_15 rfl (lv_at hl 0 rfl) ?_
    refine lv_iconst (v := (-1)) hx hb dX4_openNext_16 (by decide) ?_
    refine lv_icmp_eq (tgt := 35) hx hb dX4_openNext_17 (by decide) (fun c_4 => ?_) (fun c_4 => ?_)
    · have hf := hf.1 c_4
      exact z_retMv (Wf := (fun z => cl_X4 cI cJ a z)) (u := u) X hf hP hD hS dX4_openNext_35
    · have hf := hf.2 c_4
      refine lv_aload_n hx hb dX4_openNext_20 rfl (lv_at hl 1 rfl) ?_
      refine va_get (D := (dC, dI)) (ci := 3) (v := .ref (a 4)) (C := RX4) (T := TX4) (N := 5) hx hb hts inX4 hown hK hP 0 rfl rfl 3 (by decide) (hts _ q_fl_X4_22) (fun _ h9 => h9) rfl dX4_openNext_21 ?_
      refine lv_aload_n hx hb dX4_openNext_24 rfl (lv_at hl 1 rfl) ?_
      refine va_get (D := (dC, dI)) (ci := 3) (v := .int u.2.2.2.2) (C := RX4) (T := TX4) (N := 5) hx hb hts inX4 hown hK hP 0 rfl rfl 4 (by decide) (hts _ q_fl_X4_31) (fun _ h9 => h9) rfl dX4_openNext_25 ?_
      refine lv_iconst (v := 2) hx hb dX4_openNext_28 (by decide) ?_
      obtain ⟨hg, hf⟩ := hf
      refine z_iast (Wn := fun f_5 => cl_X4 cI cJ a (u.1, u.2.1, u.2.2.1, f_5, u.2.2.2.2)) X hP hD hS 4 0 rfl rfl hg (fun _ => rfl) dX4_openNext_29 (fun f_5 H locs ef_5 hP hD hS => ?_)
      have hf := hf f_5 ef_5
      refine lv_aload_n hx hb dX4_openNext_30 rfl (lv_at hl 1 rfl) ?_
      refine lv_iload_n hx hb dX4_openNext_31 rfl (lv_at hl 0 rfl) ?_
      refine z_mVv (Wn := (fun u_7 => cl_X4 cI cJ a u_7)) (As := [.int r_1]) (rest := []) (wr := []) X (c_X4_openAt l dC dI cI cJ cS a (u.1, u.2.1, u.2.2.1, f_5, u.2.2.2.2) r_1 _ hf _) zc_X4_openAt q_ml_X4_39 ⟨rfl, rfl⟩ ⟨Nat.le_of_ble_eq_true rfl, Nat.le_of_ble_eq_true rfl⟩ hP hD hS hA [0, 1, 2, 3, 4] [] rfl (by decide) rfl (by decide) (by decide) [0, 1, 2, 3, 4] (by decide) (fun _ => rfl) 3 rfl rfl hl.1 rfl rfl (Nat.le_of_ble_eq_true rfl) ⟨Nat.zero_le _, Nat.zero_le _⟩ dX4_openNext_32 (fun u_7 H locs hf hP hD hS => ?_)
      exact z_retMv (Wf := (fun z => cl_X4 cI cJ a z)) (u := u_7) X hf hP hD hS dX4_openNext_35
/-- the open one sealed, the least free one opened -/
def zNxt (u : zSegs) (o n : Nat) : zSegs := (u.1, u.2.1, u.2.2.1, upd (upd u.2.2.2.1 o 2) n 1, nI n)
def s_X4_openNext (u : zSegs) (Q : zSegs → Prop) : Prop := ∃ o n : Nat, o < 12 ∧ n < 12 ∧ u.2.2.2.2 = nI o ∧ fa_first (fun s => decide (u.2.2.2.1 s = 0)) 12 = n ∧ Q (zNxt u o n)
theorem st_X4_openNext {u : zSegs} {Q : zSegs → Prop} (h : s_X4_openNext u Q) : t_X4_openNext u Q := by
  obtain ⟨o, n, ho, hn, eo, en, h⟩ := h
  unfold zNxt at h
  unfold t_X4_openNext s_X4_leastFree
  rw [zFst_yes (by omega), en, eo]
  refine ⟨⟨o, ho, rfl⟩, fun c => absurd c (by decide), fun _ => ⟨fun c => absurd c (n_neg (by omega)), fun _ => ⟨vp_in_nI ho (by decide), fun f e => ⟨n, hn, rfl, ?_⟩⟩⟩⟩
  rw [nI_clamp (by omega)] at e
  rw [e]; exact h
theorem c_X4_openNext (l : Launch) (dC : Nat → ClassId) (dI : Nat → Nat → Nat) (cI cJ cS : ClassId) (a : Nat → Nat) (u : zSegs) (Q : zSegs → Prop) (hf : s_X4_openNext u Q) : ∀ sz : Nat, Met l yX4_openNext (Cond.code yX4_openNext cX4_openNext 2 none :: zT) rm_X4_openNext (zPm dC dI cI cJ cS (cl_X4 cI cJ a u) [.ref (a 0)] sz) (va_Qv Q (zB dC dI cI cJ cS (va_A (cl_X4 cI cJ a u) sz) (fun z => cl_X4 cI cJ a z)) (va_A (cl_X4 cI cJ a u) sz)) 0 0 (va_A (cl_X4 cI cJ a u) sz) := L_X4_openNext l dC dI cI cJ cS a u Q (st_X4_openNext hf)

def t_X4_release (u : zSegs) (x1 : Int32) (Q : zSegs → Prop) : Prop := s_X4_isOne x1 (fun r_1 : Int32 => ((r_1 = 0 → Q u) ∧ (¬ r_1 = 0 → vp_in x1 12 ∧ ∀ f_3 : Nat → Int32, f_3 = upd u.2.2.2.1 x1.toNatClampNeg (0 : Int32) → vp_in x1 12 ∧ ∀ f_4 : Nat → Int32, f_4 = upd u.2.1 x1.toNatClampNeg (0 : Int32) → vp_in x1 12 ∧ ∀ f_5 : Nat → Int32, f_5 = upd u.2.2.1 x1.toNatClampNeg (0 : Int32) → Q (u.1, f_4, f_5, f_3, u.2.2.2.2))))
theorem zc_X4_release : zCalV RX4 yX4_release cX4_release 2 none 1 := ⟨q_im_X4_release, q_se_X4_release, q_in_X4, q_cd_X4_release, ⟨by decide, by decide, by decide +kernel⟩, rfl⟩
abbrev rm_X4_release : Room := { frames := 1, cells := 0, slots := 0, locals := 20 }
set_option maxHeartbeats 4000000 in
set_option maxRecDepth 100000 in
theorem L_X4_release (l : Launch) (dC : Nat → ClassId) (dI : Nat → Nat → Nat) (cI cJ cS : ClassId) (a : Nat → Nat) (u : zSegs) (x1 : Int32) (Q : zSegs → Prop) (hf : t_X4_release u x1 Q) : ∀ sz : Nat, Met l yX4_release (Cond.code yX4_release cX4_release 2 none :: zT) rm_X4_release (zPm dC dI cI cJ cS (cl_X4 cI cJ a u) [.ref (a 0), .int x1] sz) (va_Qv Q (zB dC dI cI cJ cS (va_A (cl_X4 cI cJ a u) sz) (fun z => cl_X4 cI cJ a z)) (va_A (cl_X4 cI cJ a u) sz)) 0 0 (va_A (cl_X4 cI cJ a u) sz) := by
  intro sz
  refine z_enterM (Qc := fun A => va_Qv Q (zB dC dI cI cJ cS A (fun z => cl_X4 cI cJ a z)) A) (cc := cX4_release) (maxL := 2) (ret := none) (by decide) (Nat.le_of_ble_eq_true rfl) ?_
  intro p e s m below meth c ls A X hP hD hS hA hl
  obtain ⟨⟨hx, hb, hml, hown, hts⟩, hr, hlk, hK⟩ := id X
  have hl : lv_has ls 2 [(0, .ref (a 0)), (1, .int x1)] := hl
  unfold t_X4_release at hf
  refine lv_iload_n hx hb dX4_release_0 rfl (lv_at hl 1 rfl) ?_
  refine z_cSi (As := [.int x1]) (rest := []) X (c_X4_isOne l dC dI cI cJ cS   x1 _ hf) zc_X4_isOne q_ml_X4_56 ⟨rfl, rfl⟩ ⟨Nat.le_of_ble_eq_true rfl, Nat.le_of_ble_eq_true rfl⟩ hP [] rfl hl.1 rfl rfl (Nat.le_of_ble_eq_true rfl) ⟨Nat.zero_le _, Nat.zero_le _⟩ dX4_release_1 (fun r_1 hf => ?_)
  obtain ⟨hbr_1, hf⟩ := hf
  refine lv_if_eq (tgt := 28) hx hb dX4_release_4 (by decide) (fun c_2 => ?_) (fun c_2 => ?_)
  · have hf := hf.1 c_2
    exact z_retMv (Wf := (fun z => cl_X4 cI cJ a z)) (u := u) X hf hP hD hS dX4_release_28
  · have hf := hf.2 c_2
    refine lv_aload_n hx hb dX4_release_7 rfl (lv_at hl 0 rfl) ?_
    refine va_get (D := (dC, dI)) (ci := 3) (v := .ref (a 4)) (C := RX4) (T := TX4) (N := 5) hx hb hts inX4 hown hK hP 0 rfl rfl 3 (by decide) (hts _ q_fl_X4_22) (fun _ h9 => h9) rfl dX4_release_8 ?_
    refine lv_iload_n hx hb dX4_release_11 rfl (lv_at hl 1 rfl) ?_
    refine lv_iconst (v := 0) hx hb dX4_release_12 (by decide) ?_
    obtain ⟨hg, hf⟩ := hf
    refine z_iast (Wn := fun f_3 => cl_X4 cI cJ a (u.1, u.2.1, u.2.2.1, f_3, u.2.2.2.2)) X hP hD hS 4 0 rfl rfl hg (fun _ => rfl) dX4_release_13 (fun f_3 H locs ef_3 hP hD hS => ?_)
    have hf := hf f_3 ef_3
    refine lv_aload_n hx hb dX4_release_14 rfl (lv_at hl 0 rfl) ?_
    refine va_get (D := (dC, dI)) (ci := 3) (v := .ref (a 2)) (C := RX4) (T := TX4) (N := 5) hx hb hts inX4 hown hK hP 0 rfl rfl 1 (by decide) (hts _ q_fl_X4_15) (fun _ h9 => h9) rfl dX4_release_15 ?_
    refine lv_iload_n hx hb dX4_release_18 rfl (lv_at hl 1 rfl) ?_
    refine lv_iconst (v := 0) hx hb dX4_release_19 (by decide) ?_
    obtain ⟨hg, hf⟩ := hf
    refine z_iast (Wn := fun f_4 => cl_X4 cI cJ a (u.1, f_4, u.2.2.1, f_3, u.2.2.2.2)) X hP hD hS 2 0 rfl rfl hg (fun _ => rfl) dX4_release_20 (fun f_4 H locs ef_4 hP hD hS => ?_)
    have hf := hf f_4 ef_4
    refine lv_aload_n hx hb dX4_release_21 rfl (lv_at hl 0 rfl) ?_
    refine va_get (D := (dC, dI)) (ci := 3) (v := .ref (a 3)) (C := RX4) (T := TX4) (N := 5) hx hb hts inX4 hown hK hP 0 rfl rfl 2 (by decide) (hts _ q_fl_X4_19) (fun _ h9 => h9) rfl dX4_release_22 ?_
    refine lv_iload_n hx hb dX4_release_25 rfl (lv_at hl 1 rfl) ?_
    refine lv_iconst (v := 0) hx hb dX4_release_26 (by decide) ?_
    obtain ⟨hg, hf⟩ := hf
    refine z_iast (Wn := fun f_5 => cl_X4 cI cJ a (u.1, f_4, f_5, f_3, u.2.2.2.2)) X hP hD hS 3 0 rfl rfl hg (fun _ => rfl) dX4_release_27 (fun f_5 H locs ef_5 hP hD hS => ?_)
    have hf := hf f_5 ef_5
    exact z_retMv (Wf := (fun z => cl_X4 cI cJ a z)) (u := (u.1, f_4, f_5, f_3, u.2.2.2.2)) X hf hP hD hS dX4_release_28
def zRel (u : zSegs) (s : Nat) : zSegs := (u.1, upd u.2.1 s 0, upd u.2.2.1 s 0, upd u.2.2.2.1 s 0, u.2.2.2.2)
def s_X4_release (u : zSegs) (x1 : Int32) (Q : zSegs → Prop) : Prop := ∃ s : Nat, s < 12 ∧ x1 = nI s ∧ Q (zRel u s)
theorem st_X4_release {u : zSegs} {x1 : Int32} {Q : zSegs → Prop} (h : s_X4_release u x1 Q) : t_X4_release u x1 Q := by
  obtain ⟨s, hs, rfl, h⟩ := h
  unfold zRel at h
  refine ⟨⟨s, hs, rfl⟩, fun c => absurd c (by decide), fun _ => ⟨vp_in_nI hs (by decide), fun f e => ⟨vp_in_nI hs (by decide), fun f2 e2 => ⟨vp_in_nI hs (by decide), fun f3 e3 => ?_⟩⟩⟩⟩
  rw [nI_clamp (by omega)] at e e2 e3
  rw [e, e2, e3]; exact h
theorem c_X4_release (l : Launch) (dC : Nat → ClassId) (dI : Nat → Nat → Nat) (cI cJ cS : ClassId) (a : Nat → Nat) (u : zSegs) (x1 : Int32) (Q : zSegs → Prop) (hf : s_X4_release u x1 Q) : ∀ sz : Nat, Met l yX4_release (Cond.code yX4_release cX4_release 2 none :: zT) rm_X4_release (zPm dC dI cI cJ cS (cl_X4 cI cJ a u) [.ref (a 0), .int x1] sz) (va_Qv Q (zB dC dI cI cJ cS (va_A (cl_X4 cI cJ a u) sz) (fun z => cl_X4 cI cJ a z)) (va_A (cl_X4 cI cJ a u) sz)) 0 0 (va_A (cl_X4 cI cJ a u) sz) := L_X4_release l dC dI cI cJ cS a u x1 Q (st_X4_release hf)

def t_X4_append (u : zSegs) (x1 : Int32) (x2 : Int32) (x3 : Int32) (x4 : Int32) (Q : Int64 → zSegs → Prop) : Prop := s_X4_countOf u u.2.2.2.2 (fun r_1 : Int32 => s_X4_takenOf u u.2.2.2.2 (fun r_2 : Int32 => s_X0_made x1 u.2.2.2.2 r_2 x2 x3 x4 (fun r_3 : Int64 => s_X4_isOne u.2.2.2.2 (fun r_4 : Int32 => ((r_4 = 0 → Q r_3 u) ∧ (¬ r_4 = 0 → (((50 : Int32) ≤ r_1 → Q r_3 u) ∧ (¬ (50 : Int32) ≤ r_1 → vp_in ((u.2.2.2.2 * (50 : Int32)) + r_1) 600 ∧ ∀ f_7 : Nat → Int64, f_7 = vp_updL u.1 ((u.2.2.2.2 * (50 : Int32)) + r_1).toNatClampNeg r_3 → vp_in u.2.2.2.2 12 ∧ ∀ f_8 : Nat → Int32, f_8 = upd u.2.1 u.2.2.2.2.toNatClampNeg (r_1 + (1 : Int32)) → vp_in u.2.2.2.2 12 ∧ vp_in u.2.2.2.2 12 ∧ ∀ f_9 : Nat → Int32, f_9 = upd u.2.2.1 u.2.2.2.2.toNatClampNeg ((u.2.2.1 u.2.2.2.2.toNatClampNeg) + ((4 : Int32) + x3)) → Q r_3 (f_7, f_8, f_9, u.2.2.2.1, u.2.2.2.2)))))))))
theorem zc_X4_append : zCalV RX4 yX4_append cX4_append 8 (some .long) 4 := ⟨q_im_X4_append, q_se_X4_append, q_in_X4, q_cd_X4_append, ⟨by decide, by decide, by decide +kernel⟩, rfl⟩
abbrev rm_X4_append : Room := { frames := 1, cells := 0, slots := 0, locals := 27 }
set_option maxHeartbeats 4000000 in
set_option maxRecDepth 100000 in
theorem L_X4_append (l : Launch) (dC : Nat → ClassId) (dI : Nat → Nat → Nat) (cI cJ cS : ClassId) (a : Nat → Nat) (u : zSegs) (x1 : Int32) (x2 : Int32) (x3 : Int32) (x4 : Int32) (Q : Int64 → zSegs → Prop) (hf : t_X4_append u x1 x2 x3 x4 Q) : ∀ sz : Nat, Met l yX4_append (Cond.code yX4_append cX4_append 8 (some .long) :: zT) rm_X4_append (zPm dC dI cI cJ cS (cl_X4 cI cJ a u) [.ref (a 0), .int x1, .int x2, .int x3, .int x4] sz) (va_Ql Q (zB dC dI cI cJ cS (va_A (cl_X4 cI cJ a u) sz) (fun z => cl_X4 cI cJ a z)) (va_A (cl_X4 cI cJ a u) sz)) 0 0 (va_A (cl_X4 cI cJ a u) sz) := by
  intro sz
  refine z_enterM (Qc := fun A => va_Ql Q (zB dC dI cI cJ cS A (fun z => cl_X4 cI cJ a z)) A) (cc := cX4_append) (maxL := 8) (ret := (some .long)) (by decide) (Nat.le_of_ble_eq_true rfl) ?_
  intro p e s m below meth c ls A X hP hD hS hA hl
  obtain ⟨⟨hx, hb, hml, hown, hts⟩, hr, hlk, hK⟩ := id X
  have hl : lv_has ls 8 [(0, .ref (a 0)), (1, .int x1), (2, .int x2), (3, .int x3), (4, .int x4)] := hl
  unfold t_X4_append at hf
  refine lv_aload_n hx hb dX4_append_0 rfl (lv_at hl 0 rfl) ?_
  refine lv_aload_n hx hb dX4_append_1 rfl (lv_at hl 0 rfl) ?_
  refine va_get (D := (dC, dI)) (ci := 3) (v := .int u.2.2.2.2) (C := RX4) (T := TX4) (N := 5) hx hb hts inX4 hown hK hP 0 rfl rfl 4 (by decide) (hts _ q_fl_X4_31) (fun _ h9 => h9) rfl dX4_append_2 ?_
  refine z_cVi (As := [.int u.2.2.2.2]) (rest := []) X (c_X4_countOf l dC dI cI cJ cS a u u.2.2.2.2 _ hf) zc_X4_countOf q_ml_X4_44 ⟨rfl, rfl⟩ ⟨Nat.le_of_ble_eq_true rfl, Nat.le_of_ble_eq_true rfl⟩ hP [0, 1, 2, 3, 4] rfl 3 rfl rfl hl.1 rfl rfl (Nat.le_of_ble_eq_true rfl) ⟨Nat.zero_le _, Nat.zero_le _⟩ dX4_append_5 (fun r_1 hf => ?_)
  refine lv_istore (lv' := [(5, .int r_1), (0, .ref (a 0)), (1, .int x1), (2, .int x2), (3, .int x3), (4, .int x4)]) hx hb dX4_append_8 hl (by decide) rfl (fun ls hl => ?_)
  refine lv_iload_n hx hb dX4_append_10 rfl (lv_at hl 2 rfl) ?_
  refine lv_aload_n hx hb dX4_append_11 rfl (lv_at hl 1 rfl) ?_
  refine va_get (D := (dC, dI)) (ci := 3) (v := .int u.2.2.2.2) (C := RX4) (T := TX4) (N := 5) hx hb hts inX4 hown hK hP 0 rfl rfl 4 (by decide) (hts _ q_fl_X4_31) (fun _ h9 => h9) rfl dX4_append_12 ?_
  refine lv_aload_n hx hb dX4_append_15 rfl (lv_at hl 1 rfl) ?_
  refine lv_aload_n hx hb dX4_append_16 rfl (lv_at hl 1 rfl) ?_
  refine va_get (D := (dC, dI)) (ci := 3) (v := .int u.2.2.2.2) (C := RX4) (T := TX4) (N := 5) hx hb hts inX4 hown hK hP 0 rfl rfl 4 (by decide) (hts _ q_fl_X4_31) (fun _ h9 => h9) rfl dX4_append_17 ?_
  refine z_cVi (As := [.int u.2.2.2.2]) (rest := [.int u.2.2.2.2, .int x1]) X (c_X4_takenOf l dC dI cI cJ cS a u u.2.2.2.2 _ hf) zc_X4_takenOf q_ml_X4_64 ⟨rfl, rfl⟩ ⟨Nat.le_of_ble_eq_true rfl, Nat.le_of_ble_eq_true rfl⟩ hP [0, 1, 2, 3, 4] rfl 3 rfl rfl hl.1 rfl rfl (Nat.le_of_ble_eq_true rfl) ⟨Nat.zero_le _, Nat.zero_le _⟩ dX4_append_20 (fun r_2 hf => ?_)
  refine lv_iload_n hx hb dX4_append_23 rfl (lv_at hl 3 rfl) ?_
  refine lv_iload_n hx hb dX4_append_24 rfl (lv_at hl 4 rfl) ?_
  refine lv_iload hx hb dX4_append_25 (lv_at hl 5 rfl) ?_
  refine z_cSl (As := [.int x1, .int u.2.2.2.2, .int r_2, .int x2, .int x3, .int x4]) (rest := []) X (c_X0_made l dC dI cI cJ cS   x1 u.2.2.2.2 r_2 x2 x3 x4 _ hf) zc_X0_made q_ml_X4_67 ⟨rfl, rfl⟩ ⟨Nat.le_of_ble_eq_true rfl, Nat.le_of_ble_eq_true rfl⟩ hP [] rfl hl.1 rfl rfl (Nat.le_of_ble_eq_true rfl) ⟨Nat.zero_le _, Nat.zero_le _⟩ dX4_append_27 (fun r_3 hf => ?_)
  refine lv_lstore (lv' := [(6, .long r_3), (5, .int r_1), (0, .ref (a 0)), (1, .int x1), (2, .int x2), (3, .int x3), (4, .int x4)]) hx hb dX4_append_30 hl (by decide) rfl (fun ls hl => ?_)
  refine lv_aload_n hx hb dX4_append_32 rfl (lv_at hl 2 rfl) ?_
  refine va_get (D := (dC, dI)) (ci := 3) (v := .int u.2.2.2.2) (C := RX4) (T := TX4) (N := 5) hx hb hts inX4 hown hK hP 0 rfl rfl 4 (by decide) (hts _ q_fl_X4_31) (fun _ h9 => h9) rfl dX4_append_33 ?_
  refine z_cSi (As := [.int u.2.2.2.2]) (rest := []) X (c_X4_isOne l dC dI cI cJ cS   u.2.2.2.2 _ hf) zc_X4_isOne q_ml_X4_56 ⟨rfl, rfl⟩ ⟨Nat.le_of_ble_eq_true rfl, Nat.le_of_ble_eq_true rfl⟩ hP [] rfl hl.1 rfl rfl (Nat.le_of_ble_eq_true rfl) ⟨Nat.zero_le _, Nat.zero_le _⟩ dX4_append_36 (fun r_4 hf => ?_)
  obtain ⟨hbr_4, hf⟩ := hf
  refine lv_if_eq (tgt := 94) hx hb dX4_append_39 (by decide) (fun c_5 => ?_) (fun c_5 => ?_)
  · have hf := hf.1 c_5
    refine lv_lload hx hb dX4_append_94 (lv_at hl 0 rfl) ?_
    exact z_retMl (Wf := (fun z => cl_X4 cI cJ a z)) (u := u) X hf hP hD hS dX4_append_96
  · have hf := hf.2 c_5
    refine lv_iload hx hb dX4_append_42 (lv_at hl 1 rfl) ?_
    refine lv_bipush (v := 50) hx hb dX4_append_44 (by decide) ?_
    refine lv_icmp_ge (tgt := 94) hx hb dX4_append_46 (by decide) (fun c_6 => ?_) (fun c_6 => ?_)
    · have hf := hf.1 c_6
      refine lv_lload hx hb dX4_append_94 (lv_at hl 0 rfl) ?_
      exact z_retMl (Wf := (fun z => cl_X4 cI cJ a z)) (u := u) X hf hP hD hS dX4_append_96
    · have hf := hf.2 c_6
      refine lv_aload_n hx hb dX4_append_49 rfl (lv_at hl 2 rfl) ?_
      refine va_get (D := (dC, dI)) (ci := 3) (v := .ref (a 1)) (C := RX4) (T := TX4) (N := 5) hx hb hts inX4 hown hK hP 0 rfl rfl 0 (by decide) (hts _ q_fl_X4_9) (fun _ h9 => h9) rfl dX4_append_50 ?_
      refine lv_aload_n hx hb dX4_append_53 rfl (lv_at hl 2 rfl) ?_
      refine va_get (D := (dC, dI)) (ci := 3) (v := .int u.2.2.2.2) (C := RX4) (T := TX4) (N := 5) hx hb hts inX4 hown hK hP 0 rfl rfl 4 (by decide) (hts _ q_fl_X4_31) (fun _ h9 => h9) rfl dX4_append_54 ?_
      refine lv_bipush (v := 50) hx hb dX4_append_57 (by decide) ?_
      refine lv_imul hx hb dX4_append_59 ?_
      refine lv_iload hx hb dX4_append_60 (lv_at hl 1 rfl) ?_
      refine lv_iadd hx hb dX4_append_62 ?_
      refine lv_lload hx hb dX4_append_63 (lv_at hl 0 rfl) ?_
      obtain ⟨hg, hf⟩ := hf
      refine z_last (Wn := fun f_7 => cl_X4 cI cJ a (f_7, u.2.1, u.2.2.1, u.2.2.2.1, u.2.2.2.2)) X hP hD hS 1 1 rfl rfl hg (fun _ => rfl) dX4_append_65 (fun f_7 H locs ef_7 hP hD hS => ?_)
      have hf := hf f_7 ef_7
      refine lv_aload_n hx hb dX4_append_66 rfl (lv_at hl 2 rfl) ?_
      refine va_get (D := (dC, dI)) (ci := 3) (v := .ref (a 2)) (C := RX4) (T := TX4) (N := 5) hx hb hts inX4 hown hK hP 0 rfl rfl 1 (by decide) (hts _ q_fl_X4_15) (fun _ h9 => h9) rfl dX4_append_67 ?_
      refine lv_aload_n hx hb dX4_append_70 rfl (lv_at hl 2 rfl) ?_
      refine va_get (D := (dC, dI)) (ci := 3) (v := .int u.2.2.2.2) (C := RX4) (T := TX4) (N := 5) hx hb hts inX4 hown hK hP 0 rfl rfl 4 (by decide) (hts _ q_fl_X4_31) (fun _ h9 => h9) rfl dX4_append_71 ?_
      refine lv_iload hx hb dX4_append_74 (lv_at hl 1 rfl) ?_
      refine lv_iconst (v := 1) hx hb dX4_append_76 (by decide) ?_
      refine lv_iadd hx hb dX4_append_77 ?_
      obtain ⟨hg, hf⟩ := hf
      refine z_iast (Wn := fun f_8 => cl_X4 cI cJ a (f_7, f_8, u.2.2.1, u.2.2.2.1, u.2.2.2.2)) X hP hD hS 2 0 rfl rfl hg (fun _ => rfl) dX4_append_78 (fun f_8 H locs ef_8 hP hD hS => ?_)
      have hf := hf f_8 ef_8
      refine lv_aload_n hx hb dX4_append_79 rfl (lv_at hl 2 rfl) ?_
      refine va_get (D := (dC, dI)) (ci := 3) (v := .ref (a 3)) (C := RX4) (T := TX4) (N := 5) hx hb hts inX4 hown hK hP 0 rfl rfl 2 (by decide) (hts _ q_fl_X4_19) (fun _ h9 => h9) rfl dX4_append_80 ?_
      refine lv_aload_n hx hb dX4_append_83 rfl (lv_at hl 2 rfl) ?_
      refine va_get (D := (dC, dI)) (ci := 3) (v := .int u.2.2.2.2) (C := RX4) (T := TX4) (N := 5) hx hb hts inX4 hown hK hP 0 rfl rfl 4 (by decide) (hts _ q_fl_X4_31) (fun _ h9 => h9) rfl dX4_append_84 ?_
      refine lv_dup2_11 hx hb dX4_append_87 rfl rfl ?_
      obtain ⟨hg, hf⟩ := hf
      refine va_iald hx hb hK hP 3 0 rfl rfl hg dX4_append_88 ?_
      refine lv_iconst (v := 4) hx hb dX4_append_89 (by decide) ?_
      refine lv_iload_n hx hb dX4_append_90 rfl (lv_at hl 5 rfl) ?_
      refine lv_iadd hx hb dX4_append_91 ?_
      refine lv_iadd hx hb dX4_append_92 ?_
      obtain ⟨hg, hf⟩ := hf
      refine z_iast (Wn := fun f_9 => cl_X4 cI cJ a (f_7, f_8, f_9, u.2.2.2.1, u.2.2.2.2)) X hP hD hS 3 0 rfl rfl hg (fun _ => rfl) dX4_append_93 (fun f_9 H locs ef_9 hP hD hS => ?_)
      have hf := hf f_9 ef_9
      refine lv_lload hx hb dX4_append_94 (lv_at hl 0 rfl) ?_
      exact z_retMl (Wf := (fun z => cl_X4 cI cJ a z)) (u := (f_7, f_8, f_9, u.2.2.2.1, u.2.2.2.2)) X hf hP hD hS dX4_append_96
/-- a card behind the last one of the open segment -/
def zApp (u : zSegs) (o c : Nat) (len : Int32) (cd : Int64) : zSegs := (vp_updL u.1 (50 * o + c) cd, upd u.2.1 o (nI (c + 1)), upd u.2.2.1 o (u.2.2.1 o + (4 + len)), u.2.2.2.1, u.2.2.2.2)
def s_X4_append (u : zSegs) (x1 x2 x3 x4 : Int32) (Q : Int64 → zSegs → Prop) : Prop := ∃ o c : Nat, o < 12 ∧ c < 50 ∧ u.2.2.2.2 = nI o ∧ u.2.1 o = nI c ∧ Q (cMk x1 (nI o) (u.2.2.1 o) x2 x3 x4) (zApp u o c x3 (cMk x1 (nI o) (u.2.2.1 o) x2 x3 x4))
theorem st_X4_append {u : zSegs} {x1 x2 x3 x4 : Int32} {Q : Int64 → zSegs → Prop} (h : s_X4_append u x1 x2 x3 x4 Q) : t_X4_append u x1 x2 x3 x4 Q := by
  obtain ⟨o, c, ho, hc, eo, ec, h⟩ := h
  unfold zApp at h
  unfold t_X4_append
  rw [eo]
  refine ⟨o, ho, rfl, o, ho, rfl, ⟨o, ho, rfl⟩, fun k => absurd k (by decide), fun _ => ?_⟩
  rw [ec, nI_clamp (n := o) (by omega), n_lit50, n_mul, nI_add, nI_clamp (n := o * 50 + c) (by omega), Nat.mul_comm o 50, nI_1]
  refine ⟨fun k => absurd k (ge50 hc), fun _ => ⟨vp_in_nI (by omega) (by decide), fun f e => ⟨vp_in_nI ho (by decide), fun f2 e2 => ⟨vp_in_nI ho (by decide), vp_in_nI ho (by decide), fun f3 e3 => ?_⟩⟩⟩⟩
  rw [eo] at h
  rw [e, e2, e3]
  exact h
theorem c_X4_append (l : Launch) (dC : Nat → ClassId) (dI : Nat → Nat → Nat) (cI cJ cS : ClassId) (a : Nat → Nat) (u : zSegs) (x1 : Int32) (x2 : Int32) (x3 : Int32) (x4 : Int32) (Q : Int64 → zSegs → Prop) (hf : s_X4_append u x1 x2 x3 x4 Q) : ∀ sz : Nat, Met l yX4_append (Cond.code yX4_append cX4_append 8 (some .long) :: zT) rm_X4_append (zPm dC dI cI cJ cS (cl_X4 cI cJ a u) [.ref (a 0), .int x1, .int x2, .int x3, .int x4] sz) (va_Ql Q (zB dC dI cI cJ cS (va_A (cl_X4 cI cJ a u) sz) (fun z => cl_X4 cI cJ a z)) (va_A (cl_X4 cI cJ a u) sz)) 0 0 (va_A (cl_X4 cI cJ a u) sz) := L_X4_append l dC dI cI cJ cS a u x1 x2 x3 x4 Q (st_X4_append hf)

def t_X4_clear_e (u : zSegs) (K2 : Int32 → zSegs → Prop) (Q : zSegs → Prop) : Prop := K2 (0 : Int32) u
def t_X4_clear_2 (y1 : Int32) (z : zSegs) (K2 : Int32 → zSegs → Prop) (Q : zSegs → Prop) : Prop := (((12 : Int32) ≤ y1 → s_X4_openAt z (0 : Int32) (fun (u_4 : zSegs) => Q u_4)) ∧ (¬ (12 : Int32) ≤ y1 → s_X4_release z y1 (fun (u_6 : zSegs) => ∀ x_7 : Int32, x_7 = y1 + (1 : Int32) → K2 x_7 u_6)))
theorem zc_X4_clear : zCalV RX4 yX4_clear cX4_clear 2 none 0 := ⟨q_im_X4_clear, q_se_X4_clear, q_in_X4, q_cd_X4_clear, ⟨by decide, by decide, by decide +kernel⟩, rfl⟩
abbrev rm_X4_clear : Room := { frames := 2, cells := 0, slots := 0, locals := 41 }
def v_X4_clear (u : zSegs) (Q : zSegs → Prop) : Prop := ∃ I2 : Nat → Int32 → zSegs → Prop, (∀ (n : Nat) (y1 : Int32) (z : zSegs), I2 n y1 z → t_X4_clear_2 y1 z (fun q0 q1 => ∃ k : Nat, k < n ∧ I2 k q0 q1) Q) ∧ t_X4_clear_e u (fun q0 q1 => ∃ k : Nat, I2 k q0 q1) Q
set_option maxHeartbeats 4000000 in
set_option maxRecDepth 100000 in
theorem L_X4_clear (l : Launch) (dC : Nat → ClassId) (dI : Nat → Nat → Nat) (cI cJ cS : ClassId) (a : Nat → Nat) (u : zSegs) (Q : zSegs → Prop) (I2 : Nat → Int32 → zSegs → Prop) (h2 : ∀ (n : Nat) (y1 : Int32) (z : zSegs), I2 n y1 z → t_X4_clear_2 y1 z (fun q0 q1 => ∃ k : Nat, k < n ∧ I2 k q0 q1) Q) (hf : t_X4_clear_e u (fun q0 q1 => ∃ k : Nat, I2 k q0 q1) Q) : ∀ sz : Nat, Met l yX4_clear (Cond.code yX4_clear cX4_clear 2 none :: zT) rm_X4_clear (zPm dC dI cI cJ cS (cl_X4 cI cJ a u) [.ref (a 0)] sz) (va_Qv Q (zB dC dI cI cJ cS (va_A (cl_X4 cI cJ a u) sz) (fun z => cl_X4 cI cJ a z)) (va_A (cl_X4 cI cJ a u) sz)) 0 0 (va_A (cl_X4 cI cJ a u) sz) := by
  intro sz
  refine z_enterM (Qc := fun A => va_Qv Q (zB dC dI cI cJ cS A (fun z => cl_X4 cI cJ a z)) A) (cc := cX4_clear) (maxL := 2) (ret := none) (by decide) (Nat.le_of_ble_eq_true rfl) ?_
  intro p e s m below meth c ls A X hP hD hS hA hl
  obtain ⟨⟨hx, hb, hml, hown, hts⟩, hr, hlk, hK⟩ := id X
  have hl : lv_has ls 2 [(0, .ref (a 0))] := hl
  have LP : ∀ n : Nat, (∀ (y1 : Int32) (z : zSegs) (H : Heap) (locs : List Loc) (ls : Array Slot), I2 n y1 z → va_P (dC, dI) vwCl (cl_X4 cI cJ a z) H → va_D A (cl_X4 cI cJ a z) → va_S A s.heap H locs → lv_has ls 2 [(0, .ref (a 0)), (1, .int y1)] → W p l e rm_X4_clear s m [.ref (a 0)].toArray below meth c H locs 0 0 (MQ below (va_Qv Q (zB dC dI cI cJ cS A (fun z => cl_X4 cI cJ a z)) A) [.ref (a 0)].toArray s 0 0 A) (F0 m 2 ls [])) := by
    intro n
    induction n using Nat.strongRecOn with
    | _ n ih =>
      intro y1 z H locs ls hI hP hD hS hl
      have hf := h2 n y1 z hI
      unfold t_X4_clear_2 at hf
      refine lv_iload_n hx hb dX4_clear_2 rfl (lv_at hl 1 rfl) ?_
      refine lv_bipush (v := 12) hx hb dX4_clear_3 (by decide) ?_
      refine lv_icmp_ge (tgt := 19) hx hb dX4_clear_5 (by decide) (fun c_2 => ?_) (fun c_2 => ?_)
      · have hf := hf.1 c_2
        refine lv_aload_n hx hb dX4_clear_19 rfl (lv_at hl 0 rfl) ?_
        refine lv_iconst (v := 0) hx hb dX4_clear_20 (by decide) ?_
        refine z_mVv (Wn := (fun u_4 => cl_X4 cI cJ a u_4)) (As := [.int (0 : Int32)]) (rest := []) (wr := []) X (c_X4_openAt l dC dI cI cJ cS a z (0 : Int32) _ hf _) zc_X4_openAt q_ml_X4_39 ⟨rfl, rfl⟩ ⟨Nat.le_of_ble_eq_true rfl, Nat.le_of_ble_eq_true rfl⟩ hP hD hS hA [0, 1, 2, 3, 4] [] rfl (by decide) rfl (by decide) (by decide) [0, 1, 2, 3, 4] (by decide) (fun _ => rfl) 3 rfl rfl hl.1 rfl rfl (Nat.le_of_ble_eq_true rfl) ⟨Nat.zero_le _, Nat.zero_le _⟩ dX4_clear_21 (fun u_4 H locs hf hP hD hS => ?_)
        exact z_retMv (Wf := (fun z => cl_X4 cI cJ a z)) (u := u_4) X hf hP hD hS dX4_clear_24
      · have hf := hf.2 c_2
        refine lv_aload_n hx hb dX4_clear_8 rfl (lv_at hl 0 rfl) ?_
        refine lv_iload_n hx hb dX4_clear_9 rfl (lv_at hl 1 rfl) ?_
        refine z_mVv (Wn := (fun u_6 => cl_X4 cI cJ a u_6)) (As := [.int y1]) (rest := []) (wr := []) X (c_X4_release l dC dI cI cJ cS a z y1 _ hf _) zc_X4_release q_ml_X4_35 ⟨rfl, rfl⟩ ⟨Nat.le_of_ble_eq_true rfl, Nat.le_of_ble_eq_true rfl⟩ hP hD hS hA [0, 1, 2, 3, 4] [] rfl (by decide) rfl (by decide) (by decide) [0, 1, 2, 3, 4] (by decide) (fun _ => rfl) 3 rfl rfl hl.1 rfl rfl (Nat.le_of_ble_eq_true rfl) ⟨Nat.zero_le _, Nat.zero_le _⟩ dX4_clear_10 (fun u_6 H locs hf hP hD hS => ?_)
        obtain ⟨x_7, ex_7⟩ : ∃ y : Int32, y = y1 + (1 : Int32) := ⟨_, rfl⟩
        have hf := hf x_7 ex_7
        refine lv_iinc (v := x_7) (lv' := [(1, .int x_7), (0, .ref (a 0))]) hx hb dX4_clear_13 hl (k := 1) rfl (by rw [ex_7]; rfl) (by decide) rfl (fun ls hl => ?_)
        refine lv_goto (tgt := 2) hx hb dX4_clear_16 (by decide) ?_
        obtain ⟨k_8, hk_8, hf⟩ := hf
        exact (ih k_8 hk_8) _ u_6 _ _ ls hf hP hD hS (lv_sub hl [1, 0] rfl)
  unfold t_X4_clear_e at hf
  refine lv_iconst (v := 0) hx hb dX4_clear_0 (by decide) ?_
  refine lv_istore_n (lv' := [(1, .int (0 : Int32)), (0, .ref (a 0))]) hx hb dX4_clear_1 rfl hl (by decide) rfl (fun ls hl => ?_)
  obtain ⟨k_1, hf⟩ := hf
  exact (LP k_1) _ u _ _ ls hf hP hD hS (lv_sub hl [1, 0] rfl)
/-- the first i segments emptied -/
def zRels (u : zSegs) (i : Nat) : zSegs := (u.1, fa_fill (fun _ => 0) u.2.1 i, fa_fill (fun _ => 0) u.2.2.1 i, fa_fill (fun _ => 0) u.2.2.2.1 i, u.2.2.2.2)
def zClr (u : zSegs) : zSegs := (u.1, fa_fill (fun _ => 0) u.2.1 12, fa_fill (fun _ => 0) u.2.2.1 12, upd (fa_fill (fun _ => 0) u.2.2.2.1 12) 0 1, 0)
def s_X4_clear (u : zSegs) (Q : zSegs → Prop) : Prop := Q (zClr u)
theorem st_X4_clear {u : zSegs} {Q : zSegs → Prop} (h : s_X4_clear u Q) : v_X4_clear u Q := by
  refine zlp2 (T := fun y z K => t_X4_clear_2 y z K Q) (E := fun K => t_X4_clear_e u K Q) 12 (fun i => nI i) (fun i => zRels u i) (fun K hK => ?_) ?_ ?_
  · have hK : K (nI 0) (zRels u 0) := hK
    unfold zRels at hK
    rw [fa_fill_0, fa_fill_0, fa_fill_0] at hK
    exact hK
  · intro i hi K hK
    refine ⟨fun c => absurd c (ge12 (by omega)), fun _ => ⟨i, hi, rfl, fun x e => ?_⟩⟩
    rw [e, nI_1]
    unfold zRels at hK ⊢
    unfold zRel
    rw [← fa_fill_succ (fun _ => 0) u.2.1 i, ← fa_fill_succ (fun _ => 0) u.2.2.1 i, ← fa_fill_succ (fun _ => 0) u.2.2.2.1 i] at hK
    exact hK
  · intro K
    exact ⟨fun _ => ⟨0, by decide, rfl, h⟩, fun c => absurd (nI_le (Nat.le_refl 12) (by decide)) c⟩
theorem c_X4_clear (l : Launch) (dC : Nat → ClassId) (dI : Nat → Nat → Nat) (cI cJ cS : ClassId) (a : Nat → Nat) (u : zSegs) (Q : zSegs → Prop) (hf : s_X4_clear u Q) : ∀ sz : Nat, Met l yX4_clear (Cond.code yX4_clear cX4_clear 2 none :: zT) rm_X4_clear (zPm dC dI cI cJ cS (cl_X4 cI cJ a u) [.ref (a 0)] sz) (va_Qv Q (zB dC dI cI cJ cS (va_A (cl_X4 cI cJ a u) sz) (fun z => cl_X4 cI cJ a z)) (va_A (cl_X4 cI cJ a u) sz)) 0 0 (va_A (cl_X4 cI cJ a u) sz) := by
  obtain ⟨I2, h2, hf⟩ := st_X4_clear hf
  exact L_X4_clear l dC dI cI cJ cS a u Q I2 h2 hf
