def t_X9_copyFrom (u : zTree) (v : zTree) (Q : zTree × zTree → Prop) : Prop := (¬ (0 : Int32) < 0 ∧ ¬ (0 : Int32) < 0 ∧ ¬ (384 : Int32) < 0 ∧ (0 : Int32).toNatClampNeg + (384 : Int32).toNatClampNeg ≤ 384 ∧ (0 : Int32).toNatClampNeg + (384 : Int32).toNatClampNeg ≤ 384) ∧ ∃ f_1 : Nat → Int64, (∀ k : Nat, k < 384 → f_1 k = va_cpy v.1 u.1 (0 : Int32).toNatClampNeg (0 : Int32).toNatClampNeg (384 : Int32).toNatClampNeg k) ∧ (¬ (0 : Int32) < 0 ∧ ¬ (0 : Int32) < 0 ∧ ¬ (6 : Int32) < 0 ∧ (0 : Int32).toNatClampNeg + (6 : Int32).toNatClampNeg ≤ 6 ∧ (0 : Int32).toNatClampNeg + (6 : Int32).toNatClampNeg ≤ 6) ∧ ∃ f_2 : Nat → Int32, (∀ k : Nat, k < 6 → f_2 k = va_cpy v.2.1 u.2.1 (0 : Int32).toNatClampNeg (0 : Int32).toNatClampNeg (6 : Int32).toNatClampNeg k) ∧ ∀ x_3 : Int32, x_3 = v.2.2 → Q ((f_1, f_2, x_3), v)
theorem zc_X9_copyFrom : zCalV RX9 yX9_copyFrom cX9_copyFrom 2 none 1 := ⟨q_im_X9_copyFrom, q_se_X9_copyFrom, q_in_X9, q_cd_X9_copyFrom, ⟨by decide, by decide, by decide +kernel⟩, rfl⟩
abbrev rm_X9_copyFrom : Room := { frames := 1, cells := 0, slots := 0, locals := 48 }
set_option maxHeartbeats 4000000 in
set_option maxRecDepth 100000 in
theorem L_X9_copyFrom (l : Launch) (dC : Nat → ClassId) (dI : Nat → Nat → Nat) (cI cJ cS : ClassId) (a : Nat → Nat) (b : Nat → Nat) (u : zTree) (v : zTree) (Q : zTree × zTree → Prop) (hf : t_X9_copyFrom u v Q) : ∀ sz : Nat, Met l yX9_copyFrom (Cond.code yX9_copyFrom cX9_copyFrom 2 none :: zT) rm_X9_copyFrom (zPm dC dI cI cJ cS (cl_X9 cI cJ a u ++ cl_X9 cI cJ b v) [.ref (a 0), .ref (b 0)] sz) (va_Qv Q (zB dC dI cI cJ cS (va_A (cl_X9 cI cJ a u ++ cl_X9 cI cJ b v) sz) (fun z => cl_X9 cI cJ a z.1 ++ cl_X9 cI cJ b z.2)) (va_A (cl_X9 cI cJ a u ++ cl_X9 cI cJ b v) sz)) 0 0 (va_A (cl_X9 cI cJ a u ++ cl_X9 cI cJ b v) sz) := by
  intro sz
  refine z_enterM (Qc := fun A => va_Qv Q (zB dC dI cI cJ cS A (fun z => cl_X9 cI cJ a z.1 ++ cl_X9 cI cJ b z.2)) A) (cc := cX9_copyFrom) (maxL := 2) (ret := none) (by decide) (Nat.le_of_ble_eq_true rfl) ?_
  intro p e s m below meth c ls A X hP hD hS hA hl
  obtain ⟨⟨hx, hb, hml, hown, hts⟩, hr, hlk, hK⟩ := id X
  have hl : lv_has ls 2 [(0, .ref (a 0)), (1, .ref (b 0))] := hl
  unfold t_X9_copyFrom at hf
  refine lv_aload_n hx hb dX9_copyFrom_0 rfl (lv_at hl 1 rfl) ?_
  refine va_get (D := (dC, dI)) (ci := 8) (v := .ref (b 1)) (C := RX9) (T := TX9) (N := 3) hx hb hts inX9 hown hK hP 3 rfl rfl 0 (by decide) (hts _ q_fl_X9_9) (fun _ h9 => h9) rfl dX9_copyFrom_1 ?_
  refine lv_iconst (v := 0) hx hb dX9_copyFrom_4 (by decide) ?_
  refine lv_aload_n hx hb dX9_copyFrom_5 rfl (lv_at hl 0 rfl) ?_
  refine va_get (D := (dC, dI)) (ci := 8) (v := .ref (a 1)) (C := RX9) (T := TX9) (N := 3) hx hb hts inX9 hown hK hP 0 rfl rfl 0 (by decide) (hts _ q_fl_X9_9) (fun _ h9 => h9) rfl dX9_copyFrom_6 ?_
  refine lv_iconst (v := 0) hx hb dX9_copyFrom_9 (by decide) ?_
  refine lv_aload_n hx hb dX9_copyFrom_10 rfl (lv_at hl 0 rfl) ?_
  refine va_get (D := (dC, dI)) (ci := 8) (v := .ref (a 1)) (C := RX9) (T := TX9) (N := 3) hx hb hts inX9 hown hK hP 0 rfl rfl 0 (by decide) (hts _ q_fl_X9_9) (fun _ h9 => h9) rfl dX9_copyFrom_11 ?_
  refine va_alen (v := 384) hx hb hK hP 1 1 rfl (ty := .long) rfl rfl dX9_copyFrom_14 ?_
  obtain ⟨⟨g1, g2, g3, g4, g5⟩, f_1, ef_1, hf⟩ := hf
  refine z_copyl (Wn := fun f_1 => cl_X9 cI cJ a (f_1, u.2.1, u.2.2) ++ cl_X9 cI cJ b v) (idx := 19) X (hts _ q_ml_X9_19) (hts _ q_na_copy) (hts _ q_st_copy) (hts _ q_in_System) hl.1 hP hD hS 4 1 rfl rfl g1 g2 g3 g4 g5 (Nat.le_of_ble_eq_true rfl) (Nat.le_of_ble_eq_true rfl) (fun _ => rfl) f_1 ef_1 dX9_copyFrom_15 (fun H locs hP hD hS => ?_)
  refine lv_aload_n hx hb dX9_copyFrom_18 rfl (lv_at hl 1 rfl) ?_
  refine va_get (D := (dC, dI)) (ci := 8) (v := .ref (b 2)) (C := RX9) (T := TX9) (N := 3) hx hb hts inX9 hown hK hP 3 rfl rfl 1 (by decide) (hts _ q_fl_X9_15) (fun _ h9 => h9) rfl dX9_copyFrom_19 ?_
  refine lv_iconst (v := 0) hx hb dX9_copyFrom_22 (by decide) ?_
  refine lv_aload_n hx hb dX9_copyFrom_23 rfl (lv_at hl 0 rfl) ?_
  refine va_get (D := (dC, dI)) (ci := 8) (v := .ref (a 2)) (C := RX9) (T := TX9) (N := 3) hx hb hts inX9 hown hK hP 0 rfl rfl 1 (by decide) (hts _ q_fl_X9_15) (fun _ h9 => h9) rfl dX9_copyFrom_24 ?_
  refine lv_iconst (v := 0) hx hb dX9_copyFrom_27 (by decide) ?_
  refine lv_bipush (v := 6) hx hb dX9_copyFrom_28 (by decide) ?_
  obtain ⟨⟨g1, g2, g3, g4, g5⟩, f_2, ef_2, hf⟩ := hf
  refine z_copyi (Wn := fun f_2 => cl_X9 cI cJ a (f_1, f_2, u.2.2) ++ cl_X9 cI cJ b v) (idx := 19) X (hts _ q_ml_X9_19) (hts _ q_na_copy) (hts _ q_st_copy) (hts _ q_in_System) hl.1 hP hD hS 5 2 rfl rfl g1 g2 g3 g4 g5 (Nat.le_of_ble_eq_true rfl) (Nat.le_of_ble_eq_true rfl) (fun _ => rfl) f_2 ef_2 dX9_copyFrom_30 (fun H locs hP hD hS => ?_)
  refine lv_aload_n hx hb dX9_copyFrom_33 rfl (lv_at hl 0 rfl) ?_
  refine lv_aload_n hx hb dX9_copyFrom_34 rfl (lv_at hl 1 rfl) ?_
  refine va_get (D := (dC, dI)) (ci := 8) (v := .int v.2.2) (C := RX9) (T := TX9) (N := 3) hx hb hts inX9 hown hK hP 3 rfl rfl 2 (by decide) (hts _ q_fl_X9_25) (fun _ h9 => h9) rfl dX9_copyFrom_35 ?_
  refine lv_topi (fun x_3 ex_3 => ?_)
  have hf := hf x_3 ex_3
  refine z_put (w' := cl_X9 cI cJ a (f_1, f_2, x_3) ++ cl_X9 cI cJ b v) (ci := 8) (v := .int x_3) (ty := .int) (Cn := RX9) (T := TX9) (N := 3) X inX9 tyX9 tyX9_ok nmX9 hP hD hS 0 rfl rfl 2 (by decide) (hts _ q_fl_X9_25) (fun _ h9 => h9) rfl (tyX9_ok 2 (by decide)) rfl rfl (Nat.le_of_ble_eq_true rfl) rfl dX9_copyFrom_38 (fun H locs hP hD hS => ?_)
  exact z_retMv (Wf := (fun z => cl_X9 cI cJ a z.1 ++ cl_X9 cI cJ b z.2)) (u := ((f_1, f_2, x_3), v)) X hf hP hD hS dX9_copyFrom_41
def s_X9_copyFrom (u v : zTree) (Q : zTree × zTree → Prop) : Prop := Q (v, v)
theorem st_X9_copyFrom {u v : zTree} {Q : zTree × zTree → Prop} (h : s_X9_copyFrom u v Q) : t_X9_copyFrom u v Q := by
  refine ⟨by decide, v.1, cpy_all v.1 u.1, by decide, v.2.1, cpy_all v.2.1 u.2.1, fun x e => ?_⟩
  rw [e]; exact h
theorem c_X9_copyFrom (l : Launch) (dC : Nat → ClassId) (dI : Nat → Nat → Nat) (cI cJ cS : ClassId) (a : Nat → Nat) (b : Nat → Nat) (u : zTree) (v : zTree) (Q : zTree × zTree → Prop) (hf : s_X9_copyFrom u v Q) : ∀ sz : Nat, Met l yX9_copyFrom (Cond.code yX9_copyFrom cX9_copyFrom 2 none :: zT) rm_X9_copyFrom (zPm dC dI cI cJ cS (cl_X9 cI cJ a u ++ cl_X9 cI cJ b v) [.ref (a 0), .ref (b 0)] sz) (va_Qv Q (zB dC dI cI cJ cS (va_A (cl_X9 cI cJ a u ++ cl_X9 cI cJ b v) sz) (fun z => cl_X9 cI cJ a z.1 ++ cl_X9 cI cJ b z.2)) (va_A (cl_X9 cI cJ a u ++ cl_X9 cI cJ b v) sz)) 0 0 (va_A (cl_X9 cI cJ a u ++ cl_X9 cI cJ b v) sz) := L_X9_copyFrom l dC dI cI cJ cS a b u v Q (st_X9_copyFrom hf)

def t_X9_sizeOf (u : zTree) (x1 : Int32) (Q : Int32 → Prop) : Prop := ((x1 < 0 → Q (0 : Int32)) ∧ (¬ x1 < 0 → ((x1 < (6 : Int32) → vp_in x1 6 ∧ Q (u.2.1 x1.toNatClampNeg)) ∧ (¬ x1 < (6 : Int32) → Q (0 : Int32)))))
theorem zc_X9_sizeOf : zCalV RX9 yX9_sizeOf cX9_sizeOf 2 (some .int) 1 := ⟨q_im_X9_sizeOf, q_se_X9_sizeOf, q_in_X9, q_cd_X9_sizeOf, ⟨by decide, by decide, by decide +kernel⟩, rfl⟩
abbrev rm_X9_sizeOf : Room := { frames := 0, cells := 0, slots := 0, locals := 0 }
set_option maxHeartbeats 4000000 in
set_option maxRecDepth 100000 in
theorem L_X9_sizeOf (l : Launch) (dC : Nat → ClassId) (dI : Nat → Nat → Nat) (cI cJ cS : ClassId) (a : Nat → Nat) (u : zTree) (x1 : Int32) (Q : Int32 → Prop) (hf : t_X9_sizeOf u x1 Q) : Met l yX9_sizeOf (Cond.code yX9_sizeOf cX9_sizeOf 2 (some .int) :: zT) rm_X9_sizeOf (zPp dC dI cI cJ cS (cl_X9 cI cJ a u) [.ref (a 0), .int x1]) (vp_Si Q) 0 0 (fun _ => False) := by
  refine z_enterP (cc := cX9_sizeOf) (maxL := 2) (ret := (some .int)) (by decide) (Nat.le_of_ble_eq_true rfl) ?_
  intro p e s m below meth c ls X hP hl
  obtain ⟨⟨hx, hb, hml, hown, hts⟩, hr, hlk, hK⟩ := id X
  have hl : lv_has ls 2 [(0, .ref (a 0)), (1, .int x1)] := hl
  unfold t_X9_sizeOf at hf
  refine lv_iload_n hx hb dX9_sizeOf_0 rfl (lv_at hl 1 rfl) ?_
  refine lv_if_lt (tgt := 10) hx hb dX9_sizeOf_1 (by decide) (fun c_1 => ?_) (fun c_1 => ?_)
  · have hf := hf.1 c_1
    refine lv_iconst (v := 0) hx hb dX9_sizeOf_10 (by decide) ?_
    refine lv_goto (tgt := 20) hx hb dX9_sizeOf_11 (by decide) ?_
    exact z_retPi X hf dX9_sizeOf_20
  · have hf := hf.2 c_1
    refine lv_iload_n hx hb dX9_sizeOf_4 rfl (lv_at hl 1 rfl) ?_
    refine lv_bipush (v := 6) hx hb dX9_sizeOf_5 (by decide) ?_
    refine lv_icmp_lt (tgt := 14) hx hb dX9_sizeOf_7 (by decide) (fun c_2 => ?_) (fun c_2 => ?_)
    · have hf := hf.1 c_2
      refine lv_aload_n hx hb dX9_sizeOf_14 rfl (lv_at hl 0 rfl) ?_
      refine va_get (D := (dC, dI)) (ci := 8) (v := .ref (a 2)) (C := RX9) (T := TX9) (N := 3) hx hb hts inX9 hown hK hP 0 rfl rfl 1 (by decide) (hts _ q_fl_X9_15) (fun _ h9 => h9) rfl dX9_sizeOf_15 ?_
      refine lv_iload_n hx hb dX9_sizeOf_18 rfl (lv_at hl 1 rfl) ?_
      obtain ⟨hg, hf⟩ := hf
      refine va_iald hx hb hK hP 2 0 rfl rfl hg dX9_sizeOf_19 ?_
      exact z_retPi X hf dX9_sizeOf_20
    · have hf := hf.2 c_2
      refine lv_iconst (v := 0) hx hb dX9_sizeOf_10 (by decide) ?_
      refine lv_goto (tgt := 20) hx hb dX9_sizeOf_11 (by decide) ?_
      exact z_retPi X hf dX9_sizeOf_20
def s_X9_sizeOf (u : zTree) (x1 : Int32) (Q : Int32 → Prop) : Prop := ∃ l : Nat, l < 6 ∧ x1 = nI l ∧ Q (u.2.1 l)
theorem st_X9_sizeOf {u : zTree} {x1 : Int32} {Q : Int32 → Prop} (h : s_X9_sizeOf u x1 Q) : t_X9_sizeOf u x1 Q := by
  obtain ⟨l, hl, rfl, h⟩ := h
  refine ⟨fun c => absurd c (nI_pos (by omega)), fun _ => ⟨fun _ => ⟨vp_in_nI hl (by decide), ?_⟩, fun c => absurd (nI_lt hl (by decide)) c⟩⟩
  rw [nI_clamp (by omega)]; exact h
theorem c_X9_sizeOf (l : Launch) (dC : Nat → ClassId) (dI : Nat → Nat → Nat) (cI cJ cS : ClassId) (a : Nat → Nat) (u : zTree) (x1 : Int32) (Q : Int32 → Prop) (hf : s_X9_sizeOf u x1 Q) : Met l yX9_sizeOf (Cond.code yX9_sizeOf cX9_sizeOf 2 (some .int) :: zT) rm_X9_sizeOf (zPp dC dI cI cJ cS (cl_X9 cI cJ a u) [.ref (a 0), .int x1]) (vp_Si Q) 0 0 (fun _ => False) := L_X9_sizeOf l dC dI cI cJ cS a u x1 Q (st_X9_sizeOf hf)

def t_X9_at (u : zTree) (x1 : Int32) (x2 : Int32) (Q : Int64 → Prop) : Prop := ((x1 < 0 → Q (0 : Int64)) ∧ (¬ x1 < 0 → (((6 : Int32) ≤ x1 → Q (0 : Int64)) ∧ (¬ (6 : Int32) ≤ x1 → ((x2 < 0 → Q (0 : Int64)) ∧ (¬ x2 < 0 → ((x2 < (64 : Int32) → vp_in ((x1 * (64 : Int32)) + x2) 384 ∧ Q (u.1 ((x1 * (64 : Int32)) + x2).toNatClampNeg)) ∧ (¬ x2 < (64 : Int32) → Q (0 : Int64)))))))))
theorem zc_X9_at : zCalV RX9 yX9_at cX9_at 3 (some .long) 2 := ⟨q_im_X9_at, q_se_X9_at, q_in_X9, q_cd_X9_at, ⟨by decide, by decide, by decide +kernel⟩, rfl⟩
abbrev rm_X9_at : Room := { frames := 0, cells := 0, slots := 0, locals := 0 }
set_option maxHeartbeats 4000000 in
set_option maxRecDepth 100000 in
theorem L_X9_at (l : Launch) (dC : Nat → ClassId) (dI : Nat → Nat → Nat) (cI cJ cS : ClassId) (a : Nat → Nat) (u : zTree) (x1 : Int32) (x2 : Int32) (Q : Int64 → Prop) (hf : t_X9_at u x1 x2 Q) : Met l yX9_at (Cond.code yX9_at cX9_at 3 (some .long) :: zT) rm_X9_at (zPp dC dI cI cJ cS (cl_X9 cI cJ a u) [.ref (a 0), .int x1, .int x2]) (vp_Sl Q) 0 0 (fun _ => False) := by
  refine z_enterP (cc := cX9_at) (maxL := 3) (ret := (some .long)) (by decide) (Nat.le_of_ble_eq_true rfl) ?_
  intro p e s m below meth c ls X hP hl
  obtain ⟨⟨hx, hb, hml, hown, hts⟩, hr, hlk, hK⟩ := id X
  have hl : lv_has ls 3 [(0, .ref (a 0)), (1, .int x1), (2, .int x2)] := hl
  unfold t_X9_at at hf
  refine lv_iload_n hx hb dX9_at_0 rfl (lv_at hl 1 rfl) ?_
  refine lv_if_lt (tgt := 20) hx hb dX9_at_1 (by decide) (fun c_1 => ?_) (fun c_1 => ?_)
  · have hf := hf.1 c_1
    refine lv_lconst (v := 0) hx hb dX9_at_20 (by decide) ?_
    exact z_retPl X hf dX9_at_21
  · have hf := hf.2 c_1
    refine lv_iload_n hx hb dX9_at_4 rfl (lv_at hl 1 rfl) ?_
    refine lv_bipush (v := 6) hx hb dX9_at_5 (by decide) ?_
    refine lv_icmp_ge (tgt := 20) hx hb dX9_at_7 (by decide) (fun c_2 => ?_) (fun c_2 => ?_)
    · have hf := hf.1 c_2
      refine lv_lconst (v := 0) hx hb dX9_at_20 (by decide) ?_
      exact z_retPl X hf dX9_at_21
    · have hf := hf.2 c_2
      refine lv_iload_n hx hb dX9_at_10 rfl (lv_at hl 2 rfl) ?_
      refine lv_if_lt (tgt := 20) hx hb dX9_at_11 (by decide) (fun c_3 => ?_) (fun c_3 => ?_)
      · have hf := hf.1 c_3
        refine lv_lconst (v := 0) hx hb dX9_at_20 (by decide) ?_
        exact z_retPl X hf dX9_at_21
      · have hf := hf.2 c_3
        refine lv_iload_n hx hb dX9_at_14 rfl (lv_at hl 2 rfl) ?_
        refine lv_bipush (v := 64) hx hb dX9_at_15 (by decide) ?_
        refine lv_icmp_lt (tgt := 22) hx hb dX9_at_17 (by decide) (fun c_4 => ?_) (fun c_4 => ?_)
        · have hf := hf.1 c_4
          refine lv_aload_n hx hb dX9_at_22 rfl (lv_at hl 0 rfl) ?_
          refine va_get (D := (dC, dI)) (ci := 8) (v := .ref (a 1)) (C := RX9) (T := TX9) (N := 3) hx hb hts inX9 hown hK hP 0 rfl rfl 0 (by decide) (hts _ q_fl_X9_9) (fun _ h9 => h9) rfl dX9_at_23 ?_
          refine lv_iload_n hx hb dX9_at_26 rfl (lv_at hl 1 rfl) ?_
          refine lv_bipush (v := 64) hx hb dX9_at_27 (by decide) ?_
          refine lv_imul hx hb dX9_at_29 ?_
          refine lv_iload_n hx hb dX9_at_30 rfl (lv_at hl 2 rfl) ?_
          refine lv_iadd hx hb dX9_at_31 ?_
          obtain ⟨hg, hf⟩ := hf
          refine va_lald hx hb hK hP 1 1 rfl rfl hg dX9_at_32 ?_
          exact z_retPl X hf dX9_at_33
        · have hf := hf.2 c_4
          refine lv_lconst (v := 0) hx hb dX9_at_20 (by decide) ?_
          exact z_retPl X hf dX9_at_21
def s_X9_at (u : zTree) (x1 : Int32) (x2 : Int32) (Q : Int64 → Prop) : Prop := ∃ l k : Nat, l < 6 ∧ k < 64 ∧ x1 = nI l ∧ x2 = nI k ∧ Q (u.1 (64 * l + k))
theorem st_X9_at {u : zTree} {x1 x2 : Int32} {Q : Int64 → Prop} (h : s_X9_at u x1 x2 Q) : t_X9_at u x1 x2 Q := by
  obtain ⟨l, k, hl, hk, rfl, rfl, h⟩ := h
  refine ⟨fun c => absurd c (nI_pos (by omega)), fun _ => ⟨fun c => absurd c (nI_ge hl (by decide)), fun _ => ⟨fun c => absurd c (nI_pos (by omega)), fun _ => ⟨fun _ => ?_, fun c => absurd (nI_lt hk (by decide)) c⟩⟩⟩⟩
  rw [n_lit64, n_mul, nI_add, nI_clamp (by omega), Nat.mul_comm l 64]
  exact ⟨vp_in_nI (by omega) (by decide), h⟩
theorem c_X9_at (l : Launch) (dC : Nat → ClassId) (dI : Nat → Nat → Nat) (cI cJ cS : ClassId) (a : Nat → Nat) (u : zTree) (x1 : Int32) (x2 : Int32) (Q : Int64 → Prop) (hf : s_X9_at u x1 x2 Q) : Met l yX9_at (Cond.code yX9_at cX9_at 3 (some .long) :: zT) rm_X9_at (zPp dC dI cI cJ cS (cl_X9 cI cJ a u) [.ref (a 0), .int x1, .int x2]) (vp_Sl Q) 0 0 (fun _ => False) := L_X9_at l dC dI cI cJ cS a u x1 x2 Q (st_X9_at hf)

def t_X9_levelOf_e (u : zTree) (x1 : Int32) (K2 : Int32 → Prop) (Q : Int32 → Prop) : Prop := K2 (0 : Int32)
def t_X9_levelOf_2 (u : zTree) (x1 : Int32) (y2 : Int32) (K2 : Int32 → Prop) (Q : Int32 → Prop) : Prop := ((u.2.2 < y2 → Q (-1 : Int32)) ∧ (¬ u.2.2 < y2 → s_X9_at u y2 x1 (fun r_3 : Int64 => (((lg_cmp r_3 (0 : Int64)) = 0 → ∀ x_5 : Int32, x_5 = y2 + (1 : Int32) → K2 x_5) ∧ (¬ (lg_cmp r_3 (0 : Int64)) = 0 → Q y2)))))
theorem zc_X9_levelOf : zCalV RX9 yX9_levelOf cX9_levelOf 3 (some .int) 1 := ⟨q_im_X9_levelOf, q_se_X9_levelOf, q_in_X9, q_cd_X9_levelOf, ⟨by decide, by decide, by decide +kernel⟩, rfl⟩
abbrev rm_X9_levelOf : Room := { frames := 1, cells := 0, slots := 0, locals := 22 }
def v_X9_levelOf (u : zTree) (x1 : Int32) (Q : Int32 → Prop) : Prop := ∃ I2 : Nat → Int32 → Prop, (∀ (n : Nat) (y2 : Int32), I2 n y2 → t_X9_levelOf_2 u x1 y2 (fun q0 => ∃ k : Nat, k < n ∧ I2 k q0) Q) ∧ t_X9_levelOf_e u x1 (fun q0 => ∃ k : Nat, I2 k q0) Q
set_option maxHeartbeats 4000000 in
set_option maxRecDepth 100000 in
theorem L_X9_levelOf (l : Launch) (dC : Nat → ClassId) (dI : Nat → Nat → Nat) (cI cJ cS : ClassId) (a : Nat → Nat) (u : zTree) (x1 : Int32) (Q : Int32 → Prop) (I2 : Nat → Int32 → Prop) (h2 : ∀ (n : Nat) (y2 : Int32), I2 n y2 → t_X9_levelOf_2 u x1 y2 (fun q0 => ∃ k : Nat, k < n ∧ I2 k q0) Q) (hf : t_X9_levelOf_e u x1 (fun q0 => ∃ k : Nat, I2 k q0) Q) : Met l yX9_levelOf (Cond.code yX9_levelOf cX9_levelOf 3 (some .int) :: zT) rm_X9_levelOf (zPp dC dI cI cJ cS (cl_X9 cI cJ a u) [.ref (a 0), .int x1]) (vp_Si Q) 0 0 (fun _ => False) := by
  refine z_enterP (cc := cX9_levelOf) (maxL := 3) (ret := (some .int)) (by decide) (Nat.le_of_ble_eq_true rfl) ?_
  intro p e s m below meth c ls X hP hl
  obtain ⟨⟨hx, hb, hml, hown, hts⟩, hr, hlk, hK⟩ := id X
  have hl : lv_has ls 3 [(0, .ref (a 0)), (1, .int x1)] := hl
  have LP : ∀ n : Nat, (∀ (y2 : Int32) (ls : Array Slot), I2 n y2 → lv_has ls 3 [(0, .ref (a 0)), (1, .int x1), (2, .int y2)] → W p l e rm_X9_levelOf s m [.ref (a 0), .int x1].toArray below meth c s.heap [] 0 0 (MQ below (vp_Si Q) [.ref (a 0), .int x1].toArray s 0 0 (fun _ => False)) (F0 m 2 ls [])) := by
    intro n
    induction n using Nat.strongRecOn with
    | _ n ih =>
      intro y2 ls hI hl
      have hf := h2 n y2 hI
      unfold t_X9_levelOf_2 at hf
      refine lv_iload_n hx hb dX9_levelOf_2 rfl (lv_at hl 2 rfl) ?_
      refine lv_aload_n hx hb dX9_levelOf_3 rfl (lv_at hl 0 rfl) ?_
      refine va_get (D := (dC, dI)) (ci := 8) (v := .int u.2.2) (C := RX9) (T := TX9) (N := 3) hx hb hts inX9 hown hK hP 0 rfl rfl 2 (by decide) (hts _ q_fl_X9_25) (fun _ h9 => h9) rfl dX9_levelOf_4 ?_
      refine lv_icmp_gt (tgt := 29) hx hb dX9_levelOf_7 (by decide) (fun c_2 => ?_) (fun c_2 => ?_)
      · have hf := hf.1 c_2
        refine lv_iconst (v := (-1)) hx hb dX9_levelOf_29 (by decide) ?_
        exact z_retPi X hf dX9_levelOf_30
      · have hf := hf.2 c_2
        refine lv_aload_n hx hb dX9_levelOf_10 rfl (lv_at hl 0 rfl) ?_
        refine lv_iload_n hx hb dX9_levelOf_11 rfl (lv_at hl 2 rfl) ?_
        refine lv_iload_n hx hb dX9_levelOf_12 rfl (lv_at hl 1 rfl) ?_
        refine z_cVl (As := [.int y2, .int x1]) (rest := []) X (c_X9_at l dC dI cI cJ cS a u y2 x1 _ hf) zc_X9_at q_ml_X9_35 ⟨rfl, rfl⟩ ⟨Nat.le_of_ble_eq_true rfl, Nat.le_of_ble_eq_true rfl⟩ hP [0, 1, 2] rfl 8 rfl rfl hl.1 rfl rfl (Nat.le_of_ble_eq_true rfl) ⟨Nat.zero_le _, Nat.zero_le _⟩ dX9_levelOf_13 (fun r_3 hf => ?_)
        refine lv_lconst (v := 0) hx hb dX9_levelOf_16 (by decide) ?_
        refine W.lcmp hx hb dX9_levelOf_17 ?_
        refine lv_if_eq (tgt := 23) hx hb dX9_levelOf_18 (by decide) (fun c_4 => ?_) (fun c_4 => ?_)
        · have hf := hf.1 c_4
          obtain ⟨x_5, ex_5⟩ : ∃ y : Int32, y = y2 + (1 : Int32) := ⟨_, rfl⟩
          have hf := hf x_5 ex_5
          refine lv_iinc (v := x_5) (lv' := [(2, .int x_5), (0, .ref (a 0)), (1, .int x1)]) hx hb dX9_levelOf_23 hl (k := 2) rfl (by rw [ex_5]; rfl) (by decide) rfl (fun ls hl => ?_)
          refine lv_goto (tgt := 2) hx hb dX9_levelOf_26 (by decide) ?_
          obtain ⟨k_6, hk_6, hf⟩ := hf
          exact (ih k_6 hk_6) _ ls hf (lv_sub hl [1, 2, 0] rfl)
        · have hf := hf.2 c_4
          refine lv_iload_n hx hb dX9_levelOf_21 rfl (lv_at hl 2 rfl) ?_
          exact z_retPi X hf dX9_levelOf_22
  unfold t_X9_levelOf_e at hf
  refine lv_iconst (v := 0) hx hb dX9_levelOf_0 (by decide) ?_
  refine lv_istore_n (lv' := [(2, .int (0 : Int32)), (0, .ref (a 0)), (1, .int x1)]) hx hb dX9_levelOf_1 rfl hl (by decide) rfl (fun ls hl => ?_)
  obtain ⟨k_1, hf⟩ := hf
  exact (LP k_1) _ ls hf (lv_sub hl [1, 2, 0] rfl)
/-- has a level an entry of a key -/
abbrev zHas (f : Nat → Int64) (l k : Nat) : Bool := decide (¬ f (64 * l + k) = 0)
def s_X9_levelOf (u : zTree) (x1 : Int32) (Q : Int32 → Prop) : Prop := ∃ k r : Nat, k < 64 ∧ r < 6 ∧ x1 = nI k ∧ u.2.2 = nI r ∧ Q (zFst (fun l => zHas u.1 l k) (r + 1))
theorem st_X9_levelOf {u : zTree} {x1 : Int32} {Q : Int32 → Prop} (h : s_X9_levelOf u x1 Q) : v_X9_levelOf u x1 Q := by
  obtain ⟨k, r, hk, hr, rfl, er, h⟩ := h
  have hle := fa_first_le (fun l => zHas u.1 l k) (r + 1)
  refine zlp1 (T := fun y K => t_X9_levelOf_2 u (nI k) y K Q) (E := fun K => t_X9_levelOf_e u (nI k) K Q) (fa_first (fun l => zHas u.1 l k) (r + 1)) (fun i => nI i) (fun K hK => hK) ?_ ?_
  · intro i hi K hK
    have hp := fa_first_no (fun l => zHas u.1 l k) (r + 1) i hi
    simp only [decide_eq_false_iff_not, Decidable.not_not] at hp
    unfold t_X9_levelOf_2
    rw [er]
    refine ⟨fun c => absurd c (nI_nlt (by omega) (by omega)), fun _ => ⟨i, k, by omega, hk, rfl, rfl, ?_⟩⟩
    refine ⟨fun c x e => ?_, fun c => absurd ((lc_eq _ _).mpr hp) c⟩
    rw [e, nI_1]; exact hK
  · intro K
    by_cases hf : fa_first (fun l => zHas u.1 l k) (r + 1) < r + 1
    · have hp := fa_first_yes (fun l => zHas u.1 l k) (r + 1) hf
      simp only [decide_eq_true_eq] at hp
      rw [zFst_yes hf] at h
      unfold t_X9_levelOf_2
      rw [er]
      refine ⟨fun c => absurd c (nI_nlt (by omega) (by omega)), fun _ => ⟨_, k, by omega, hk, rfl, rfl, ?_⟩⟩
      exact ⟨fun c => absurd ((lc_eq _ _).mp c) hp, fun _ => h⟩
    · rw [zFst_no hf] at h
      have he : fa_first (fun l => zHas u.1 l k) (r + 1) = r + 1 := by omega
      show t_X9_levelOf_2 u (nI k) (nI (fa_first (fun l => zHas u.1 l k) (r + 1))) K Q
      rw [he]
      unfold t_X9_levelOf_2
      rw [er]
      exact ⟨fun _ => h, fun c => absurd (nI_lt (Nat.lt_succ_self r) (by omega)) c⟩
theorem c_X9_levelOf (l : Launch) (dC : Nat → ClassId) (dI : Nat → Nat → Nat) (cI cJ cS : ClassId) (a : Nat → Nat) (u : zTree) (x1 : Int32) (Q : Int32 → Prop) (hf : s_X9_levelOf u x1 Q) : Met l yX9_levelOf (Cond.code yX9_levelOf cX9_levelOf 3 (some .int) :: zT) rm_X9_levelOf (zPp dC dI cI cJ cS (cl_X9 cI cJ a u) [.ref (a 0), .int x1]) (vp_Si Q) 0 0 (fun _ => False) := by
  obtain ⟨I2, h2, hf⟩ := st_X9_levelOf hf
  exact L_X9_levelOf l dC dI cI cJ cS a u x1 Q I2 h2 hf

def t_X9_currentOf_e (u : zTree) (x1 : Int32) (K32 : Int32 → Int32 → Prop) (Q : Int64 → Prop) : Prop := ((x1 < 0 → Q (0 : Int64)) ∧ (¬ x1 < 0 → ((x1 < (64 : Int32) → ∀ x_3 : Int32, x_3 = (if (384 : Int32) < ((u.2.2 + (1 : Int32)) * (64 : Int32)) then (384 : Int32) else ((u.2.2 + (1 : Int32)) * (64 : Int32))) → K32 x_3 x1) ∧ (¬ x1 < (64 : Int32) → Q (0 : Int64)))))
def t_X9_currentOf_32 (u : zTree) (x1 : Int32) (y2 : Int32) (y3 : Int32) (K32 : Int32 → Int32 → Prop) (Q : Int64 → Prop) : Prop := ((y2 ≤ y3 → Q (0 : Int64)) ∧ (¬ y2 ≤ y3 → vp_in y3 384 ∧ (((lg_cmp (u.1 y3.toNatClampNeg) (0 : Int64)) = 0 → ∀ x_7 : Int32, x_7 = y3 + (64 : Int32) → K32 y2 x_7) ∧ (¬ (lg_cmp (u.1 y3.toNatClampNeg) (0 : Int64)) = 0 → vp_in y3 384 ∧ Q (u.1 y3.toNatClampNeg)))))
theorem zc_X9_currentOf : zCalV RX9 yX9_currentOf cX9_currentOf 4 (some .long) 1 := ⟨q_im_X9_currentOf, q_se_X9_currentOf, q_in_X9, q_cd_X9_currentOf, ⟨by decide, by decide, by decide +kernel⟩, rfl⟩
abbrev rm_X9_currentOf : Room := { frames := 1, cells := 0, slots := 0, locals := 21 }
def v_X9_currentOf (u : zTree) (x1 : Int32) (Q : Int64 → Prop) : Prop := ∃ I32 : Nat → Int32 → Int32 → Prop, (∀ (n : Nat) (y2 : Int32) (y3 : Int32), I32 n y2 y3 → t_X9_currentOf_32 u x1 y2 y3 (fun q0 q1 => ∃ k : Nat, k < n ∧ I32 k q0 q1) Q) ∧ t_X9_currentOf_e u x1 (fun q0 q1 => ∃ k : Nat, I32 k q0 q1) Q
set_option maxHeartbeats 4000000 in
set_option maxRecDepth 100000 in
theorem L_X9_currentOf (l : Launch) (dC : Nat → ClassId) (dI : Nat → Nat → Nat) (cI cJ cS : ClassId) (a : Nat → Nat) (u : zTree) (x1 : Int32) (Q : Int64 → Prop) (I32 : Nat → Int32 → Int32 → Prop) (h32 : ∀ (n : Nat) (y2 : Int32) (y3 : Int32), I32 n y2 y3 → t_X9_currentOf_32 u x1 y2 y3 (fun q0 q1 => ∃ k : Nat, k < n ∧ I32 k q0 q1) Q) (hf : t_X9_currentOf_e u x1 (fun q0 q1 => ∃ k : Nat, I32 k q0 q1) Q) : Met l yX9_currentOf (Cond.code yX9_currentOf cX9_currentOf 4 (some .long) :: zT) rm_X9_currentOf (zPp dC dI cI cJ cS (cl_X9 cI cJ a u) [.ref (a 0), .int x1]) (vp_Sl Q) 0 0 (fun _ => False) := by
  refine z_enterP (cc := cX9_currentOf) (maxL := 4) (ret := (some .long)) (by decide) (Nat.le_of_ble_eq_true rfl) ?_
  intro p e s m below meth c ls X hP hl
  obtain ⟨⟨hx, hb, hml, hown, hts⟩, hr, hlk, hK⟩ := id X
  have hl : lv_has ls 4 [(0, .ref (a 0)), (1, .int x1)] := hl
  have LP : ∀ n : Nat, (∀ (y2 : Int32) (y3 : Int32) (ls : Array Slot), I32 n y2 y3 → lv_has ls 4 [(0, .ref (a 0)), (1, .int x1), (2, .int y2), (3, .int y3)] → W p l e rm_X9_currentOf s m [.ref (a 0), .int x1].toArray below meth c s.heap [] 0 0 (MQ below (vp_Sl Q) [.ref (a 0), .int x1].toArray s 0 0 (fun _ => False)) (F0 m 32 ls [])) := by
    intro n
    induction n using Nat.strongRecOn with
    | _ n ih =>
      intro y2 y3 ls hI hl
      have hf := h32 n y2 y3 hI
      unfold t_X9_currentOf_32 at hf
      refine lv_iload_n hx hb dX9_currentOf_32 rfl (lv_at hl 3 rfl) ?_
      refine lv_iload_n hx hb dX9_currentOf_33 rfl (lv_at hl 2 rfl) ?_
      refine lv_icmp_ge (tgt := 61) hx hb dX9_currentOf_34 (by decide) (fun c_5 => ?_) (fun c_5 => ?_)
      · have hf := hf.1 c_5
        refine lv_lconst (v := 0) hx hb dX9_currentOf_61 (by decide) ?_
        exact z_retPl X hf dX9_currentOf_62
      · have hf := hf.2 c_5
        refine lv_aload_n hx hb dX9_currentOf_37 rfl (lv_at hl 0 rfl) ?_
        refine va_get (D := (dC, dI)) (ci := 8) (v := .ref (a 1)) (C := RX9) (T := TX9) (N := 3) hx hb hts inX9 hown hK hP 0 rfl rfl 0 (by decide) (hts _ q_fl_X9_9) (fun _ h9 => h9) rfl dX9_currentOf_38 ?_
        refine lv_iload_n hx hb dX9_currentOf_41 rfl (lv_at hl 3 rfl) ?_
        obtain ⟨hg, hf⟩ := hf
        refine va_lald hx hb hK hP 1 1 rfl rfl hg dX9_currentOf_42 ?_
        refine lv_lconst (v := 0) hx hb dX9_currentOf_43 (by decide) ?_
        refine W.lcmp hx hb dX9_currentOf_44 ?_
        refine lv_if_eq (tgt := 55) hx hb dX9_currentOf_45 (by decide) (fun c_6 => ?_) (fun c_6 => ?_)
        · have hf := hf.1 c_6
          obtain ⟨x_7, ex_7⟩ : ∃ y : Int32, y = y3 + (64 : Int32) := ⟨_, rfl⟩
          have hf := hf x_7 ex_7
          refine lv_iinc (v := x_7) (lv' := [(3, .int x_7), (0, .ref (a 0)), (1, .int x1), (2, .int y2)]) hx hb dX9_currentOf_55 hl (k := 3) rfl (by rw [ex_7]; rfl) (by decide) rfl (fun ls hl => ?_)
          refine lv_goto (tgt := 32) hx hb dX9_currentOf_58 (by decide) ?_
          obtain ⟨k_8, hk_8, hf⟩ := hf
          exact (ih k_8 hk_8) _ _ ls hf (lv_sub hl [1, 2, 3, 0] rfl)
        · have hf := hf.2 c_6
          refine lv_aload_n hx hb dX9_currentOf_48 rfl (lv_at hl 0 rfl) ?_
          refine va_get (D := (dC, dI)) (ci := 8) (v := .ref (a 1)) (C := RX9) (T := TX9) (N := 3) hx hb hts inX9 hown hK hP 0 rfl rfl 0 (by decide) (hts _ q_fl_X9_9) (fun _ h9 => h9) rfl dX9_currentOf_49 ?_
          refine lv_iload_n hx hb dX9_currentOf_52 rfl (lv_at hl 3 rfl) ?_
          obtain ⟨hg, hf⟩ := hf
          refine va_lald hx hb hK hP 1 1 rfl rfl hg dX9_currentOf_53 ?_
          exact z_retPl X hf dX9_currentOf_54
  unfold t_X9_currentOf_e at hf
  refine lv_iload_n hx hb dX9_currentOf_0 rfl (lv_at hl 1 rfl) ?_
  refine lv_if_lt (tgt := 10) hx hb dX9_currentOf_1 (by decide) (fun c_1 => ?_) (fun c_1 => ?_)
  · have hf := hf.1 c_1
    refine lv_lconst (v := 0) hx hb dX9_currentOf_10 (by decide) ?_
    exact z_retPl X hf dX9_currentOf_11
  · have hf := hf.2 c_1
    refine lv_iload_n hx hb dX9_currentOf_4 rfl (lv_at hl 1 rfl) ?_
    refine lv_bipush (v := 64) hx hb dX9_currentOf_5 (by decide) ?_
    refine lv_icmp_lt (tgt := 12) hx hb dX9_currentOf_7 (by decide) (fun c_2 => ?_) (fun c_2 => ?_)
    · have hf := hf.1 c_2
      refine lv_aload_n hx hb dX9_currentOf_12 rfl (lv_at hl 0 rfl) ?_
      refine va_get (D := (dC, dI)) (ci := 8) (v := .int u.2.2) (C := RX9) (T := TX9) (N := 3) hx hb hts inX9 hown hK hP 0 rfl rfl 2 (by decide) (hts _ q_fl_X9_25) (fun _ h9 => h9) rfl dX9_currentOf_13 ?_
      refine lv_iconst (v := 1) hx hb dX9_currentOf_16 (by decide) ?_
      refine lv_iadd hx hb dX9_currentOf_17 ?_
      refine lv_bipush (v := 64) hx hb dX9_currentOf_18 (by decide) ?_
      refine lv_imul hx hb dX9_currentOf_20 ?_
      refine lv_aload_n hx hb dX9_currentOf_21 rfl (lv_at hl 0 rfl) ?_
      refine va_get (D := (dC, dI)) (ci := 8) (v := .ref (a 1)) (C := RX9) (T := TX9) (N := 3) hx hb hts inX9 hown hK hP 0 rfl rfl 0 (by decide) (hts _ q_fl_X9_9) (fun _ h9 => h9) rfl dX9_currentOf_22 ?_
      refine va_alen (v := 384) hx hb hK hP 1 1 rfl (ty := .long) rfl rfl dX9_currentOf_25 ?_
      refine va_mmin hx hb (hml.trans hl.1.symm) hown (hts _ q_ml_X9_39) (hts _ q_st_Mmin) (hts _ q_in_Math) (hts _ q_cd_Mmin) (Nat.le_of_ble_eq_true rfl) (Nat.le_of_ble_eq_true rfl) (Nat.zero_le _) (Nat.zero_le _) dX9_currentOf_26 ?_
      refine lv_topi (fun x_3 ex_3 => ?_)
      have hf := hf x_3 ex_3
      refine lv_istore_n (lv' := [(2, .int x_3), (0, .ref (a 0)), (1, .int x1)]) hx hb dX9_currentOf_29 rfl hl (by decide) rfl (fun ls hl => ?_)
      refine lv_iload_n hx hb dX9_currentOf_30 rfl (lv_at hl 2 rfl) ?_
      refine lv_istore_n (lv' := [(3, .int x1), (2, .int x_3), (0, .ref (a 0)), (1, .int x1)]) hx hb dX9_currentOf_31 rfl hl (by decide) rfl (fun ls hl => ?_)
      obtain ⟨k_4, hf⟩ := hf
      exact (LP k_4) _ _ ls hf (lv_sub hl [2, 3, 1, 0] rfl)
    · have hf := hf.2 c_2
      refine lv_lconst (v := 0) hx hb dX9_currentOf_10 (by decide) ?_
      exact z_retPl X hf dX9_currentOf_11
/-- the current card of a key, looked for in the first n levels; 0 without -/
def zCur (f : Nat → Int64) (k n : Nat) : Int64 := if fa_first (fun l => zHas f l k) n < n then f (64 * fa_first (fun l => zHas f l k) n + k) else 0
def s_X9_currentOf (u : zTree) (x1 : Int32) (Q : Int64 → Prop) : Prop := ∃ k r : Nat, k < 64 ∧ r < 6 ∧ x1 = nI k ∧ u.2.2 = nI r ∧ Q (zCur u.1 k (r + 1))
theorem st_X9_currentOf {u : zTree} {x1 : Int32} {Q : Int64 → Prop} (h : s_X9_currentOf u x1 Q) : v_X9_currentOf u x1 Q := by
  obtain ⟨k, r, hk, hr, rfl, er, h⟩ := h
  have hle := fa_first_le (fun l => zHas u.1 l k) (r + 1)
  refine zlp2 (T := fun y y' K => t_X9_currentOf_32 u (nI k) y y' K Q) (E := fun K => t_X9_currentOf_e u (nI k) K Q) (fa_first (fun l => zHas u.1 l k) (r + 1)) (fun _ => nI (64 * (r + 1))) (fun i => nI (64 * i + k)) (fun K hK => ?_) ?_ ?_
  · refine ⟨fun c => absurd c (nI_pos (by omega)), fun _ => ⟨fun _ x e => ?_, fun c => absurd (nI_lt hk (by decide)) c⟩⟩
    rw [er, nI_1, n_lit64, n_mul, Nat.mul_comm (r + 1) 64, if_neg (show ¬ (384 : Int32) < nI (64 * (r + 1)) from nI_nlt (b := 64 * (r + 1)) (a := 384) (by omega) (by decide))] at e
    rw [e]
    have hK : K (nI (64 * (r + 1))) (nI (64 * 0 + k)) := hK
    rw [show 64 * 0 + k = k by omega] at hK
    exact hK
  · intro i hi K hK
    have hp := fa_first_no (fun l => zHas u.1 l k) (r + 1) i hi
    simp only [decide_eq_false_iff_not, Decidable.not_not] at hp
    refine ⟨fun c => absurd c (nI_ge (by omega) (by omega)), fun _ => ⟨vp_in_nI (by omega) (by decide), ?_⟩⟩
    rw [nI_clamp (by omega)]
    refine ⟨fun c x e => ?_, fun c => absurd ((lc_eq _ _).mpr hp) c⟩
    rw [e, n_lit64, nI_add, show 64 * i + k + 64 = 64 * (i + 1) + k by omega]; exact hK
  · intro K
    unfold zCur at h
    by_cases hf : fa_first (fun l => zHas u.1 l k) (r + 1) < r + 1
    · have hp := fa_first_yes (fun l => zHas u.1 l k) (r + 1) hf
      simp only [decide_eq_true_eq] at hp
      rw [if_pos hf] at h
      refine ⟨fun c => absurd c (nI_ge (by omega) (by omega)), fun _ => ⟨vp_in_nI (by omega) (by decide), ?_⟩⟩
      rw [nI_clamp (by omega)]
      exact ⟨fun c => absurd ((lc_eq _ _).mp c) hp, fun _ => ⟨vp_in_nI (by omega) (by decide), h⟩⟩
    · rw [if_neg hf] at h
      exact ⟨fun _ => h, fun c => absurd (nI_le (by omega) (by omega)) c⟩
theorem c_X9_currentOf (l : Launch) (dC : Nat → ClassId) (dI : Nat → Nat → Nat) (cI cJ cS : ClassId) (a : Nat → Nat) (u : zTree) (x1 : Int32) (Q : Int64 → Prop) (hf : s_X9_currentOf u x1 Q) : Met l yX9_currentOf (Cond.code yX9_currentOf cX9_currentOf 4 (some .long) :: zT) rm_X9_currentOf (zPp dC dI cI cJ cS (cl_X9 cI cJ a u) [.ref (a 0), .int x1]) (vp_Sl Q) 0 0 (fun _ => False) := by
  obtain ⟨I32, h32, hf⟩ := st_X9_currentOf hf
  exact L_X9_currentOf l dC dI cI cJ cS a u x1 Q I32 h32 hf

def t_X9_entriesOf_e (u : zTree) (x1 : Int32) (K4 : Int32 → Int32 → Prop) (Q : Int32 → Prop) : Prop := K4 (0 : Int32) (0 : Int32)
def t_X9_entriesOf_4 (u : zTree) (x1 : Int32) (y2 : Int32) (y3 : Int32) (K4 : Int32 → Int32 → Prop) (Q : Int32 → Prop) : Prop := ((u.2.2 < y3 → Q y2) ∧ (¬ u.2.2 < y3 → s_X9_at u y3 x1 (fun r_3 : Int64 => ((¬ (lg_cmp r_3 (0 : Int64)) = 0 → ∀ x_5 : Int32, x_5 = (y2 + (1 : Int32)) → ∀ x_6 : Int32, x_6 = y3 + (1 : Int32) → K4 x_5 x_6) ∧ ((lg_cmp r_3 (0 : Int64)) = 0 → ∀ x_8 : Int32, x_8 = (y2 + (0 : Int32)) → ∀ x_9 : Int32, x_9 = y3 + (1 : Int32) → K4 x_8 x_9)))))
theorem zc_X9_entriesOf : zCalV RX9 yX9_entriesOf cX9_entriesOf 4 (some .int) 1 := ⟨q_im_X9_entriesOf, q_se_X9_entriesOf, q_in_X9, q_cd_X9_entriesOf, ⟨by decide, by decide, by decide +kernel⟩, rfl⟩
abbrev rm_X9_entriesOf : Room := { frames := 1, cells := 0, slots := 0, locals := 22 }
def v_X9_entriesOf (u : zTree) (x1 : Int32) (Q : Int32 → Prop) : Prop := ∃ I4 : Nat → Int32 → Int32 → Prop, (∀ (n : Nat) (y2 : Int32) (y3 : Int32), I4 n y2 y3 → t_X9_entriesOf_4 u x1 y2 y3 (fun q0 q1 => ∃ k : Nat, k < n ∧ I4 k q0 q1) Q) ∧ t_X9_entriesOf_e u x1 (fun q0 q1 => ∃ k : Nat, I4 k q0 q1) Q
set_option maxHeartbeats 4000000 in
set_option maxRecDepth 100000 in
theorem L_X9_entriesOf (l : Launch) (dC : Nat → ClassId) (dI : Nat → Nat → Nat) (cI cJ cS : ClassId) (a : Nat → Nat) (u : zTree) (x1 : Int32) (Q : Int32 → Prop) (I4 : Nat → Int32 → Int32 → Prop) (h4 : ∀ (n : Nat) (y2 : Int32) (y3 : Int32), I4 n y2 y3 → t_X9_entriesOf_4 u x1 y2 y3 (fun q0 q1 => ∃ k : Nat, k < n ∧ I4 k q0 q1) Q) (hf : t_X9_entriesOf_e u x1 (fun q0 q1 => ∃ k : Nat, I4 k q0 q1) Q) : Met l yX9_entriesOf (Cond.code yX9_entriesOf cX9_entriesOf 4 (some .int) :: zT) rm_X9_entriesOf (zPp dC dI cI cJ cS (cl_X9 cI cJ a u) [.ref (a 0), .int x1]) (vp_Si Q) 0 0 (fun _ => False) := by
  refine z_enterP (cc := cX9_entriesOf) (maxL := 4) (ret := (some .int)) (by decide) (Nat.le_of_ble_eq_true rfl) ?_
  intro p e s m below meth c ls X hP hl
  obtain ⟨⟨hx, hb, hml, hown, hts⟩, hr, hlk, hK⟩ := id X
  have hl : lv_has ls 4 [(0, .ref (a 0)), (1, .int x1)] := hl
  have LP : ∀ n : Nat, (∀ (y2 : Int32) (y3 : Int32) (ls : Array Slot), I4 n y2 y3 → lv_has ls 4 [(0, .ref (a 0)), (1, .int x1), (2, .int y2), (3, .int y3)] → W p l e rm_X9_entriesOf s m [.ref (a 0), .int x1].toArray below meth c s.heap [] 0 0 (MQ below (vp_Si Q) [.ref (a 0), .int x1].toArray s 0 0 (fun _ => False)) (F0 m 4 ls [])) := by
    intro n
    induction n using Nat.strongRecOn with
    | _ n ih =>
      intro y2 y3 ls hI hl
      have hf := h4 n y2 y3 hI
      unfold t_X9_entriesOf_4 at hf
      refine lv_iload_n hx hb dX9_entriesOf_4 rfl (lv_at hl 3 rfl) ?_
      refine lv_aload_n hx hb dX9_entriesOf_5 rfl (lv_at hl 0 rfl) ?_
      refine va_get (D := (dC, dI)) (ci := 8) (v := .int u.2.2) (C := RX9) (T := TX9) (N := 3) hx hb hts inX9 hown hK hP 0 rfl rfl 2 (by decide) (hts _ q_fl_X9_25) (fun _ h9 => h9) rfl dX9_entriesOf_6 ?_
      refine lv_icmp_gt (tgt := 37) hx hb dX9_entriesOf_9 (by decide) (fun c_2 => ?_) (fun c_2 => ?_)
      · have hf := hf.1 c_2
        refine lv_iload_n hx hb dX9_entriesOf_37 rfl (lv_at hl 2 rfl) ?_
        exact z_retPi X hf dX9_entriesOf_38
      · have hf := hf.2 c_2
        refine lv_iload_n hx hb dX9_entriesOf_12 rfl (lv_at hl 2 rfl) ?_
        refine lv_aload_n hx hb dX9_entriesOf_13 rfl (lv_at hl 0 rfl) ?_
        refine lv_iload_n hx hb dX9_entriesOf_14 rfl (lv_at hl 3 rfl) ?_
        refine lv_iload_n hx hb dX9_entriesOf_15 rfl (lv_at hl 1 rfl) ?_
        refine z_cVl (As := [.int y3, .int x1]) (rest := [.int y2]) X (c_X9_at l dC dI cI cJ cS a u y3 x1 _ hf) zc_X9_at q_ml_X9_35 ⟨rfl, rfl⟩ ⟨Nat.le_of_ble_eq_true rfl, Nat.le_of_ble_eq_true rfl⟩ hP [0, 1, 2] rfl 8 rfl rfl hl.1 rfl rfl (Nat.le_of_ble_eq_true rfl) ⟨Nat.zero_le _, Nat.zero_le _⟩ dX9_entriesOf_16 (fun r_3 hf => ?_)
        refine lv_lconst (v := 0) hx hb dX9_entriesOf_19 (by decide) ?_
        refine W.lcmp hx hb dX9_entriesOf_20 ?_
        refine lv_if_ne (tgt := 28) hx hb dX9_entriesOf_21 (by decide) (fun c_4 => ?_) (fun c_4 => ?_)
        · have hf := hf.1 c_4
          refine lv_iconst (v := 1) hx hb dX9_entriesOf_28 (by decide) ?_
          refine lv_iadd hx hb dX9_entriesOf_29 ?_
          refine lv_topi (fun x_5 ex_5 => ?_)
          have hf := hf x_5 ex_5
          refine lv_istore_n (lv' := [(2, .int x_5), (0, .ref (a 0)), (1, .int x1), (3, .int y3)]) hx hb dX9_entriesOf_30 rfl hl (by decide) rfl (fun ls hl => ?_)
          obtain ⟨x_6, ex_6⟩ : ∃ y : Int32, y = y3 + (1 : Int32) := ⟨_, rfl⟩
          have hf := hf x_6 ex_6
          refine lv_iinc (v := x_6) (lv' := [(3, .int x_6), (2, .int x_5), (0, .ref (a 0)), (1, .int x1)]) hx hb dX9_entriesOf_31 hl (k := 3) rfl (by rw [ex_6]; rfl) (by decide) rfl (fun ls hl => ?_)
          refine lv_goto (tgt := 4) hx hb dX9_entriesOf_34 (by decide) ?_
          obtain ⟨k_7, hk_7, hf⟩ := hf
          exact (ih k_7 hk_7) _ _ ls hf (lv_sub hl [2, 3, 1, 0] rfl)
        · have hf := hf.2 c_4
          refine lv_iconst (v := 0) hx hb dX9_entriesOf_24 (by decide) ?_
          refine lv_goto (tgt := 29) hx hb dX9_entriesOf_25 (by decide) ?_
          refine lv_iadd hx hb dX9_entriesOf_29 ?_
          refine lv_topi (fun x_8 ex_8 => ?_)
          have hf := hf x_8 ex_8
          refine lv_istore_n (lv' := [(2, .int x_8), (0, .ref (a 0)), (1, .int x1), (3, .int y3)]) hx hb dX9_entriesOf_30 rfl hl (by decide) rfl (fun ls hl => ?_)
          obtain ⟨x_9, ex_9⟩ : ∃ y : Int32, y = y3 + (1 : Int32) := ⟨_, rfl⟩
          have hf := hf x_9 ex_9
          refine lv_iinc (v := x_9) (lv' := [(3, .int x_9), (2, .int x_8), (0, .ref (a 0)), (1, .int x1)]) hx hb dX9_entriesOf_31 hl (k := 3) rfl (by rw [ex_9]; rfl) (by decide) rfl (fun ls hl => ?_)
          refine lv_goto (tgt := 4) hx hb dX9_entriesOf_34 (by decide) ?_
          obtain ⟨k_10, hk_10, hf⟩ := hf
          exact (ih k_10 hk_10) _ _ ls hf (lv_sub hl [2, 3, 1, 0] rfl)
  unfold t_X9_entriesOf_e at hf
  refine lv_iconst (v := 0) hx hb dX9_entriesOf_0 (by decide) ?_
  refine lv_istore_n (lv' := [(2, .int (0 : Int32)), (0, .ref (a 0)), (1, .int x1)]) hx hb dX9_entriesOf_1 rfl hl (by decide) rfl (fun ls hl => ?_)
  refine lv_iconst (v := 0) hx hb dX9_entriesOf_2 (by decide) ?_
  refine lv_istore_n (lv' := [(3, .int (0 : Int32)), (2, .int (0 : Int32)), (0, .ref (a 0)), (1, .int x1)]) hx hb dX9_entriesOf_3 rfl hl (by decide) rfl (fun ls hl => ?_)
  obtain ⟨k_1, hf⟩ := hf
  exact (LP k_1) _ _ ls hf (lv_sub hl [2, 3, 1, 0] rfl)
def s_X9_entriesOf (u : zTree) (x1 : Int32) (Q : Int32 → Prop) : Prop := ∃ k r : Nat, k < 64 ∧ r < 6 ∧ x1 = nI k ∧ u.2.2 = nI r ∧ Q (nI (fa_cnt (fun l => zHas u.1 l k) (r + 1)))
theorem st_X9_entriesOf {u : zTree} {x1 : Int32} {Q : Int32 → Prop} (h : s_X9_entriesOf u x1 Q) : v_X9_entriesOf u x1 Q := by
  obtain ⟨k, r, hk, hr, rfl, er, h⟩ := h
  refine zlp2 (T := fun y y' K => t_X9_entriesOf_4 u (nI k) y y' K Q) (E := fun K => t_X9_entriesOf_e u (nI k) K Q) (r + 1) (fun i => nI (fa_cnt (fun l => zHas u.1 l k) i)) (fun i => nI i) (fun K hK => hK) ?_ ?_
  · intro i hi K hK
    unfold t_X9_entriesOf_4
    rw [er]
    refine ⟨fun c => absurd c (nI_nlt (by omega) (by omega)), fun _ => ⟨i, k, by omega, hk, rfl, rfl, ?_⟩⟩
    refine ⟨fun c x e x' e' => ?_, fun c x e x' e' => ?_⟩
    · have hp : (fun l => zHas u.1 l k) i = true := decide_eq_true (fun q => c ((lc_eq _ _).mpr q))
      rw [fa_cnt_yes (p := fun l => zHas u.1 l k) hp] at hK
      rw [e, e', nI_1, nI_1]; exact hK
    · have hp : (fun l => zHas u.1 l k) i = false := decide_eq_false (fun q => q ((lc_eq _ _).mp c))
      rw [fa_cnt_no (p := fun l => zHas u.1 l k) hp] at hK
      rw [e, e', nI_1, Int32.add_zero]; exact hK
  · intro K
    unfold t_X9_entriesOf_4
    rw [er]
    exact ⟨fun _ => h, fun c => absurd (nI_lt (Nat.lt_succ_self r) (by omega)) c⟩
theorem c_X9_entriesOf (l : Launch) (dC : Nat → ClassId) (dI : Nat → Nat → Nat) (cI cJ cS : ClassId) (a : Nat → Nat) (u : zTree) (x1 : Int32) (Q : Int32 → Prop) (hf : s_X9_entriesOf u x1 Q) : Met l yX9_entriesOf (Cond.code yX9_entriesOf cX9_entriesOf 4 (some .int) :: zT) rm_X9_entriesOf (zPp dC dI cI cJ cS (cl_X9 cI cJ a u) [.ref (a 0), .int x1]) (vp_Si Q) 0 0 (fun _ => False) := by
  obtain ⟨I4, h4, hf⟩ := st_X9_entriesOf hf
  exact L_X9_entriesOf l dC dI cI cJ cS a u x1 Q I4 h4 hf

def t_X9_runEntries_e (u : zTree) (K4 : Int32 → Int32 → Prop) (Q : Int32 → Prop) : Prop := K4 (0 : Int32) (1 : Int32)
def t_X9_runEntries_4 (u : zTree) (y1 : Int32) (y2 : Int32) (K4 : Int32 → Int32 → Prop) (Q : Int32 → Prop) : Prop := ((u.2.2 < y2 → Q y1) ∧ (¬ u.2.2 < y2 → (((6 : Int32) ≤ y2 → Q y1) ∧ (¬ (6 : Int32) ≤ y2 → vp_in y2 6 ∧ ∀ x_4 : Int32, x_4 = (y1 + (u.2.1 y2.toNatClampNeg)) → ∀ x_5 : Int32, x_5 = y2 + (1 : Int32) → K4 x_4 x_5))))
theorem zc_X9_runEntries : zCalV RX9 yX9_runEntries cX9_runEntries 3 (some .int) 0 := ⟨q_im_X9_runEntries, q_se_X9_runEntries, q_in_X9, q_cd_X9_runEntries, ⟨by decide, by decide, by decide +kernel⟩, rfl⟩
abbrev rm_X9_runEntries : Room := { frames := 0, cells := 0, slots := 0, locals := 0 }
def v_X9_runEntries (u : zTree) (Q : Int32 → Prop) : Prop := ∃ I4 : Nat → Int32 → Int32 → Prop, (∀ (n : Nat) (y1 : Int32) (y2 : Int32), I4 n y1 y2 → t_X9_runEntries_4 u y1 y2 (fun q0 q1 => ∃ k : Nat, k < n ∧ I4 k q0 q1) Q) ∧ t_X9_runEntries_e u (fun q0 q1 => ∃ k : Nat, I4 k q0 q1) Q
set_option maxHeartbeats 4000000 in
set_option maxRecDepth 100000 in
theorem L_X9_runEntries (l : Launch) (dC : Nat → ClassId) (dI : Nat → Nat → Nat) (cI cJ cS : ClassId) (a : Nat → Nat) (u : zTree) (Q : Int32 → Prop) (I4 : Nat → Int32 → Int32 → Prop) (h4 : ∀ (n : Nat) (y1 : Int32) (y2 : Int32), I4 n y1 y2 → t_X9_runEntries_4 u y1 y2 (fun q0 q1 => ∃ k : Nat, k < n ∧ I4 k q0 q1) Q) (hf : t_X9_runEntries_e u (fun q0 q1 => ∃ k : Nat, I4 k q0 q1) Q) : Met l yX9_runEntries (Cond.code yX9_runEntries cX9_runEntries 3 (some .int) :: zT) rm_X9_runEntries (zPp dC dI cI cJ cS (cl_X9 cI cJ a u) [.ref (a 0)]) (vp_Si Q) 0 0 (fun _ => False) := by
  refine z_enterP (cc := cX9_runEntries) (maxL := 3) (ret := (some .int)) (by decide) (Nat.le_of_ble_eq_true rfl) ?_
  intro p e s m below meth c ls X hP hl
  obtain ⟨⟨hx, hb, hml, hown, hts⟩, hr, hlk, hK⟩ := id X
  have hl : lv_has ls 3 [(0, .ref (a 0))] := hl
  have LP : ∀ n : Nat, (∀ (y1 : Int32) (y2 : Int32) (ls : Array Slot), I4 n y1 y2 → lv_has ls 3 [(0, .ref (a 0)), (1, .int y1), (2, .int y2)] → W p l e rm_X9_runEntries s m [.ref (a 0)].toArray below meth c s.heap [] 0 0 (MQ below (vp_Si Q) [.ref (a 0)].toArray s 0 0 (fun _ => False)) (F0 m 4 ls [])) := by
    intro n
    induction n using Nat.strongRecOn with
    | _ n ih =>
      intro y1 y2 ls hI hl
      have hf := h4 n y1 y2 hI
      unfold t_X9_runEntries_4 at hf
      refine lv_iload_n hx hb dX9_runEntries_4 rfl (lv_at hl 2 rfl) ?_
      refine lv_aload_n hx hb dX9_runEntries_5 rfl (lv_at hl 0 rfl) ?_
      refine va_get (D := (dC, dI)) (ci := 8) (v := .int u.2.2) (C := RX9) (T := TX9) (N := 3) hx hb hts inX9 hown hK hP 0 rfl rfl 2 (by decide) (hts _ q_fl_X9_25) (fun _ h9 => h9) rfl dX9_runEntries_6 ?_
      refine lv_icmp_gt (tgt := 33) hx hb dX9_runEntries_9 (by decide) (fun c_2 => ?_) (fun c_2 => ?_)
      · have hf := hf.1 c_2
        refine lv_iload_n hx hb dX9_runEntries_33 rfl (lv_at hl 1 rfl) ?_
        exact z_retPi X hf dX9_runEntries_34
      · have hf := hf.2 c_2
        refine lv_iload_n hx hb dX9_runEntries_12 rfl (lv_at hl 2 rfl) ?_
        refine lv_bipush (v := 6) hx hb dX9_runEntries_13 (by decide) ?_
        refine lv_icmp_ge (tgt := 33) hx hb dX9_runEntries_15 (by decide) (fun c_3 => ?_) (fun c_3 => ?_)
        · have hf := hf.1 c_3
          refine lv_iload_n hx hb dX9_runEntries_33 rfl (lv_at hl 1 rfl) ?_
          exact z_retPi X hf dX9_runEntries_34
        · have hf := hf.2 c_3
          refine lv_iload_n hx hb dX9_runEntries_18 rfl (lv_at hl 1 rfl) ?_
          refine lv_aload_n hx hb dX9_runEntries_19 rfl (lv_at hl 0 rfl) ?_
          refine va_get (D := (dC, dI)) (ci := 8) (v := .ref (a 2)) (C := RX9) (T := TX9) (N := 3) hx hb hts inX9 hown hK hP 0 rfl rfl 1 (by decide) (hts _ q_fl_X9_15) (fun _ h9 => h9) rfl dX9_runEntries_20 ?_
          refine lv_iload_n hx hb dX9_runEntries_23 rfl (lv_at hl 2 rfl) ?_
          obtain ⟨hg, hf⟩ := hf
          refine va_iald hx hb hK hP 2 0 rfl rfl hg dX9_runEntries_24 ?_
          refine lv_iadd hx hb dX9_runEntries_25 ?_
          refine lv_topi (fun x_4 ex_4 => ?_)
          have hf := hf x_4 ex_4
          refine lv_istore_n (lv' := [(1, .int x_4), (0, .ref (a 0)), (2, .int y2)]) hx hb dX9_runEntries_26 rfl hl (by decide) rfl (fun ls hl => ?_)
          obtain ⟨x_5, ex_5⟩ : ∃ y : Int32, y = y2 + (1 : Int32) := ⟨_, rfl⟩
          have hf := hf x_5 ex_5
          refine lv_iinc (v := x_5) (lv' := [(2, .int x_5), (1, .int x_4), (0, .ref (a 0))]) hx hb dX9_runEntries_27 hl (k := 2) rfl (by rw [ex_5]; rfl) (by decide) rfl (fun ls hl => ?_)
          refine lv_goto (tgt := 4) hx hb dX9_runEntries_30 (by decide) ?_
          obtain ⟨k_6, hk_6, hf⟩ := hf
          exact (ih k_6 hk_6) _ _ ls hf (lv_sub hl [2, 1, 0] rfl)
  unfold t_X9_runEntries_e at hf
  refine lv_iconst (v := 0) hx hb dX9_runEntries_0 (by decide) ?_
  refine lv_istore_n (lv' := [(1, .int (0 : Int32)), (0, .ref (a 0))]) hx hb dX9_runEntries_1 rfl hl (by decide) rfl (fun ls hl => ?_)
  refine lv_iconst (v := 1) hx hb dX9_runEntries_2 (by decide) ?_
  refine lv_istore_n (lv' := [(2, .int (1 : Int32)), (1, .int (0 : Int32)), (0, .ref (a 0))]) hx hb dX9_runEntries_3 rfl hl (by decide) rfl (fun ls hl => ?_)
  obtain ⟨k_1, hf⟩ := hf
  exact (LP k_1) _ _ ls hf (lv_sub hl [2, 1, 0] rfl)
def s_X9_runEntries (u : zTree) (Q : Int32 → Prop) : Prop := ∃ r : Nat, r < 6 ∧ u.2.2 = nI r ∧ Q (l_sum (fun i => u.2.1 (i + 1)) r)
theorem st_X9_runEntries {u : zTree} {Q : Int32 → Prop} (h : s_X9_runEntries u Q) : v_X9_runEntries u Q := by
  obtain ⟨r, hr, er, h⟩ := h
  refine zlp2 (T := fun y y' K => t_X9_runEntries_4 u y y' K Q) (E := fun K => t_X9_runEntries_e u K Q) r (fun i => l_sum (fun i => u.2.1 (i + 1)) i) (fun i => nI (i + 1)) (fun K hK => hK) ?_ ?_
  · intro i hi K hK
    unfold t_X9_runEntries_4
    rw [er]
    refine ⟨fun c => absurd c (nI_nlt (by omega) (by omega)), fun _ => ⟨fun c => absurd c (ge6 (by omega)), fun _ => ⟨vp_in_nI (by omega) (by decide), fun x e x' e' => ?_⟩⟩⟩
    rw [e, e', nI_clamp (by omega), nI_1]; exact hK
  · intro K
    unfold t_X9_runEntries_4
    rw [er]
    exact ⟨fun _ => h, fun c => absurd (nI_lt (Nat.lt_succ_self r) (by omega)) c⟩
theorem c_X9_runEntries (l : Launch) (dC : Nat → ClassId) (dI : Nat → Nat → Nat) (cI cJ cS : ClassId) (a : Nat → Nat) (u : zTree) (Q : Int32 → Prop) (hf : s_X9_runEntries u Q) : Met l yX9_runEntries (Cond.code yX9_runEntries cX9_runEntries 3 (some .int) :: zT) rm_X9_runEntries (zPp dC dI cI cJ cS (cl_X9 cI cJ a u) [.ref (a 0)]) (vp_Si Q) 0 0 (fun _ => False) := by
  obtain ⟨I4, h4, hf⟩ := st_X9_runEntries hf
  exact L_X9_runEntries l dC dI cI cJ cS a u Q I4 h4 hf

def t_X9_keyAt_e (u : zTree) (x1 : Int32) (x2 : Int32) (K5 : Int32 → Int32 → Prop) (Q : Int32 → Prop) : Prop := K5 (0 : Int32) (0 : Int32)
def t_X9_keyAt_5 (u : zTree) (x1 : Int32) (x2 : Int32) (y3 : Int32) (y4 : Int32) (K5 : Int32 → Int32 → Prop) (Q : Int32 → Prop) : Prop := (((64 : Int32) ≤ y4 → Q (-1 : Int32)) ∧ (¬ (64 : Int32) ≤ y4 → s_X9_at u x1 y4 (fun r_3 : Int64 => (((lg_cmp r_3 (0 : Int64)) = 0 → ∀ x_5 : Int32, x_5 = y4 + (1 : Int32) → K5 y3 x_5) ∧ (¬ (lg_cmp r_3 (0 : Int64)) = 0 → ((¬ y3 = x2 → ∀ x_8 : Int32, x_8 = y3 + (1 : Int32) → ∀ x_9 : Int32, x_9 = y4 + (1 : Int32) → K5 x_8 x_9) ∧ (y3 = x2 → Q y4)))))))
theorem zc_X9_keyAt : zCalV RX9 yX9_keyAt cX9_keyAt 5 (some .int) 2 := ⟨q_im_X9_keyAt, q_se_X9_keyAt, q_in_X9, q_cd_X9_keyAt, ⟨by decide, by decide, by decide +kernel⟩, rfl⟩
abbrev rm_X9_keyAt : Room := { frames := 1, cells := 0, slots := 0, locals := 22 }
def v_X9_keyAt (u : zTree) (x1 : Int32) (x2 : Int32) (Q : Int32 → Prop) : Prop := ∃ I5 : Nat → Int32 → Int32 → Prop, (∀ (n : Nat) (y3 : Int32) (y4 : Int32), I5 n y3 y4 → t_X9_keyAt_5 u x1 x2 y3 y4 (fun q0 q1 => ∃ k : Nat, k < n ∧ I5 k q0 q1) Q) ∧ t_X9_keyAt_e u x1 x2 (fun q0 q1 => ∃ k : Nat, I5 k q0 q1) Q
set_option maxHeartbeats 4000000 in
set_option maxRecDepth 100000 in
theorem L_X9_keyAt (l : Launch) (dC : Nat → ClassId) (dI : Nat → Nat → Nat) (cI cJ cS : ClassId) (a : Nat → Nat) (u : zTree) (x1 : Int32) (x2 : Int32) (Q : Int32 → Prop) (I5 : Nat → Int32 → Int32 → Prop) (h5 : ∀ (n : Nat) (y3 : Int32) (y4 : Int32), I5 n y3 y4 → t_X9_keyAt_5 u x1 x2 y3 y4 (fun q0 q1 => ∃ k : Nat, k < n ∧ I5 k q0 q1) Q) (hf : t_X9_keyAt_e u x1 x2 (fun q0 q1 => ∃ k : Nat, I5 k q0 q1) Q) : Met l yX9_keyAt (Cond.code yX9_keyAt cX9_keyAt 5 (some .int) :: zT) rm_X9_keyAt (zPp dC dI cI cJ cS (cl_X9 cI cJ a u) [.ref (a 0), .int x1, .int x2]) (vp_Si Q) 0 0 (fun _ => False) := by
  refine z_enterP (cc := cX9_keyAt) (maxL := 5) (ret := (some .int)) (by decide) (Nat.le_of_ble_eq_true rfl) ?_
  intro p e s m below meth c ls X hP hl
  obtain ⟨⟨hx, hb, hml, hown, hts⟩, hr, hlk, hK⟩ := id X
  have hl : lv_has ls 5 [(0, .ref (a 0)), (1, .int x1), (2, .int x2)] := hl
  have LP : ∀ n : Nat, (∀ (y3 : Int32) (y4 : Int32) (ls : Array Slot), I5 n y3 y4 → lv_has ls 5 [(0, .ref (a 0)), (1, .int x1), (2, .int x2), (3, .int y3), (4, .int y4)] → W p l e rm_X9_keyAt s m [.ref (a 0), .int x1, .int x2].toArray below meth c s.heap [] 0 0 (MQ below (vp_Si Q) [.ref (a 0), .int x1, .int x2].toArray s 0 0 (fun _ => False)) (F0 m 5 ls [])) := by
    intro n
    induction n using Nat.strongRecOn with
    | _ n ih =>
      intro y3 y4 ls hI hl
      have hf := h5 n y3 y4 hI
      unfold t_X9_keyAt_5 at hf
      refine lv_iload hx hb dX9_keyAt_5 (lv_at hl 4 rfl) ?_
      refine lv_bipush (v := 64) hx hb dX9_keyAt_7 (by decide) ?_
      refine lv_icmp_ge (tgt := 41) hx hb dX9_keyAt_9 (by decide) (fun c_2 => ?_) (fun c_2 => ?_)
      · have hf := hf.1 c_2
        refine lv_iconst (v := (-1)) hx hb dX9_keyAt_41 (by decide) ?_
        exact z_retPi X hf dX9_keyAt_42
      · have hf := hf.2 c_2
        refine lv_aload_n hx hb dX9_keyAt_12 rfl (lv_at hl 0 rfl) ?_
        refine lv_iload_n hx hb dX9_keyAt_13 rfl (lv_at hl 1 rfl) ?_
        refine lv_iload hx hb dX9_keyAt_14 (lv_at hl 4 rfl) ?_
        refine z_cVl (As := [.int x1, .int y4]) (rest := []) X (c_X9_at l dC dI cI cJ cS a u x1 y4 _ hf) zc_X9_at q_ml_X9_35 ⟨rfl, rfl⟩ ⟨Nat.le_of_ble_eq_true rfl, Nat.le_of_ble_eq_true rfl⟩ hP [0, 1, 2] rfl 8 rfl rfl hl.1 rfl rfl (Nat.le_of_ble_eq_true rfl) ⟨Nat.zero_le _, Nat.zero_le _⟩ dX9_keyAt_16 (fun r_3 hf => ?_)
        refine lv_lconst (v := 0) hx hb dX9_keyAt_19 (by decide) ?_
        refine W.lcmp hx hb dX9_keyAt_20 ?_
        refine lv_if_eq (tgt := 35) hx hb dX9_keyAt_21 (by decide) (fun c_4 => ?_) (fun c_4 => ?_)
        · have hf := hf.1 c_4
          obtain ⟨x_5, ex_5⟩ : ∃ y : Int32, y = y4 + (1 : Int32) := ⟨_, rfl⟩
          have hf := hf x_5 ex_5
          refine lv_iinc (v := x_5) (lv' := [(4, .int x_5), (0, .ref (a 0)), (1, .int x1), (2, .int x2), (3, .int y3)]) hx hb dX9_keyAt_35 hl (k := 4) rfl (by rw [ex_5]; rfl) (by decide) rfl (fun ls hl => ?_)
          refine lv_goto (tgt := 5) hx hb dX9_keyAt_38 (by decide) ?_
          obtain ⟨k_6, hk_6, hf⟩ := hf
          exact (ih k_6 hk_6) _ _ ls hf (lv_sub hl [1, 2, 3, 4, 0] rfl)
        · have hf := hf.2 c_4
          refine lv_iload_n hx hb dX9_keyAt_24 rfl (lv_at hl 3 rfl) ?_
          refine lv_iload_n hx hb dX9_keyAt_25 rfl (lv_at hl 2 rfl) ?_
          refine lv_icmp_ne (tgt := 32) hx hb dX9_keyAt_26 (by decide) (fun c_7 => ?_) (fun c_7 => ?_)
          · have hf := hf.1 c_7
            obtain ⟨x_8, ex_8⟩ : ∃ y : Int32, y = y3 + (1 : Int32) := ⟨_, rfl⟩
            have hf := hf x_8 ex_8
            refine lv_iinc (v := x_8) (lv' := [(3, .int x_8), (0, .ref (a 0)), (1, .int x1), (2, .int x2), (4, .int y4)]) hx hb dX9_keyAt_32 hl (k := 3) rfl (by rw [ex_8]; rfl) (by decide) rfl (fun ls hl => ?_)
            obtain ⟨x_9, ex_9⟩ : ∃ y : Int32, y = y4 + (1 : Int32) := ⟨_, rfl⟩
            have hf := hf x_9 ex_9
            refine lv_iinc (v := x_9) (lv' := [(4, .int x_9), (3, .int x_8), (0, .ref (a 0)), (1, .int x1), (2, .int x2)]) hx hb dX9_keyAt_35 hl (k := 4) rfl (by rw [ex_9]; rfl) (by decide) rfl (fun ls hl => ?_)
            refine lv_goto (tgt := 5) hx hb dX9_keyAt_38 (by decide) ?_
            obtain ⟨k_10, hk_10, hf⟩ := hf
            exact (ih k_10 hk_10) _ _ ls hf (lv_sub hl [2, 3, 4, 1, 0] rfl)
          · have hf := hf.2 c_7
            refine lv_iload hx hb dX9_keyAt_29 (lv_at hl 4 rfl) ?_
            exact z_retPi X hf dX9_keyAt_31
  unfold t_X9_keyAt_e at hf
  refine lv_iconst (v := 0) hx hb dX9_keyAt_0 (by decide) ?_
  refine lv_istore_n (lv' := [(3, .int (0 : Int32)), (0, .ref (a 0)), (1, .int x1), (2, .int x2)]) hx hb dX9_keyAt_1 rfl hl (by decide) rfl (fun ls hl => ?_)
  refine lv_iconst (v := 0) hx hb dX9_keyAt_2 (by decide) ?_
  refine lv_istore (lv' := [(4, .int (0 : Int32)), (3, .int (0 : Int32)), (0, .ref (a 0)), (1, .int x1), (2, .int x2)]) hx hb dX9_keyAt_3 hl (by decide) rfl (fun ls hl => ?_)
  obtain ⟨k_1, hf⟩ := hf
  exact (LP k_1) _ _ ls hf (lv_sub hl [2, 3, 4, 1, 0] rfl)
/-- the x-th index with a property, of n; -1 without -/
def zNth (p : Nat → Bool) (n : Nat) (x : Int32) : Int32 := zFst (fun j => p j && decide (nI (fa_cnt p j) = x)) n
def s_X9_keyAt (u : zTree) (x1 : Int32) (x2 : Int32) (Q : Int32 → Prop) : Prop := ∃ l : Nat, l < 6 ∧ x1 = nI l ∧ Q (zNth (fun k => zHas u.1 l k) 64 x2)
theorem st_X9_keyAt {u : zTree} {x1 x2 : Int32} {Q : Int32 → Prop} (h : s_X9_keyAt u x1 x2 Q) : v_X9_keyAt u x1 x2 Q := by
  obtain ⟨l, hl, rfl, h⟩ := h
  unfold zNth at h
  generalize hp : (fun k => zHas u.1 l k) = p at h
  have hpk : ∀ k, p k = zHas u.1 l k := fun k => by rw [← hp]
  have hle := fa_first_le (fun j => p j && decide (nI (fa_cnt p j) = x2)) 64
  refine zlp2 (T := fun y y' K => t_X9_keyAt_5 u (nI l) x2 y y' K Q) (E := fun K => t_X9_keyAt_e u (nI l) x2 K Q) (fa_first (fun j => p j && decide (nI (fa_cnt p j) = x2)) 64) (fun i => nI (fa_cnt p i)) (fun i => nI i) (fun K hK => hK) ?_ ?_
  · intro i hi K hK
    have hq := fa_first_no (fun j => p j && decide (nI (fa_cnt p j) = x2)) 64 i hi
    refine ⟨fun c => absurd c (ge64 (by omega)), fun _ => ⟨l, i, hl, by omega, rfl, rfl, ?_⟩⟩
    refine ⟨fun c x e => ?_, fun c => ⟨fun c2 x e x' e' => ?_, fun c2 => ?_⟩⟩
    · have h1 : p i = false := by rw [hpk]; exact decide_eq_false (fun q => q ((lc_eq _ _).mp c))
      rw [fa_cnt_no h1] at hK
      rw [e, nI_1]; exact hK
    · have h1 : p i = true := by rw [hpk]; exact decide_eq_true (fun q => c ((lc_eq _ _).mpr q))
      rw [fa_cnt_yes h1] at hK
      rw [e, e', nI_1, nI_1]; exact hK
    · have h1 : p i = true := by rw [hpk]; exact decide_eq_true (fun q => c ((lc_eq _ _).mpr q))
      rw [h1] at hq
      simp only [Bool.true_and, decide_eq_false_iff_not] at hq
      exact absurd c2 hq
  · intro K
    by_cases hf : fa_first (fun j => p j && decide (nI (fa_cnt p j) = x2)) 64 < 64
    · have hq := fa_first_yes (fun j => p j && decide (nI (fa_cnt p j) = x2)) 64 hf
      rw [zFst_yes hf] at h
      simp only [Bool.and_eq_true, decide_eq_true_eq] at hq
      obtain ⟨q1, q2⟩ := hq
      rw [hpk] at q1
      simp only [decide_eq_true_eq] at q1
      refine ⟨fun c => absurd c (ge64 (by omega)), fun _ => ⟨l, _, hl, by omega, rfl, rfl, ?_⟩⟩
      exact ⟨fun c => absurd ((lc_eq _ _).mp c) q1, fun _ => ⟨fun c => absurd q2 c, fun _ => h⟩⟩
    · rw [zFst_no hf] at h
      have he : fa_first (fun j => p j && decide (nI (fa_cnt p j) = x2)) 64 = 64 := by omega
      show t_X9_keyAt_5 u (nI l) x2 (nI (fa_cnt p (fa_first (fun j => p j && decide (nI (fa_cnt p j) = x2)) 64))) (nI (fa_first (fun j => p j && decide (nI (fa_cnt p j) = x2)) 64)) K Q
      rw [he]
      exact ⟨fun _ => h, fun c => absurd (nI_le (Nat.le_refl 64) (by decide)) c⟩
theorem c_X9_keyAt (l : Launch) (dC : Nat → ClassId) (dI : Nat → Nat → Nat) (cI cJ cS : ClassId) (a : Nat → Nat) (u : zTree) (x1 : Int32) (x2 : Int32) (Q : Int32 → Prop) (hf : s_X9_keyAt u x1 x2 Q) : Met l yX9_keyAt (Cond.code yX9_keyAt cX9_keyAt 5 (some .int) :: zT) rm_X9_keyAt (zPp dC dI cI cJ cS (cl_X9 cI cJ a u) [.ref (a 0), .int x1, .int x2]) (vp_Si Q) 0 0 (fun _ => False) := by
  obtain ⟨I5, h5, hf⟩ := st_X9_keyAt hf
  exact L_X9_keyAt l dC dI cI cJ cS a u x1 x2 Q I5 h5 hf

def t_X9_dropsOf_e (u : zTree) (x1 : Int32) (K4 : Int32 → Int32 → Prop) (Q : Int32 → Prop) : Prop := K4 (0 : Int32) (0 : Int32)
def t_X9_dropsOf_4 (u : zTree) (x1 : Int32) (y2 : Int32) (y3 : Int32) (K4 : Int32 → Int32 → Prop) (Q : Int32 → Prop) : Prop := (((64 : Int32) ≤ y3 → Q y2) ∧ (¬ (64 : Int32) ≤ y3 → s_X9_at u x1 y3 (fun r_3 : Int64 => (((lg_cmp r_3 (0 : Int64)) = 0 → ∀ x_5 : Int32, x_5 = (y2 + (0 : Int32)) → ∀ x_6 : Int32, x_6 = y3 + (1 : Int32) → K4 x_5 x_6) ∧ (¬ (lg_cmp r_3 (0 : Int64)) = 0 → s_X0_isDrop r_3 (fun r_8 : Int32 => ((r_8 = 0 → ∀ x_10 : Int32, x_10 = (y2 + (0 : Int32)) → ∀ x_11 : Int32, x_11 = y3 + (1 : Int32) → K4 x_10 x_11) ∧ (¬ r_8 = 0 → ∀ x_13 : Int32, x_13 = (y2 + (1 : Int32)) → ∀ x_14 : Int32, x_14 = y3 + (1 : Int32) → K4 x_13 x_14))))))))
theorem zc_X9_dropsOf : zCalV RX9 yX9_dropsOf cX9_dropsOf 6 (some .int) 1 := ⟨q_im_X9_dropsOf, q_se_X9_dropsOf, q_in_X9, q_cd_X9_dropsOf, ⟨by decide, by decide, by decide +kernel⟩, rfl⟩
abbrev rm_X9_dropsOf : Room := { frames := 1, cells := 0, slots := 0, locals := 22 }
def v_X9_dropsOf (u : zTree) (x1 : Int32) (Q : Int32 → Prop) : Prop := ∃ I4 : Nat → Int32 → Int32 → Prop, (∀ (n : Nat) (y2 : Int32) (y3 : Int32), I4 n y2 y3 → t_X9_dropsOf_4 u x1 y2 y3 (fun q0 q1 => ∃ k : Nat, k < n ∧ I4 k q0 q1) Q) ∧ t_X9_dropsOf_e u x1 (fun q0 q1 => ∃ k : Nat, I4 k q0 q1) Q
set_option maxHeartbeats 4000000 in
set_option maxRecDepth 100000 in
theorem L_X9_dropsOf (l : Launch) (dC : Nat → ClassId) (dI : Nat → Nat → Nat) (cI cJ cS : ClassId) (a : Nat → Nat) (u : zTree) (x1 : Int32) (Q : Int32 → Prop) (I4 : Nat → Int32 → Int32 → Prop) (h4 : ∀ (n : Nat) (y2 : Int32) (y3 : Int32), I4 n y2 y3 → t_X9_dropsOf_4 u x1 y2 y3 (fun q0 q1 => ∃ k : Nat, k < n ∧ I4 k q0 q1) Q) (hf : t_X9_dropsOf_e u x1 (fun q0 q1 => ∃ k : Nat, I4 k q0 q1) Q) : Met l yX9_dropsOf (Cond.code yX9_dropsOf cX9_dropsOf 6 (some .int) :: zT) rm_X9_dropsOf (zPp dC dI cI cJ cS (cl_X9 cI cJ a u) [.ref (a 0), .int x1]) (vp_Si Q) 0 0 (fun _ => False) := by
  refine z_enterP (cc := cX9_dropsOf) (maxL := 6) (ret := (some .int)) (by decide) (Nat.le_of_ble_eq_true rfl) ?_
  intro p e s m below meth c ls X hP hl
  obtain ⟨⟨hx, hb, hml, hown, hts⟩, hr, hlk, hK⟩ := id X
  have hl : lv_has ls 6 [(0, .ref (a 0)), (1, .int x1)] := hl
  have LP : ∀ n : Nat, (∀ (y2 : Int32) (y3 : Int32) (ls : Array Slot), I4 n y2 y3 → lv_has ls 6 [(0, .ref (a 0)), (1, .int x1), (2, .int y2), (3, .int y3)] → W p l e rm_X9_dropsOf s m [.ref (a 0), .int x1].toArray below meth c s.heap [] 0 0 (MQ below (vp_Si Q) [.ref (a 0), .int x1].toArray s 0 0 (fun _ => False)) (F0 m 4 ls [])) := by
    intro n
    induction n using Nat.strongRecOn with
    | _ n ih =>
      intro y2 y3 ls hI hl
      have hf := h4 n y2 y3 hI
      unfold t_X9_dropsOf_4 at hf
      refine lv_iload_n hx hb dX9_dropsOf_4 rfl (lv_at hl 3 rfl) ?_
      refine lv_bipush (v := 64) hx hb dX9_dropsOf_5 (by decide) ?_
      refine lv_icmp_ge (tgt := 47) hx hb dX9_dropsOf_7 (by decide) (fun c_2 => ?_) (fun c_2 => ?_)
      · have hf := hf.1 c_2
        refine lv_iload_n hx hb dX9_dropsOf_47 rfl (lv_at hl 2 rfl) ?_
        exact z_retPi X hf dX9_dropsOf_48
      · have hf := hf.2 c_2
        refine lv_aload_n hx hb dX9_dropsOf_10 rfl (lv_at hl 0 rfl) ?_
        refine lv_iload_n hx hb dX9_dropsOf_11 rfl (lv_at hl 1 rfl) ?_
        refine lv_iload_n hx hb dX9_dropsOf_12 rfl (lv_at hl 3 rfl) ?_
        refine z_cVl (As := [.int x1, .int y3]) (rest := []) X (c_X9_at l dC dI cI cJ cS a u x1 y3 _ hf) zc_X9_at q_ml_X9_35 ⟨rfl, rfl⟩ ⟨Nat.le_of_ble_eq_true rfl, Nat.le_of_ble_eq_true rfl⟩ hP [0, 1, 2] rfl 8 rfl rfl hl.1 rfl rfl (Nat.le_of_ble_eq_true rfl) ⟨Nat.zero_le _, Nat.zero_le _⟩ dX9_dropsOf_13 (fun r_3 hf => ?_)
        refine lv_lstore (lv' := [(4, .long r_3), (0, .ref (a 0)), (1, .int x1), (2, .int y2), (3, .int y3)]) hx hb dX9_dropsOf_16 hl (by decide) rfl (fun ls hl => ?_)
        refine lv_iload_n hx hb dX9_dropsOf_18 rfl (lv_at hl 3 rfl) ?_
        refine lv_lload hx hb dX9_dropsOf_19 (lv_at hl 0 rfl) ?_
        refine lv_lconst (v := 0) hx hb dX9_dropsOf_21 (by decide) ?_
        refine W.lcmp hx hb dX9_dropsOf_22 ?_
        refine lv_if_eq (tgt := 38) hx hb dX9_dropsOf_23 (by decide) (fun c_4 => ?_) (fun c_4 => ?_)
        · have hf := hf.1 c_4
          refine lv_iconst (v := 0) hx hb dX9_dropsOf_38 (by decide) ?_
          refine lv_iadd hx hb dX9_dropsOf_39 ?_
          refine lv_topi (fun x_5 ex_5 => ?_)
          have hf := hf x_5 ex_5
          refine lv_istore_n (lv' := [(2, .int x_5), (4, .long r_3), (0, .ref (a 0)), (1, .int x1), (3, .int y3)]) hx hb dX9_dropsOf_40 rfl hl (by decide) rfl (fun ls hl => ?_)
          obtain ⟨x_6, ex_6⟩ : ∃ y : Int32, y = y3 + (1 : Int32) := ⟨_, rfl⟩
          have hf := hf x_6 ex_6
          refine lv_iinc (v := x_6) (lv' := [(3, .int x_6), (2, .int x_5), (4, .long r_3), (0, .ref (a 0)), (1, .int x1)]) hx hb dX9_dropsOf_41 hl (k := 4) rfl (by rw [ex_6]; rfl) (by decide) rfl (fun ls hl => ?_)
          refine lv_goto (tgt := 4) hx hb dX9_dropsOf_44 (by decide) ?_
          obtain ⟨k_7, hk_7, hf⟩ := hf
          exact (ih k_7 hk_7) _ _ ls hf (lv_sub hl [3, 4, 1, 0] rfl)
        · have hf := hf.2 c_4
          refine lv_lload hx hb dX9_dropsOf_26 (lv_at hl 0 rfl) ?_
          refine z_cSi (As := [.long r_3]) (rest := [.int y2]) X (c_X0_isDrop l dC dI cI cJ cS   r_3 _ hf) zc_X0_isDrop q_ml_X9_45 ⟨rfl, rfl⟩ ⟨Nat.le_of_ble_eq_true rfl, Nat.le_of_ble_eq_true rfl⟩ hP [] rfl hl.1 rfl rfl (Nat.le_of_ble_eq_true rfl) ⟨Nat.zero_le _, Nat.zero_le _⟩ dX9_dropsOf_28 (fun r_8 hf => ?_)
          obtain ⟨hbr_8, hf⟩ := hf
          refine lv_if_eq (tgt := 38) hx hb dX9_dropsOf_31 (by decide) (fun c_9 => ?_) (fun c_9 => ?_)
          · have hf := hf.1 c_9
            refine lv_iconst (v := 0) hx hb dX9_dropsOf_38 (by decide) ?_
            refine lv_iadd hx hb dX9_dropsOf_39 ?_
            refine lv_topi (fun x_10 ex_10 => ?_)
            have hf := hf x_10 ex_10
            refine lv_istore_n (lv' := [(2, .int x_10), (4, .long r_3), (0, .ref (a 0)), (1, .int x1), (3, .int y3)]) hx hb dX9_dropsOf_40 rfl hl (by decide) rfl (fun ls hl => ?_)
            obtain ⟨x_11, ex_11⟩ : ∃ y : Int32, y = y3 + (1 : Int32) := ⟨_, rfl⟩
            have hf := hf x_11 ex_11
            refine lv_iinc (v := x_11) (lv' := [(3, .int x_11), (2, .int x_10), (4, .long r_3), (0, .ref (a 0)), (1, .int x1)]) hx hb dX9_dropsOf_41 hl (k := 4) rfl (by rw [ex_11]; rfl) (by decide) rfl (fun ls hl => ?_)
            refine lv_goto (tgt := 4) hx hb dX9_dropsOf_44 (by decide) ?_
            obtain ⟨k_12, hk_12, hf⟩ := hf
            exact (ih k_12 hk_12) _ _ ls hf (lv_sub hl [3, 4, 1, 0] rfl)
          · have hf := hf.2 c_9
            refine lv_iconst (v := 1) hx hb dX9_dropsOf_34 (by decide) ?_
            refine lv_goto (tgt := 39) hx hb dX9_dropsOf_35 (by decide) ?_
            refine lv_iadd hx hb dX9_dropsOf_39 ?_
            refine lv_topi (fun x_13 ex_13 => ?_)
            have hf := hf x_13 ex_13
            refine lv_istore_n (lv' := [(2, .int x_13), (4, .long r_3), (0, .ref (a 0)), (1, .int x1), (3, .int y3)]) hx hb dX9_dropsOf_40 rfl hl (by decide) rfl (fun ls hl => ?_)
            obtain ⟨x_14, ex_14⟩ : ∃ y : Int32, y = y3 + (1 : Int32) := ⟨_, rfl⟩
            have hf := hf x_14 ex_14
            refine lv_iinc (v := x_14) (lv' := [(3, .int x_14), (2, .int x_13), (4, .long r_3), (0, .ref (a 0)), (1, .int x1)]) hx hb dX9_dropsOf_41 hl (k := 4) rfl (by rw [ex_14]; rfl) (by decide) rfl (fun ls hl => ?_)
            refine lv_goto (tgt := 4) hx hb dX9_dropsOf_44 (by decide) ?_
            obtain ⟨k_15, hk_15, hf⟩ := hf
            exact (ih k_15 hk_15) _ _ ls hf (lv_sub hl [3, 4, 1, 0] rfl)
  unfold t_X9_dropsOf_e at hf
  refine lv_iconst (v := 0) hx hb dX9_dropsOf_0 (by decide) ?_
  refine lv_istore_n (lv' := [(2, .int (0 : Int32)), (0, .ref (a 0)), (1, .int x1)]) hx hb dX9_dropsOf_1 rfl hl (by decide) rfl (fun ls hl => ?_)
  refine lv_iconst (v := 0) hx hb dX9_dropsOf_2 (by decide) ?_
  refine lv_istore_n (lv' := [(3, .int (0 : Int32)), (2, .int (0 : Int32)), (0, .ref (a 0)), (1, .int x1)]) hx hb dX9_dropsOf_3 rfl hl (by decide) rfl (fun ls hl => ?_)
  obtain ⟨k_1, hf⟩ := hf
  exact (LP k_1) _ _ ls hf (lv_sub hl [2, 3, 1, 0] rfl)
noncomputable def zDrp (c : Int64) : Bool := decide (c &&& 16128 = 0)
theorem zDrp_iff (c : Int64) : zDrp c = true ↔ cDrop c := decide_eq_true_iff
def s_X9_dropsOf (u : zTree) (x1 : Int32) (Q : Int32 → Prop) : Prop := ∃ l : Nat, l < 6 ∧ x1 = nI l ∧ Q (nI (fa_cnt (fun k => zHas u.1 l k && zDrp (u.1 (64 * l + k))) 64))
theorem st_X9_dropsOf {u : zTree} {x1 : Int32} {Q : Int32 → Prop} (h : s_X9_dropsOf u x1 Q) : v_X9_dropsOf u x1 Q := by
  obtain ⟨l, hl, rfl, h⟩ := h
  refine zlp2 (T := fun y y' K => t_X9_dropsOf_4 u (nI l) y y' K Q) (E := fun K => t_X9_dropsOf_e u (nI l) K Q) 64 (fun i => nI (fa_cnt (fun k => zHas u.1 l k && zDrp (u.1 (64 * l + k))) i)) (fun i => nI i) (fun K hK => hK) ?_ ?_
  · intro i hi K hK
    refine ⟨fun c => absurd c (ge64 (by omega)), fun _ => ⟨l, i, hl, hi, rfl, rfl, ?_⟩⟩
    refine ⟨fun c x e x' e' => ?_, fun c => ⟨fun d => ⟨fun c2 => absurd c2 (by decide), fun c2 x e x' e' => ?_⟩, fun d => ⟨fun c2 x e x' e' => ?_, fun c2 => absurd rfl c2⟩⟩⟩
    · have hp : (fun k => zHas u.1 l k && zDrp (u.1 (64 * l + k))) i = false := by
        show (zHas u.1 l i && _) = false
        rw [show zHas u.1 l i = false from decide_eq_false (fun q => q ((lc_eq _ _).mp c))]; rfl
      rw [fa_cnt_no hp] at hK
      rw [e, e', nI_1, Int32.add_zero]; exact hK
    · have hp : (fun k => zHas u.1 l k && zDrp (u.1 (64 * l + k))) i = true := by
        show (zHas u.1 l i && zDrp _) = true
        rw [show zHas u.1 l i = true from decide_eq_true (fun q => c ((lc_eq _ _).mpr q)), (zDrp_iff _).mpr d]; rfl
      rw [fa_cnt_yes hp] at hK
      rw [e, e', nI_1, nI_1]; exact hK
    · have hp : (fun k => zHas u.1 l k && zDrp (u.1 (64 * l + k))) i = false := by
        show (zHas u.1 l i && zDrp _) = false
        rw [show zDrp (u.1 (64 * l + i)) = false from Bool.eq_false_iff.mpr (fun q => d ((zDrp_iff _).mp q)), Bool.and_false]
      rw [fa_cnt_no hp] at hK
      rw [e, e', nI_1, Int32.add_zero]; exact hK
  · intro K
    exact ⟨fun _ => h, fun c => absurd (nI_le (Nat.le_refl 64) (by decide)) c⟩
theorem c_X9_dropsOf (l : Launch) (dC : Nat → ClassId) (dI : Nat → Nat → Nat) (cI cJ cS : ClassId) (a : Nat → Nat) (u : zTree) (x1 : Int32) (Q : Int32 → Prop) (hf : s_X9_dropsOf u x1 Q) : Met l yX9_dropsOf (Cond.code yX9_dropsOf cX9_dropsOf 6 (some .int) :: zT) rm_X9_dropsOf (zPp dC dI cI cJ cS (cl_X9 cI cJ a u) [.ref (a 0), .int x1]) (vp_Si Q) 0 0 (fun _ => False) := by
  obtain ⟨I4, h4, hf⟩ := st_X9_dropsOf hf
  exact L_X9_dropsOf l dC dI cI cJ cS a u x1 Q I4 h4 hf

def t_X9_currentsOf_e (u : zTree) (x1 : Int32) (K4 : Int32 → Int32 → Prop) (Q : Int32 → Prop) : Prop := K4 (0 : Int32) (0 : Int32)
def t_X9_currentsOf_4 (u : zTree) (x1 : Int32) (y2 : Int32) (y3 : Int32) (K4 : Int32 → Int32 → Prop) (Q : Int32 → Prop) : Prop := (((64 : Int32) ≤ y3 → Q y2) ∧ (¬ (64 : Int32) ≤ y3 → s_X9_levelOf u y3 (fun r_3 : Int32 => ((¬ r_3 = x1 → ∀ x_5 : Int32, x_5 = (y2 + (0 : Int32)) → ∀ x_6 : Int32, x_6 = y3 + (1 : Int32) → K4 x_5 x_6) ∧ (r_3 = x1 → ∀ x_8 : Int32, x_8 = (y2 + (1 : Int32)) → ∀ x_9 : Int32, x_9 = y3 + (1 : Int32) → K4 x_8 x_9)))))
theorem zc_X9_currentsOf : zCalV RX9 yX9_currentsOf cX9_currentsOf 4 (some .int) 1 := ⟨q_im_X9_currentsOf, q_se_X9_currentsOf, q_in_X9, q_cd_X9_currentsOf, ⟨by decide, by decide, by decide +kernel⟩, rfl⟩
abbrev rm_X9_currentsOf : Room := { frames := 2, cells := 0, slots := 0, locals := 44 }
def v_X9_currentsOf (u : zTree) (x1 : Int32) (Q : Int32 → Prop) : Prop := ∃ I4 : Nat → Int32 → Int32 → Prop, (∀ (n : Nat) (y2 : Int32) (y3 : Int32), I4 n y2 y3 → t_X9_currentsOf_4 u x1 y2 y3 (fun q0 q1 => ∃ k : Nat, k < n ∧ I4 k q0 q1) Q) ∧ t_X9_currentsOf_e u x1 (fun q0 q1 => ∃ k : Nat, I4 k q0 q1) Q
set_option maxHeartbeats 4000000 in
set_option maxRecDepth 100000 in
theorem L_X9_currentsOf (l : Launch) (dC : Nat → ClassId) (dI : Nat → Nat → Nat) (cI cJ cS : ClassId) (a : Nat → Nat) (u : zTree) (x1 : Int32) (Q : Int32 → Prop) (I4 : Nat → Int32 → Int32 → Prop) (h4 : ∀ (n : Nat) (y2 : Int32) (y3 : Int32), I4 n y2 y3 → t_X9_currentsOf_4 u x1 y2 y3 (fun q0 q1 => ∃ k : Nat, k < n ∧ I4 k q0 q1) Q) (hf : t_X9_currentsOf_e u x1 (fun q0 q1 => ∃ k : Nat, I4 k q0 q1) Q) : Met l yX9_currentsOf (Cond.code yX9_currentsOf cX9_currentsOf 4 (some .int) :: zT) rm_X9_currentsOf (zPp dC dI cI cJ cS (cl_X9 cI cJ a u) [.ref (a 0), .int x1]) (vp_Si Q) 0 0 (fun _ => False) := by
  refine z_enterP (cc := cX9_currentsOf) (maxL := 4) (ret := (some .int)) (by decide) (Nat.le_of_ble_eq_true rfl) ?_
  intro p e s m below meth c ls X hP hl
  obtain ⟨⟨hx, hb, hml, hown, hts⟩, hr, hlk, hK⟩ := id X
  have hl : lv_has ls 4 [(0, .ref (a 0)), (1, .int x1)] := hl
  have LP : ∀ n : Nat, (∀ (y2 : Int32) (y3 : Int32) (ls : Array Slot), I4 n y2 y3 → lv_has ls 4 [(0, .ref (a 0)), (1, .int x1), (2, .int y2), (3, .int y3)] → W p l e rm_X9_currentsOf s m [.ref (a 0), .int x1].toArray below meth c s.heap [] 0 0 (MQ below (vp_Si Q) [.ref (a 0), .int x1].toArray s 0 0 (fun _ => False)) (F0 m 4 ls [])) := by
    intro n
    induction n using Nat.strongRecOn with
    | _ n ih =>
      intro y2 y3 ls hI hl
      have hf := h4 n y2 y3 hI
      unfold t_X9_currentsOf_4 at hf
      refine lv_iload_n hx hb dX9_currentsOf_4 rfl (lv_at hl 3 rfl) ?_
      refine lv_bipush (v := 64) hx hb dX9_currentsOf_5 (by decide) ?_
      refine lv_icmp_ge (tgt := 33) hx hb dX9_currentsOf_7 (by decide) (fun c_2 => ?_) (fun c_2 => ?_)
      · have hf := hf.1 c_2
        refine lv_iload_n hx hb dX9_currentsOf_33 rfl (lv_at hl 2 rfl) ?_
        exact z_retPi X hf dX9_currentsOf_34
      · have hf := hf.2 c_2
        refine lv_iload_n hx hb dX9_currentsOf_10 rfl (lv_at hl 2 rfl) ?_
        refine lv_aload_n hx hb dX9_currentsOf_11 rfl (lv_at hl 0 rfl) ?_
        refine lv_iload_n hx hb dX9_currentsOf_12 rfl (lv_at hl 3 rfl) ?_
        refine z_cVi (As := [.int y3]) (rest := [.int y2]) X (c_X9_levelOf l dC dI cI cJ cS a u y3 _ hf) zc_X9_levelOf q_ml_X9_49 ⟨rfl, rfl⟩ ⟨Nat.le_of_ble_eq_true rfl, Nat.le_of_ble_eq_true rfl⟩ hP [0, 1, 2] rfl 8 rfl rfl hl.1 rfl rfl (Nat.le_of_ble_eq_true rfl) ⟨Nat.zero_le _, Nat.zero_le _⟩ dX9_currentsOf_13 (fun r_3 hf => ?_)
        refine lv_iload_n hx hb dX9_currentsOf_16 rfl (lv_at hl 1 rfl) ?_
        refine lv_icmp_ne (tgt := 24) hx hb dX9_currentsOf_17 (by decide) (fun c_4 => ?_) (fun c_4 => ?_)
        · have hf := hf.1 c_4
          refine lv_iconst (v := 0) hx hb dX9_currentsOf_24 (by decide) ?_
          refine lv_iadd hx hb dX9_currentsOf_25 ?_
          refine lv_topi (fun x_5 ex_5 => ?_)
          have hf := hf x_5 ex_5
          refine lv_istore_n (lv' := [(2, .int x_5), (0, .ref (a 0)), (1, .int x1), (3, .int y3)]) hx hb dX9_currentsOf_26 rfl hl (by decide) rfl (fun ls hl => ?_)
          obtain ⟨x_6, ex_6⟩ : ∃ y : Int32, y = y3 + (1 : Int32) := ⟨_, rfl⟩
          have hf := hf x_6 ex_6
          refine lv_iinc (v := x_6) (lv' := [(3, .int x_6), (2, .int x_5), (0, .ref (a 0)), (1, .int x1)]) hx hb dX9_currentsOf_27 hl (k := 3) rfl (by rw [ex_6]; rfl) (by decide) rfl (fun ls hl => ?_)
          refine lv_goto (tgt := 4) hx hb dX9_currentsOf_30 (by decide) ?_
          obtain ⟨k_7, hk_7, hf⟩ := hf
          exact (ih k_7 hk_7) _ _ ls hf (lv_sub hl [2, 3, 1, 0] rfl)
        · have hf := hf.2 c_4
          refine lv_iconst (v := 1) hx hb dX9_currentsOf_20 (by decide) ?_
          refine lv_goto (tgt := 25) hx hb dX9_currentsOf_21 (by decide) ?_
          refine lv_iadd hx hb dX9_currentsOf_25 ?_
          refine lv_topi (fun x_8 ex_8 => ?_)
          have hf := hf x_8 ex_8
          refine lv_istore_n (lv' := [(2, .int x_8), (0, .ref (a 0)), (1, .int x1), (3, .int y3)]) hx hb dX9_currentsOf_26 rfl hl (by decide) rfl (fun ls hl => ?_)
          obtain ⟨x_9, ex_9⟩ : ∃ y : Int32, y = y3 + (1 : Int32) := ⟨_, rfl⟩
          have hf := hf x_9 ex_9
          refine lv_iinc (v := x_9) (lv' := [(3, .int x_9), (2, .int x_8), (0, .ref (a 0)), (1, .int x1)]) hx hb dX9_currentsOf_27 hl (k := 3) rfl (by rw [ex_9]; rfl) (by decide) rfl (fun ls hl => ?_)
          refine lv_goto (tgt := 4) hx hb dX9_currentsOf_30 (by decide) ?_
          obtain ⟨k_10, hk_10, hf⟩ := hf
          exact (ih k_10 hk_10) _ _ ls hf (lv_sub hl [2, 3, 1, 0] rfl)
  unfold t_X9_currentsOf_e at hf
  refine lv_iconst (v := 0) hx hb dX9_currentsOf_0 (by decide) ?_
  refine lv_istore_n (lv' := [(2, .int (0 : Int32)), (0, .ref (a 0)), (1, .int x1)]) hx hb dX9_currentsOf_1 rfl hl (by decide) rfl (fun ls hl => ?_)
  refine lv_iconst (v := 0) hx hb dX9_currentsOf_2 (by decide) ?_
  refine lv_istore_n (lv' := [(3, .int (0 : Int32)), (2, .int (0 : Int32)), (0, .ref (a 0)), (1, .int x1)]) hx hb dX9_currentsOf_3 rfl hl (by decide) rfl (fun ls hl => ?_)
  obtain ⟨k_1, hf⟩ := hf
  exact (LP k_1) _ _ ls hf (lv_sub hl [2, 3, 1, 0] rfl)
def s_X9_currentsOf (u : zTree) (x1 : Int32) (Q : Int32 → Prop) : Prop := ∃ r : Nat, r < 6 ∧ u.2.2 = nI r ∧ Q (nI (fa_cnt (fun k => decide (zFst (fun l => zHas u.1 l k) (r + 1) = x1)) 64))
theorem st_X9_currentsOf {u : zTree} {x1 : Int32} {Q : Int32 → Prop} (h : s_X9_currentsOf u x1 Q) : v_X9_currentsOf u x1 Q := by
  obtain ⟨r, hr, er, h⟩ := h
  refine zlp2 (T := fun y y' K => t_X9_currentsOf_4 u x1 y y' K Q) (E := fun K => t_X9_currentsOf_e u x1 K Q) 64 (fun i => nI (fa_cnt (fun k => decide (zFst (fun l => zHas u.1 l k) (r + 1) = x1)) i)) (fun i => nI i) (fun K hK => hK) ?_ ?_
  · intro i hi K hK
    refine ⟨fun c => absurd c (ge64 (by omega)), fun _ => ⟨i, r, hi, hr, rfl, er, ?_⟩⟩
    refine ⟨fun c x e x' e' => ?_, fun c x e x' e' => ?_⟩
    · rw [fa_cnt_no (p := fun k => decide (zFst (fun l => zHas u.1 l k) (r + 1) = x1)) (decide_eq_false c)] at hK
      rw [e, e', nI_1, Int32.add_zero]; exact hK
    · rw [fa_cnt_yes (p := fun k => decide (zFst (fun l => zHas u.1 l k) (r + 1) = x1)) (decide_eq_true c)] at hK
      rw [e, e', nI_1, nI_1]; exact hK
  · intro K
    exact ⟨fun _ => h, fun c => absurd (nI_le (Nat.le_refl 64) (by decide)) c⟩
theorem c_X9_currentsOf (l : Launch) (dC : Nat → ClassId) (dI : Nat → Nat → Nat) (cI cJ cS : ClassId) (a : Nat → Nat) (u : zTree) (x1 : Int32) (Q : Int32 → Prop) (hf : s_X9_currentsOf u x1 Q) : Met l yX9_currentsOf (Cond.code yX9_currentsOf cX9_currentsOf 4 (some .int) :: zT) rm_X9_currentsOf (zPp dC dI cI cJ cS (cl_X9 cI cJ a u) [.ref (a 0), .int x1]) (vp_Si Q) 0 0 (fun _ => False) := by
  obtain ⟨I4, h4, hf⟩ := st_X9_currentsOf hf
  exact L_X9_currentsOf l dC dI cI cJ cS a u x1 Q I4 h4 hf

def t_X9_overlapOf_e (u : zTree) (x1 : Int32) (x2 : Int32) (K5 : Int32 → Int32 → Prop) (Q : Int32 → Prop) : Prop := K5 (0 : Int32) (0 : Int32)
def t_X9_overlapOf_5 (u : zTree) (x1 : Int32) (x2 : Int32) (y3 : Int32) (y4 : Int32) (K5 : Int32 → Int32 → Prop) (Q : Int32 → Prop) : Prop := (((64 : Int32) ≤ y4 → Q y3) ∧ (¬ (64 : Int32) ≤ y4 → s_X9_at u x1 y4 (fun r_3 : Int64 => (((lg_cmp r_3 (0 : Int64)) = 0 → ∀ x_5 : Int32, x_5 = (y3 + (0 : Int32)) → ∀ x_6 : Int32, x_6 = y4 + (1 : Int32) → K5 x_5 x_6) ∧ (¬ (lg_cmp r_3 (0 : Int64)) = 0 → s_X9_at u x2 y4 (fun r_8 : Int64 => (((lg_cmp r_8 (0 : Int64)) = 0 → ∀ x_10 : Int32, x_10 = (y3 + (0 : Int32)) → ∀ x_11 : Int32, x_11 = y4 + (1 : Int32) → K5 x_10 x_11) ∧ (¬ (lg_cmp r_8 (0 : Int64)) = 0 → ∀ x_13 : Int32, x_13 = (y3 + (1 : Int32)) → ∀ x_14 : Int32, x_14 = y4 + (1 : Int32) → K5 x_13 x_14))))))))
theorem zc_X9_overlapOf : zCalV RX9 yX9_overlapOf cX9_overlapOf 5 (some .int) 2 := ⟨q_im_X9_overlapOf, q_se_X9_overlapOf, q_in_X9, q_cd_X9_overlapOf, ⟨by decide, by decide, by decide +kernel⟩, rfl⟩
abbrev rm_X9_overlapOf : Room := { frames := 1, cells := 0, slots := 0, locals := 22 }
def v_X9_overlapOf (u : zTree) (x1 : Int32) (x2 : Int32) (Q : Int32 → Prop) : Prop := ∃ I5 : Nat → Int32 → Int32 → Prop, (∀ (n : Nat) (y3 : Int32) (y4 : Int32), I5 n y3 y4 → t_X9_overlapOf_5 u x1 x2 y3 y4 (fun q0 q1 => ∃ k : Nat, k < n ∧ I5 k q0 q1) Q) ∧ t_X9_overlapOf_e u x1 x2 (fun q0 q1 => ∃ k : Nat, I5 k q0 q1) Q
set_option maxHeartbeats 4000000 in
set_option maxRecDepth 100000 in
theorem L_X9_overlapOf (l : Launch) (dC : Nat → ClassId) (dI : Nat → Nat → Nat) (cI cJ cS : ClassId) (a : Nat → Nat) (u : zTree) (x1 : Int32) (x2 : Int32) (Q : Int32 → Prop) (I5 : Nat → Int32 → Int32 → Prop) (h5 : ∀ (n : Nat) (y3 : Int32) (y4 : Int32), I5 n y3 y4 → t_X9_overlapOf_5 u x1 x2 y3 y4 (fun q0 q1 => ∃ k : Nat, k < n ∧ I5 k q0 q1) Q) (hf : t_X9_overlapOf_e u x1 x2 (fun q0 q1 => ∃ k : Nat, I5 k q0 q1) Q) : Met l yX9_overlapOf (Cond.code yX9_overlapOf cX9_overlapOf 5 (some .int) :: zT) rm_X9_overlapOf (zPp dC dI cI cJ cS (cl_X9 cI cJ a u) [.ref (a 0), .int x1, .int x2]) (vp_Si Q) 0 0 (fun _ => False) := by
  refine z_enterP (cc := cX9_overlapOf) (maxL := 5) (ret := (some .int)) (by decide) (Nat.le_of_ble_eq_true rfl) ?_
  intro p e s m below meth c ls X hP hl
  obtain ⟨⟨hx, hb, hml, hown, hts⟩, hr, hlk, hK⟩ := id X
  have hl : lv_has ls 5 [(0, .ref (a 0)), (1, .int x1), (2, .int x2)] := hl
  have LP : ∀ n : Nat, (∀ (y3 : Int32) (y4 : Int32) (ls : Array Slot), I5 n y3 y4 → lv_has ls 5 [(0, .ref (a 0)), (1, .int x1), (2, .int x2), (3, .int y3), (4, .int y4)] → W p l e rm_X9_overlapOf s m [.ref (a 0), .int x1, .int x2].toArray below meth c s.heap [] 0 0 (MQ below (vp_Si Q) [.ref (a 0), .int x1, .int x2].toArray s 0 0 (fun _ => False)) (F0 m 5 ls [])) := by
    intro n
    induction n using Nat.strongRecOn with
    | _ n ih =>
      intro y3 y4 ls hI hl
      have hf := h5 n y3 y4 hI
      unfold t_X9_overlapOf_5 at hf
      refine lv_iload hx hb dX9_overlapOf_5 (lv_at hl 4 rfl) ?_
      refine lv_bipush (v := 64) hx hb dX9_overlapOf_7 (by decide) ?_
      refine lv_icmp_ge (tgt := 50) hx hb dX9_overlapOf_9 (by decide) (fun c_2 => ?_) (fun c_2 => ?_)
      · have hf := hf.1 c_2
        refine lv_iload_n hx hb dX9_overlapOf_50 rfl (lv_at hl 3 rfl) ?_
        exact z_retPi X hf dX9_overlapOf_51
      · have hf := hf.2 c_2
        refine lv_iload_n hx hb dX9_overlapOf_12 rfl (lv_at hl 3 rfl) ?_
        refine lv_aload_n hx hb dX9_overlapOf_13 rfl (lv_at hl 0 rfl) ?_
        refine lv_iload_n hx hb dX9_overlapOf_14 rfl (lv_at hl 1 rfl) ?_
        refine lv_iload hx hb dX9_overlapOf_15 (lv_at hl 4 rfl) ?_
        refine z_cVl (As := [.int x1, .int y4]) (rest := [.int y3]) X (c_X9_at l dC dI cI cJ cS a u x1 y4 _ hf) zc_X9_at q_ml_X9_35 ⟨rfl, rfl⟩ ⟨Nat.le_of_ble_eq_true rfl, Nat.le_of_ble_eq_true rfl⟩ hP [0, 1, 2] rfl 8 rfl rfl hl.1 rfl rfl (Nat.le_of_ble_eq_true rfl) ⟨Nat.zero_le _, Nat.zero_le _⟩ dX9_overlapOf_17 (fun r_3 hf => ?_)
        refine lv_lconst (v := 0) hx hb dX9_overlapOf_20 (by decide) ?_
        refine W.lcmp hx hb dX9_overlapOf_21 ?_
        refine lv_if_eq (tgt := 41) hx hb dX9_overlapOf_22 (by decide) (fun c_4 => ?_) (fun c_4 => ?_)
        · have hf := hf.1 c_4
          refine lv_iconst (v := 0) hx hb dX9_overlapOf_41 (by decide) ?_
          refine lv_iadd hx hb dX9_overlapOf_42 ?_
          refine lv_topi (fun x_5 ex_5 => ?_)
          have hf := hf x_5 ex_5
          refine lv_istore_n (lv' := [(3, .int x_5), (0, .ref (a 0)), (1, .int x1), (2, .int x2), (4, .int y4)]) hx hb dX9_overlapOf_43 rfl hl (by decide) rfl (fun ls hl => ?_)
          obtain ⟨x_6, ex_6⟩ : ∃ y : Int32, y = y4 + (1 : Int32) := ⟨_, rfl⟩
          have hf := hf x_6 ex_6
          refine lv_iinc (v := x_6) (lv' := [(4, .int x_6), (3, .int x_5), (0, .ref (a 0)), (1, .int x1), (2, .int x2)]) hx hb dX9_overlapOf_44 hl (k := 4) rfl (by rw [ex_6]; rfl) (by decide) rfl (fun ls hl => ?_)
          refine lv_goto (tgt := 5) hx hb dX9_overlapOf_47 (by decide) ?_
          obtain ⟨k_7, hk_7, hf⟩ := hf
          exact (ih k_7 hk_7) _ _ ls hf (lv_sub hl [2, 3, 4, 1, 0] rfl)
        · have hf := hf.2 c_4
          refine lv_aload_n hx hb dX9_overlapOf_25 rfl (lv_at hl 0 rfl) ?_
          refine lv_iload_n hx hb dX9_overlapOf_26 rfl (lv_at hl 2 rfl) ?_
          refine lv_iload hx hb dX9_overlapOf_27 (lv_at hl 4 rfl) ?_
          refine z_cVl (As := [.int x2, .int y4]) (rest := [.int y3]) X (c_X9_at l dC dI cI cJ cS a u x2 y4 _ hf) zc_X9_at q_ml_X9_35 ⟨rfl, rfl⟩ ⟨Nat.le_of_ble_eq_true rfl, Nat.le_of_ble_eq_true rfl⟩ hP [0, 1, 2] rfl 8 rfl rfl hl.1 rfl rfl (Nat.le_of_ble_eq_true rfl) ⟨Nat.zero_le _, Nat.zero_le _⟩ dX9_overlapOf_29 (fun r_8 hf => ?_)
          refine lv_lconst (v := 0) hx hb dX9_overlapOf_32 (by decide) ?_
          refine W.lcmp hx hb dX9_overlapOf_33 ?_
          refine lv_if_eq (tgt := 41) hx hb dX9_overlapOf_34 (by decide) (fun c_9 => ?_) (fun c_9 => ?_)
          · have hf := hf.1 c_9
            refine lv_iconst (v := 0) hx hb dX9_overlapOf_41 (by decide) ?_
            refine lv_iadd hx hb dX9_overlapOf_42 ?_
            refine lv_topi (fun x_10 ex_10 => ?_)
            have hf := hf x_10 ex_10
            refine lv_istore_n (lv' := [(3, .int x_10), (0, .ref (a 0)), (1, .int x1), (2, .int x2), (4, .int y4)]) hx hb dX9_overlapOf_43 rfl hl (by decide) rfl (fun ls hl => ?_)
            obtain ⟨x_11, ex_11⟩ : ∃ y : Int32, y = y4 + (1 : Int32) := ⟨_, rfl⟩
            have hf := hf x_11 ex_11
            refine lv_iinc (v := x_11) (lv' := [(4, .int x_11), (3, .int x_10), (0, .ref (a 0)), (1, .int x1), (2, .int x2)]) hx hb dX9_overlapOf_44 hl (k := 4) rfl (by rw [ex_11]; rfl) (by decide) rfl (fun ls hl => ?_)
            refine lv_goto (tgt := 5) hx hb dX9_overlapOf_47 (by decide) ?_
            obtain ⟨k_12, hk_12, hf⟩ := hf
            exact (ih k_12 hk_12) _ _ ls hf (lv_sub hl [2, 3, 4, 1, 0] rfl)
          · have hf := hf.2 c_9
            refine lv_iconst (v := 1) hx hb dX9_overlapOf_37 (by decide) ?_
            refine lv_goto (tgt := 42) hx hb dX9_overlapOf_38 (by decide) ?_
            refine lv_iadd hx hb dX9_overlapOf_42 ?_
            refine lv_topi (fun x_13 ex_13 => ?_)
            have hf := hf x_13 ex_13
            refine lv_istore_n (lv' := [(3, .int x_13), (0, .ref (a 0)), (1, .int x1), (2, .int x2), (4, .int y4)]) hx hb dX9_overlapOf_43 rfl hl (by decide) rfl (fun ls hl => ?_)
            obtain ⟨x_14, ex_14⟩ : ∃ y : Int32, y = y4 + (1 : Int32) := ⟨_, rfl⟩
            have hf := hf x_14 ex_14
            refine lv_iinc (v := x_14) (lv' := [(4, .int x_14), (3, .int x_13), (0, .ref (a 0)), (1, .int x1), (2, .int x2)]) hx hb dX9_overlapOf_44 hl (k := 4) rfl (by rw [ex_14]; rfl) (by decide) rfl (fun ls hl => ?_)
            refine lv_goto (tgt := 5) hx hb dX9_overlapOf_47 (by decide) ?_
            obtain ⟨k_15, hk_15, hf⟩ := hf
            exact (ih k_15 hk_15) _ _ ls hf (lv_sub hl [2, 3, 4, 1, 0] rfl)
  unfold t_X9_overlapOf_e at hf
  refine lv_iconst (v := 0) hx hb dX9_overlapOf_0 (by decide) ?_
  refine lv_istore_n (lv' := [(3, .int (0 : Int32)), (0, .ref (a 0)), (1, .int x1), (2, .int x2)]) hx hb dX9_overlapOf_1 rfl hl (by decide) rfl (fun ls hl => ?_)
  refine lv_iconst (v := 0) hx hb dX9_overlapOf_2 (by decide) ?_
  refine lv_istore (lv' := [(4, .int (0 : Int32)), (3, .int (0 : Int32)), (0, .ref (a 0)), (1, .int x1), (2, .int x2)]) hx hb dX9_overlapOf_3 hl (by decide) rfl (fun ls hl => ?_)
  obtain ⟨k_1, hf⟩ := hf
  exact (LP k_1) _ _ ls hf (lv_sub hl [2, 3, 4, 1, 0] rfl)
def s_X9_overlapOf (u : zTree) (x1 : Int32) (x2 : Int32) (Q : Int32 → Prop) : Prop := ∃ l j : Nat, l < 6 ∧ j < 6 ∧ x1 = nI l ∧ x2 = nI j ∧ Q (nI (fa_cnt (fun k => zHas u.1 l k && zHas u.1 j k) 64))
theorem st_X9_overlapOf {u : zTree} {x1 x2 : Int32} {Q : Int32 → Prop} (h : s_X9_overlapOf u x1 x2 Q) : v_X9_overlapOf u x1 x2 Q := by
  obtain ⟨l, j, hl, hj, rfl, rfl, h⟩ := h
  refine zlp2 (T := fun y y' K => t_X9_overlapOf_5 u (nI l) (nI j) y y' K Q) (E := fun K => t_X9_overlapOf_e u (nI l) (nI j) K Q) 64 (fun i => nI (fa_cnt (fun k => zHas u.1 l k && zHas u.1 j k) i)) (fun i => nI i) (fun K hK => hK) ?_ ?_
  · intro i hi K hK
    refine ⟨fun c => absurd c (ge64 (by omega)), fun _ => ⟨l, i, hl, hi, rfl, rfl, ?_⟩⟩
    refine ⟨fun c x e x' e' => ?_, fun c => ⟨j, i, hj, hi, rfl, rfl, fun d x e x' e' => ?_, fun d x e x' e' => ?_⟩⟩
    · have hp : (fun k => zHas u.1 l k && zHas u.1 j k) i = false := by
        show (zHas u.1 l i && _) = false
        rw [show zHas u.1 l i = false from decide_eq_false (fun q => q ((lc_eq _ _).mp c))]; rfl
      rw [fa_cnt_no hp] at hK
      rw [e, e', nI_1, Int32.add_zero]; exact hK
    · have hp : (fun k => zHas u.1 l k && zHas u.1 j k) i = false := by
        show (_ && zHas u.1 j i) = false
        rw [show zHas u.1 j i = false from decide_eq_false (fun q => q ((lc_eq _ _).mp d)), Bool.and_false]
      rw [fa_cnt_no hp] at hK
      rw [e, e', nI_1, Int32.add_zero]; exact hK
    · have hp : (fun k => zHas u.1 l k && zHas u.1 j k) i = true := by
        show (zHas u.1 l i && zHas u.1 j i) = true
        rw [show zHas u.1 l i = true from decide_eq_true (fun q => c ((lc_eq _ _).mpr q)), show zHas u.1 j i = true from decide_eq_true (fun q => d ((lc_eq _ _).mpr q))]; rfl
      rw [fa_cnt_yes hp] at hK
      rw [e, e', nI_1, nI_1]; exact hK
  · intro K
    exact ⟨fun _ => h, fun c => absurd (nI_le (Nat.le_refl 64) (by decide)) c⟩
theorem c_X9_overlapOf (l : Launch) (dC : Nat → ClassId) (dI : Nat → Nat → Nat) (cI cJ cS : ClassId) (a : Nat → Nat) (u : zTree) (x1 : Int32) (x2 : Int32) (Q : Int32 → Prop) (hf : s_X9_overlapOf u x1 x2 Q) : Met l yX9_overlapOf (Cond.code yX9_overlapOf cX9_overlapOf 5 (some .int) :: zT) rm_X9_overlapOf (zPp dC dI cI cJ cS (cl_X9 cI cJ a u) [.ref (a 0), .int x1, .int x2]) (vp_Si Q) 0 0 (fun _ => False) := by
  obtain ⟨I5, h5, hf⟩ := st_X9_overlapOf hf
  exact L_X9_overlapOf l dC dI cI cJ cS a u x1 x2 Q I5 h5 hf

def t_X9_isFullFor (u : zTree) (x1 : Int32) (x2 : Int32) (Q : Int32 → Prop) : Prop := vp_in (0 : Int32) 6 ∧ (((u.2.1 (0 : Int32).toNatClampNeg) < x2 → Q (0 : Int32)) ∧ (¬ (u.2.1 (0 : Int32).toNatClampNeg) < x2 → s_X9_at u (0 : Int32) x1 (fun r_2 : Int64 => ((¬ (lg_cmp r_2 (0 : Int64)) = 0 → Q (0 : Int32)) ∧ ((lg_cmp r_2 (0 : Int64)) = 0 → Q (1 : Int32))))))
theorem zc_X9_isFullFor : zCalV RX9 yX9_isFullFor cX9_isFullFor 3 (some .boolean) 2 := ⟨q_im_X9_isFullFor, q_se_X9_isFullFor, q_in_X9, q_cd_X9_isFullFor, ⟨by decide, by decide, by decide +kernel⟩, rfl⟩
abbrev rm_X9_isFullFor : Room := { frames := 1, cells := 0, slots := 0, locals := 22 }
set_option maxHeartbeats 4000000 in
set_option maxRecDepth 100000 in
theorem L_X9_isFullFor (l : Launch) (dC : Nat → ClassId) (dI : Nat → Nat → Nat) (cI cJ cS : ClassId) (a : Nat → Nat) (u : zTree) (x1 : Int32) (x2 : Int32) (Q : Int32 → Prop) (hf : t_X9_isFullFor u x1 x2 Q) : Met l yX9_isFullFor (Cond.code yX9_isFullFor cX9_isFullFor 3 (some .boolean) :: zT) rm_X9_isFullFor (zPp dC dI cI cJ cS (cl_X9 cI cJ a u) [.ref (a 0), .int x1, .int x2]) (vp_Si (fun r => (r = 0 ∨ r = 1) ∧ Q r)) 0 0 (fun _ => False) := by
  refine z_enterP (cc := cX9_isFullFor) (maxL := 3) (ret := (some .boolean)) (by decide) (Nat.le_of_ble_eq_true rfl) ?_
  intro p e s m below meth c ls X hP hl
  obtain ⟨⟨hx, hb, hml, hown, hts⟩, hr, hlk, hK⟩ := id X
  have hl : lv_has ls 3 [(0, .ref (a 0)), (1, .int x1), (2, .int x2)] := hl
  unfold t_X9_isFullFor at hf
  refine lv_aload_n hx hb dX9_isFullFor_0 rfl (lv_at hl 0 rfl) ?_
  refine va_get (D := (dC, dI)) (ci := 8) (v := .ref (a 2)) (C := RX9) (T := TX9) (N := 3) hx hb hts inX9 hown hK hP 0 rfl rfl 1 (by decide) (hts _ q_fl_X9_15) (fun _ h9 => h9) rfl dX9_isFullFor_1 ?_
  refine lv_iconst (v := 0) hx hb dX9_isFullFor_4 (by decide) ?_
  obtain ⟨hg, hf⟩ := hf
  refine va_iald hx hb hK hP 2 0 rfl rfl hg dX9_isFullFor_5 ?_
  refine lv_iload_n hx hb dX9_isFullFor_6 rfl (lv_at hl 2 rfl) ?_
  refine lv_icmp_lt (tgt := 25) hx hb dX9_isFullFor_7 (by decide) (fun c_1 => ?_) (fun c_1 => ?_)
  · have hf := hf.1 c_1
    refine lv_iconst (v := 0) hx hb dX9_isFullFor_25 (by decide) ?_
    exact z_retPz X (Or.inl rfl) hf dX9_isFullFor_26
  · have hf := hf.2 c_1
    refine lv_aload_n hx hb dX9_isFullFor_10 rfl (lv_at hl 0 rfl) ?_
    refine lv_iconst (v := 0) hx hb dX9_isFullFor_11 (by decide) ?_
    refine lv_iload_n hx hb dX9_isFullFor_12 rfl (lv_at hl 1 rfl) ?_
    refine z_cVl (As := [.int (0 : Int32), .int x1]) (rest := []) X (c_X9_at l dC dI cI cJ cS a u (0 : Int32) x1 _ hf) zc_X9_at q_ml_X9_35 ⟨rfl, rfl⟩ ⟨Nat.le_of_ble_eq_true rfl, Nat.le_of_ble_eq_true rfl⟩ hP [0, 1, 2] rfl 8 rfl rfl hl.1 rfl rfl (Nat.le_of_ble_eq_true rfl) ⟨Nat.zero_le _, Nat.zero_le _⟩ dX9_isFullFor_13 (fun r_2 hf => ?_)
    refine lv_lconst (v := 0) hx hb dX9_isFullFor_16 (by decide) ?_
    refine W.lcmp hx hb dX9_isFullFor_17 ?_
    refine lv_if_ne (tgt := 25) hx hb dX9_isFullFor_18 (by decide) (fun c_3 => ?_) (fun c_3 => ?_)
    · have hf := hf.1 c_3
      refine lv_iconst (v := 0) hx hb dX9_isFullFor_25 (by decide) ?_
      exact z_retPz X (Or.inl rfl) hf dX9_isFullFor_26
    · have hf := hf.2 c_3
      refine lv_iconst (v := 1) hx hb dX9_isFullFor_21 (by decide) ?_
      refine lv_goto (tgt := 26) hx hb dX9_isFullFor_22 (by decide) ?_
      exact z_retPz X (Or.inr rfl) hf dX9_isFullFor_26
theorem n_c0 : (0 : Int32).toNatClampNeg = 0 := by decide
theorem n_c1 : (1 : Int32).toNatClampNeg = 1 := by decide
theorem n_in0 {n : Nat} (h : 0 < n) (hn : n < 2 ^ 31) : vp_in (0 : Int32) n := vp_in_nI h hn
theorem n_in1 {n : Nat} (h : 1 < n) (hn : n < 2 ^ 31) : vp_in (1 : Int32) n := vp_in_nI h hn
def s_X9_isFullFor (u : zTree) (x1 : Int32) (x2 : Int32) (Q : Int32 → Prop) : Prop := ∃ k : Nat, k < 64 ∧ x1 = nI k ∧ ((u.2.1 0 < x2 ∨ ¬ u.1 k = 0) → Q 0) ∧ (¬ u.2.1 0 < x2 → u.1 k = 0 → Q 1)
theorem st_X9_isFullFor {u : zTree} {x1 x2 : Int32} {Q : Int32 → Prop} (h : s_X9_isFullFor u x1 x2 Q) : t_X9_isFullFor u x1 x2 Q := by
  obtain ⟨k, hk, rfl, h1, h2⟩ := h
  unfold t_X9_isFullFor
  rw [n_c0]
  refine ⟨n_in0 (by decide) (by decide), fun c => h1 (Or.inl c), fun c => ⟨0, k, by decide, hk, rfl, rfl, ?_⟩⟩
  rw [show 64 * 0 + k = k by omega]
  exact ⟨fun d => h1 (Or.inr (fun q => d ((lc_eq _ _).mpr q))), fun d => h2 c ((lc_eq _ _).mp d)⟩
theorem c_X9_isFullFor (l : Launch) (dC : Nat → ClassId) (dI : Nat → Nat → Nat) (cI cJ cS : ClassId) (a : Nat → Nat) (u : zTree) (x1 : Int32) (x2 : Int32) (Q : Int32 → Prop) (hf : s_X9_isFullFor u x1 x2 Q) : Met l yX9_isFullFor (Cond.code yX9_isFullFor cX9_isFullFor 3 (some .boolean) :: zT) rm_X9_isFullFor (zPp dC dI cI cJ cS (cl_X9 cI cJ a u) [.ref (a 0), .int x1, .int x2]) (vp_Si (fun r => (r = 0 ∨ r = 1) ∧ Q r)) 0 0 (fun _ => False) := L_X9_isFullFor l dC dI cI cJ cS a u x1 x2 Q (st_X9_isFullFor hf)

def t_X9_intoTable (u : zTree) (x1 : Int64) (Q : zTree → Prop) : Prop := s_X0_keyOf x1 (fun r_1 : Int32 => vp_in (0 : Int32) 6 ∧ s_X9_at u (0 : Int32) r_1 (fun r_2 : Int64 => ((¬ (lg_cmp r_2 (0 : Int64)) = 0 → vp_in (0 : Int32) 6 ∧ ∀ f_4 : Nat → Int32, f_4 = upd u.2.1 (0 : Int32).toNatClampNeg ((u.2.1 (0 : Int32).toNatClampNeg) + (0 : Int32)) → vp_in r_1 384 ∧ ∀ f_5 : Nat → Int64, f_5 = vp_updL u.1 r_1.toNatClampNeg x1 → Q (f_5, f_4, u.2.2)) ∧ ((lg_cmp r_2 (0 : Int64)) = 0 → vp_in (0 : Int32) 6 ∧ ∀ f_6 : Nat → Int32, f_6 = upd u.2.1 (0 : Int32).toNatClampNeg ((u.2.1 (0 : Int32).toNatClampNeg) + (1 : Int32)) → vp_in r_1 384 ∧ ∀ f_7 : Nat → Int64, f_7 = vp_updL u.1 r_1.toNatClampNeg x1 → Q (f_7, f_6, u.2.2)))))
theorem zc_X9_intoTable : zCalV RX9 yX9_intoTable cX9_intoTable 4 none 1 := ⟨q_im_X9_intoTable, q_se_X9_intoTable, q_in_X9, q_cd_X9_intoTable, ⟨by decide, by decide, by decide +kernel⟩, rfl⟩
abbrev rm_X9_intoTable : Room := { frames := 1, cells := 0, slots := 0, locals := 22 }
set_option maxHeartbeats 4000000 in
set_option maxRecDepth 100000 in
theorem L_X9_intoTable (l : Launch) (dC : Nat → ClassId) (dI : Nat → Nat → Nat) (cI cJ cS : ClassId) (a : Nat → Nat) (u : zTree) (x1 : Int64) (Q : zTree → Prop) (hf : t_X9_intoTable u x1 Q) : ∀ sz : Nat, Met l yX9_intoTable (Cond.code yX9_intoTable cX9_intoTable 4 none :: zT) rm_X9_intoTable (zPm dC dI cI cJ cS (cl_X9 cI cJ a u) [.ref (a 0), .long x1] sz) (va_Qv Q (zB dC dI cI cJ cS (va_A (cl_X9 cI cJ a u) sz) (fun z => cl_X9 cI cJ a z)) (va_A (cl_X9 cI cJ a u) sz)) 0 0 (va_A (cl_X9 cI cJ a u) sz) := by
  intro sz
  refine z_enterM (Qc := fun A => va_Qv Q (zB dC dI cI cJ cS A (fun z => cl_X9 cI cJ a z)) A) (cc := cX9_intoTable) (maxL := 4) (ret := none) (by decide) (Nat.le_of_ble_eq_true rfl) ?_
  intro p e s m below meth c ls A X hP hD hS hA hl
  obtain ⟨⟨hx, hb, hml, hown, hts⟩, hr, hlk, hK⟩ := id X
  have hl : lv_has ls 4 [(0, .ref (a 0)), (1, .long x1)] := hl
  unfold t_X9_intoTable at hf
  refine lv_lload_n hx hb dX9_intoTable_0 rfl (lv_at hl 1 rfl) ?_
  refine z_cSi (As := [.long x1]) (rest := []) X (c_X0_keyOf l dC dI cI cJ cS   x1 _ hf) zc_X0_keyOf q_ml_X9_53 ⟨rfl, rfl⟩ ⟨Nat.le_of_ble_eq_true rfl, Nat.le_of_ble_eq_true rfl⟩ hP [] rfl hl.1 rfl rfl (Nat.le_of_ble_eq_true rfl) ⟨Nat.zero_le _, Nat.zero_le _⟩ dX9_intoTable_1 (fun r_1 hf => ?_)
  refine lv_istore_n (lv' := [(3, .int r_1), (0, .ref (a 0)), (1, .long x1)]) hx hb dX9_intoTable_4 rfl hl (by decide) rfl (fun ls hl => ?_)
  refine lv_aload_n hx hb dX9_intoTable_5 rfl (lv_at hl 1 rfl) ?_
  refine va_get (D := (dC, dI)) (ci := 8) (v := .ref (a 2)) (C := RX9) (T := TX9) (N := 3) hx hb hts inX9 hown hK hP 0 rfl rfl 1 (by decide) (hts _ q_fl_X9_15) (fun _ h9 => h9) rfl dX9_intoTable_6 ?_
  refine lv_iconst (v := 0) hx hb dX9_intoTable_9 (by decide) ?_
  refine lv_dup2_11 hx hb dX9_intoTable_10 rfl rfl ?_
  obtain ⟨hg, hf⟩ := hf
  refine va_iald hx hb hK hP 2 0 rfl rfl hg dX9_intoTable_11 ?_
  refine lv_aload_n hx hb dX9_intoTable_12 rfl (lv_at hl 1 rfl) ?_
  refine lv_iconst (v := 0) hx hb dX9_intoTable_13 (by decide) ?_
  refine lv_iload_n hx hb dX9_intoTable_14 rfl (lv_at hl 0 rfl) ?_
  refine z_cVl (As := [.int (0 : Int32), .int r_1]) (rest := [.int (u.2.1 (0 : Int32).toNatClampNeg), .int (0 : Int32), .ref (a 2)]) X (c_X9_at l dC dI cI cJ cS a u (0 : Int32) r_1 _ hf) zc_X9_at q_ml_X9_35 ⟨rfl, rfl⟩ ⟨Nat.le_of_ble_eq_true rfl, Nat.le_of_ble_eq_true rfl⟩ hP [0, 1, 2] rfl 8 rfl rfl hl.1 rfl rfl (Nat.le_of_ble_eq_true rfl) ⟨Nat.zero_le _, Nat.zero_le _⟩ dX9_intoTable_15 (fun r_2 hf => ?_)
  refine lv_lconst (v := 0) hx hb dX9_intoTable_18 (by decide) ?_
  refine W.lcmp hx hb dX9_intoTable_19 ?_
  refine lv_if_ne (tgt := 27) hx hb dX9_intoTable_20 (by decide) (fun c_3 => ?_) (fun c_3 => ?_)
  · have hf := hf.1 c_3
    refine lv_iconst (v := 0) hx hb dX9_intoTable_27 (by decide) ?_
    refine lv_iadd hx hb dX9_intoTable_28 ?_
    obtain ⟨hg, hf⟩ := hf
    refine z_iast (Wn := fun f_4 => cl_X9 cI cJ a (u.1, f_4, u.2.2)) X hP hD hS 2 0 rfl rfl hg (fun _ => rfl) dX9_intoTable_29 (fun f_4 H locs ef_4 hP hD hS => ?_)
    have hf := hf f_4 ef_4
    refine lv_aload_n hx hb dX9_intoTable_30 rfl (lv_at hl 1 rfl) ?_
    refine va_get (D := (dC, dI)) (ci := 8) (v := .ref (a 1)) (C := RX9) (T := TX9) (N := 3) hx hb hts inX9 hown hK hP 0 rfl rfl 0 (by decide) (hts _ q_fl_X9_9) (fun _ h9 => h9) rfl dX9_intoTable_31 ?_
    refine lv_iload_n hx hb dX9_intoTable_34 rfl (lv_at hl 0 rfl) ?_
    refine lv_lload_n hx hb dX9_intoTable_35 rfl (lv_at hl 2 rfl) ?_
    obtain ⟨hg, hf⟩ := hf
    refine z_last (Wn := fun f_5 => cl_X9 cI cJ a (f_5, f_4, u.2.2)) X hP hD hS 1 1 rfl rfl hg (fun _ => rfl) dX9_intoTable_36 (fun f_5 H locs ef_5 hP hD hS => ?_)
    have hf := hf f_5 ef_5
    exact z_retMv (Wf := (fun z => cl_X9 cI cJ a z)) (u := (f_5, f_4, u.2.2)) X hf hP hD hS dX9_intoTable_37
  · have hf := hf.2 c_3
    refine lv_iconst (v := 1) hx hb dX9_intoTable_23 (by decide) ?_
    refine lv_goto (tgt := 28) hx hb dX9_intoTable_24 (by decide) ?_
    refine lv_iadd hx hb dX9_intoTable_28 ?_
    obtain ⟨hg, hf⟩ := hf
    refine z_iast (Wn := fun f_6 => cl_X9 cI cJ a (u.1, f_6, u.2.2)) X hP hD hS 2 0 rfl rfl hg (fun _ => rfl) dX9_intoTable_29 (fun f_6 H locs ef_6 hP hD hS => ?_)
    have hf := hf f_6 ef_6
    refine lv_aload_n hx hb dX9_intoTable_30 rfl (lv_at hl 1 rfl) ?_
    refine va_get (D := (dC, dI)) (ci := 8) (v := .ref (a 1)) (C := RX9) (T := TX9) (N := 3) hx hb hts inX9 hown hK hP 0 rfl rfl 0 (by decide) (hts _ q_fl_X9_9) (fun _ h9 => h9) rfl dX9_intoTable_31 ?_
    refine lv_iload_n hx hb dX9_intoTable_34 rfl (lv_at hl 0 rfl) ?_
    refine lv_lload_n hx hb dX9_intoTable_35 rfl (lv_at hl 2 rfl) ?_
    obtain ⟨hg, hf⟩ := hf
    refine z_last (Wn := fun f_7 => cl_X9 cI cJ a (f_7, f_6, u.2.2)) X hP hD hS 1 1 rfl rfl hg (fun _ => rfl) dX9_intoTable_36 (fun f_7 H locs ef_7 hP hD hS => ?_)
    have hf := hf f_7 ef_7
    exact z_retMv (Wf := (fun z => cl_X9 cI cJ a z)) (u := (f_7, f_6, u.2.2)) X hf hP hD hS dX9_intoTable_37
def zInto (u : zTree) (k : Nat) (c : Int64) : zTree := (vp_updL u.1 k c, upd u.2.1 0 (u.2.1 0 + (if u.1 k = 0 then 1 else 0)), u.2.2)
def s_X9_intoTable (u : zTree) (x1 : Int64) (Q : zTree → Prop) : Prop := ∃ k : Nat, k < 64 ∧ cKey x1 = nI k ∧ Q (zInto u k x1)
theorem st_X9_intoTable {u : zTree} {x1 : Int64} {Q : zTree → Prop} (h : s_X9_intoTable u x1 Q) : t_X9_intoTable u x1 Q := by
  obtain ⟨k, hk, ek, h⟩ := h
  unfold t_X9_intoTable s_X0_keyOf
  unfold zInto at h
  dsimp only
  rw [n_c0, ek, nI_clamp (by omega)]
  refine ⟨n_in0 (by decide) (by decide), 0, k, by decide, hk, rfl, rfl, ?_⟩
  rw [show 64 * 0 + k = k by omega]
  refine ⟨fun d => ⟨n_in0 (by decide) (by decide), fun f e => ⟨vp_in_nI (by omega) (by decide), fun g e2 => ?_⟩⟩, fun d => ⟨n_in0 (by decide) (by decide), fun f e => ⟨vp_in_nI (by omega) (by decide), fun g e2 => ?_⟩⟩⟩
  · rw [if_neg (fun q => d ((lc_eq _ _).mpr q))] at h
    rw [e, e2]; exact h
  · rw [if_pos ((lc_eq _ _).mp d)] at h
    rw [e, e2]; exact h
theorem c_X9_intoTable (l : Launch) (dC : Nat → ClassId) (dI : Nat → Nat → Nat) (cI cJ cS : ClassId) (a : Nat → Nat) (u : zTree) (x1 : Int64) (Q : zTree → Prop) (hf : s_X9_intoTable u x1 Q) : ∀ sz : Nat, Met l yX9_intoTable (Cond.code yX9_intoTable cX9_intoTable 4 none :: zT) rm_X9_intoTable (zPm dC dI cI cJ cS (cl_X9 cI cJ a u) [.ref (a 0), .long x1] sz) (va_Qv Q (zB dC dI cI cJ cS (va_A (cl_X9 cI cJ a u) sz) (fun z => cl_X9 cI cJ a z)) (va_A (cl_X9 cI cJ a u) sz)) 0 0 (va_A (cl_X9 cI cJ a u) sz) := L_X9_intoTable l dC dI cI cJ cS a u x1 Q (st_X9_intoTable hf)

def t_X9_clearLevel_e (u : zTree) (x1 : Int32) (K13 : Int32 → zTree → Prop) (Q : zTree → Prop) : Prop := ((x1 < 0 → Q u) ∧ (¬ x1 < 0 → ((x1 < (6 : Int32) → K13 (0 : Int32) u) ∧ (¬ x1 < (6 : Int32) → Q u))))
def t_X9_clearLevel_13 (x1 : Int32) (y2 : Int32) (z : zTree) (K13 : Int32 → zTree → Prop) (Q : zTree → Prop) : Prop := (((64 : Int32) ≤ y2 → vp_in x1 6 ∧ ∀ f_5 : Nat → Int32, f_5 = upd z.2.1 x1.toNatClampNeg (0 : Int32) → Q (z.1, f_5, z.2.2)) ∧ (¬ (64 : Int32) ≤ y2 → vp_in ((x1 * (64 : Int32)) + y2) 384 ∧ ∀ f_6 : Nat → Int64, f_6 = vp_updL z.1 ((x1 * (64 : Int32)) + y2).toNatClampNeg (0 : Int64) → ∀ x_7 : Int32, x_7 = y2 + (1 : Int32) → K13 x_7 (f_6, z.2.1, z.2.2)))
theorem zc_X9_clearLevel : zCalV RX9 yX9_clearLevel cX9_clearLevel 3 none 1 := ⟨q_im_X9_clearLevel, q_se_X9_clearLevel, q_in_X9, q_cd_X9_clearLevel, ⟨by decide, by decide, by decide +kernel⟩, rfl⟩
abbrev rm_X9_clearLevel : Room := { frames := 0, cells := 0, slots := 0, locals := 0 }
def v_X9_clearLevel (u : zTree) (x1 : Int32) (Q : zTree → Prop) : Prop := ∃ I13 : Nat → Int32 → zTree → Prop, (∀ (n : Nat) (y2 : Int32) (z : zTree), I13 n y2 z → t_X9_clearLevel_13 x1 y2 z (fun q0 q1 => ∃ k : Nat, k < n ∧ I13 k q0 q1) Q) ∧ t_X9_clearLevel_e u x1 (fun q0 q1 => ∃ k : Nat, I13 k q0 q1) Q
set_option maxHeartbeats 4000000 in
set_option maxRecDepth 100000 in
theorem L_X9_clearLevel (l : Launch) (dC : Nat → ClassId) (dI : Nat → Nat → Nat) (cI cJ cS : ClassId) (a : Nat → Nat) (u : zTree) (x1 : Int32) (Q : zTree → Prop) (I13 : Nat → Int32 → zTree → Prop) (h13 : ∀ (n : Nat) (y2 : Int32) (z : zTree), I13 n y2 z → t_X9_clearLevel_13 x1 y2 z (fun q0 q1 => ∃ k : Nat, k < n ∧ I13 k q0 q1) Q) (hf : t_X9_clearLevel_e u x1 (fun q0 q1 => ∃ k : Nat, I13 k q0 q1) Q) : ∀ sz : Nat, Met l yX9_clearLevel (Cond.code yX9_clearLevel cX9_clearLevel 3 none :: zT) rm_X9_clearLevel (zPm dC dI cI cJ cS (cl_X9 cI cJ a u) [.ref (a 0), .int x1] sz) (va_Qv Q (zB dC dI cI cJ cS (va_A (cl_X9 cI cJ a u) sz) (fun z => cl_X9 cI cJ a z)) (va_A (cl_X9 cI cJ a u) sz)) 0 0 (va_A (cl_X9 cI cJ a u) sz) := by
  intro sz
  refine z_enterM (Qc := fun A => va_Qv Q (zB dC dI cI cJ cS A (fun z => cl_X9 cI cJ a z)) A) (cc := cX9_clearLevel) (maxL := 3) (ret := none) (by decide) (Nat.le_of_ble_eq_true rfl) ?_
  intro p e s m below meth c ls A X hP hD hS hA hl
  obtain ⟨⟨hx, hb, hml, hown, hts⟩, hr, hlk, hK⟩ := id X
  have hl : lv_has ls 3 [(0, .ref (a 0)), (1, .int x1)] := hl
  have LP : ∀ n : Nat, (∀ (y2 : Int32) (z : zTree) (H : Heap) (locs : List Loc) (ls : Array Slot), I13 n y2 z → va_P (dC, dI) vwCl (cl_X9 cI cJ a z) H → va_D A (cl_X9 cI cJ a z) → va_S A s.heap H locs → lv_has ls 3 [(0, .ref (a 0)), (1, .int x1), (2, .int y2)] → W p l e rm_X9_clearLevel s m [.ref (a 0), .int x1].toArray below meth c H locs 0 0 (MQ below (va_Qv Q (zB dC dI cI cJ cS A (fun z => cl_X9 cI cJ a z)) A) [.ref (a 0), .int x1].toArray s 0 0 A) (F0 m 13 ls [])) := by
    intro n
    induction n using Nat.strongRecOn with
    | _ n ih =>
      intro y2 z H locs ls hI hP hD hS hl
      have hf := h13 n y2 z hI
      unfold t_X9_clearLevel_13 at hf
      refine lv_iload_n hx hb dX9_clearLevel_13 rfl (lv_at hl 2 rfl) ?_
      refine lv_bipush (v := 64) hx hb dX9_clearLevel_14 (by decide) ?_
      refine lv_icmp_ge (tgt := 37) hx hb dX9_clearLevel_16 (by decide) (fun c_4 => ?_) (fun c_4 => ?_)
      · have hf := hf.1 c_4
        refine lv_aload_n hx hb dX9_clearLevel_37 rfl (lv_at hl 0 rfl) ?_
        refine va_get (D := (dC, dI)) (ci := 8) (v := .ref (a 2)) (C := RX9) (T := TX9) (N := 3) hx hb hts inX9 hown hK hP 0 rfl rfl 1 (by decide) (hts _ q_fl_X9_15) (fun _ h9 => h9) rfl dX9_clearLevel_38 ?_
        refine lv_iload_n hx hb dX9_clearLevel_41 rfl (lv_at hl 1 rfl) ?_
        refine lv_iconst (v := 0) hx hb dX9_clearLevel_42 (by decide) ?_
        obtain ⟨hg, hf⟩ := hf
        refine z_iast (Wn := fun f_5 => cl_X9 cI cJ a (z.1, f_5, z.2.2)) X hP hD hS 2 0 rfl rfl hg (fun _ => rfl) dX9_clearLevel_43 (fun f_5 H locs ef_5 hP hD hS => ?_)
        have hf := hf f_5 ef_5
        exact z_retMv (Wf := (fun z => cl_X9 cI cJ a z)) (u := (z.1, f_5, z.2.2)) X hf hP hD hS dX9_clearLevel_44
      · have hf := hf.2 c_4
        refine lv_aload_n hx hb dX9_clearLevel_19 rfl (lv_at hl 0 rfl) ?_
        refine va_get (D := (dC, dI)) (ci := 8) (v := .ref (a 1)) (C := RX9) (T := TX9) (N := 3) hx hb hts inX9 hown hK hP 0 rfl rfl 0 (by decide) (hts _ q_fl_X9_9) (fun _ h9 => h9) rfl dX9_clearLevel_20 ?_
        refine lv_iload_n hx hb dX9_clearLevel_23 rfl (lv_at hl 1 rfl) ?_
        refine lv_bipush (v := 64) hx hb dX9_clearLevel_24 (by decide) ?_
        refine lv_imul hx hb dX9_clearLevel_26 ?_
        refine lv_iload_n hx hb dX9_clearLevel_27 rfl (lv_at hl 2 rfl) ?_
        refine lv_iadd hx hb dX9_clearLevel_28 ?_
        refine lv_lconst (v := 0) hx hb dX9_clearLevel_29 (by decide) ?_
        obtain ⟨hg, hf⟩ := hf
        refine z_last (Wn := fun f_6 => cl_X9 cI cJ a (f_6, z.2.1, z.2.2)) X hP hD hS 1 1 rfl rfl hg (fun _ => rfl) dX9_clearLevel_30 (fun f_6 H locs ef_6 hP hD hS => ?_)
        have hf := hf f_6 ef_6
        obtain ⟨x_7, ex_7⟩ : ∃ y : Int32, y = y2 + (1 : Int32) := ⟨_, rfl⟩
        have hf := hf x_7 ex_7
        refine lv_iinc (v := x_7) (lv' := [(2, .int x_7), (0, .ref (a 0)), (1, .int x1)]) hx hb dX9_clearLevel_31 hl (k := 2) rfl (by rw [ex_7]; rfl) (by decide) rfl (fun ls hl => ?_)
        refine lv_goto (tgt := 13) hx hb dX9_clearLevel_34 (by decide) ?_
        obtain ⟨k_8, hk_8, hf⟩ := hf
        exact (ih k_8 hk_8) _ (f_6, z.2.1, z.2.2) _ _ ls hf hP hD hS (lv_sub hl [1, 2, 0] rfl)
  unfold t_X9_clearLevel_e at hf
  refine lv_iload_n hx hb dX9_clearLevel_0 rfl (lv_at hl 1 rfl) ?_
  refine lv_if_lt (tgt := 10) hx hb dX9_clearLevel_1 (by decide) (fun c_1 => ?_) (fun c_1 => ?_)
  · have hf := hf.1 c_1
    exact z_retMv (Wf := (fun z => cl_X9 cI cJ a z)) (u := u) X hf hP hD hS dX9_clearLevel_10
  · have hf := hf.2 c_1
    refine lv_iload_n hx hb dX9_clearLevel_4 rfl (lv_at hl 1 rfl) ?_
    refine lv_bipush (v := 6) hx hb dX9_clearLevel_5 (by decide) ?_
    refine lv_icmp_lt (tgt := 11) hx hb dX9_clearLevel_7 (by decide) (fun c_2 => ?_) (fun c_2 => ?_)
    · have hf := hf.1 c_2
      refine lv_iconst (v := 0) hx hb dX9_clearLevel_11 (by decide) ?_
      refine lv_istore_n (lv' := [(2, .int (0 : Int32)), (0, .ref (a 0)), (1, .int x1)]) hx hb dX9_clearLevel_12 rfl hl (by decide) rfl (fun ls hl => ?_)
      obtain ⟨k_3, hf⟩ := hf
      exact (LP k_3) _ u _ _ ls hf hP hD hS (lv_sub hl [1, 2, 0] rfl)
    · have hf := hf.2 c_2
      exact z_retMv (Wf := (fun z => cl_X9 cI cJ a z)) (u := u) X hf hP hD hS dX9_clearLevel_10
/-- a level's first i keys emptied -/
def zWipe (f : Nat → Int64) (l i : Nat) : Nat → Int64 := fun j => if 64 * l ≤ j ∧ j < 64 * l + i then 0 else f j
theorem zWipe_0 (f : Nat → Int64) (l : Nat) : zWipe f l 0 = f := funext fun j => if_neg (by omega)
theorem zWipe_s (f : Nat → Int64) (l i : Nat) : vp_updL (zWipe f l i) (64 * l + i) 0 = zWipe f l (i + 1) := by
  funext j
  unfold vp_updL zWipe
  by_cases h : j = 64 * l + i
  · rw [if_pos h, if_pos (by omega)]
  · rw [if_neg h]
    by_cases h2 : 64 * l ≤ j ∧ j < 64 * l + i
    · rw [if_pos h2, if_pos (by omega)]
    · rw [if_neg h2, if_neg (by omega)]
def s_X9_clearLevel (u : zTree) (x1 : Int32) (Q : zTree → Prop) : Prop := ∃ l : Nat, l < 6 ∧ x1 = nI l ∧ Q (zWipe u.1 l 64, upd u.2.1 l 0, u.2.2)
theorem st_X9_clearLevel {u : zTree} {x1 : Int32} {Q : zTree → Prop} (h : s_X9_clearLevel u x1 Q) : v_X9_clearLevel u x1 Q := by
  obtain ⟨l, hl, rfl, h⟩ := h
  refine zlp2 (T := fun y z K => t_X9_clearLevel_13 (nI l) y z K Q) (E := fun K => t_X9_clearLevel_e u (nI l) K Q) 64 (fun i => nI i) (fun i => (zWipe u.1 l i, u.2.1, u.2.2)) (fun K hK => ?_) ?_ ?_
  · refine ⟨fun c => absurd c (nI_pos (by omega)), fun _ => ⟨fun _ => ?_, fun c => absurd (nI_lt hl (by decide)) c⟩⟩
    have hK : K (nI 0) (zWipe u.1 l 0, u.2.1, u.2.2) := hK
    rw [zWipe_0] at hK
    exact hK
  · intro i hi K hK
    refine ⟨fun c => absurd c (ge64 (by omega)), fun _ => ?_⟩
    rw [n_lit64, n_mul, nI_add, nI_clamp (by omega), Nat.mul_comm l 64]
    refine ⟨vp_in_nI (by omega) (by decide), fun f e x e' => ?_⟩
    rw [e, e', nI_1, zWipe_s]; exact hK
  · intro K
    refine ⟨fun _ => ⟨vp_in_nI hl (by decide), fun f e => ?_⟩, fun c => absurd (nI_le (Nat.le_refl 64) (by decide)) c⟩
    rw [e, nI_clamp (by omega)]; exact h
theorem c_X9_clearLevel (l : Launch) (dC : Nat → ClassId) (dI : Nat → Nat → Nat) (cI cJ cS : ClassId) (a : Nat → Nat) (u : zTree) (x1 : Int32) (Q : zTree → Prop) (hf : s_X9_clearLevel u x1 Q) : ∀ sz : Nat, Met l yX9_clearLevel (Cond.code yX9_clearLevel cX9_clearLevel 3 none :: zT) rm_X9_clearLevel (zPm dC dI cI cJ cS (cl_X9 cI cJ a u) [.ref (a 0), .int x1] sz) (va_Qv Q (zB dC dI cI cJ cS (va_A (cl_X9 cI cJ a u) sz) (fun z => cl_X9 cI cJ a z)) (va_A (cl_X9 cI cJ a u) sz)) 0 0 (va_A (cl_X9 cI cJ a u) sz) := by
  obtain ⟨I13, h13, hf⟩ := st_X9_clearLevel hf
  exact L_X9_clearLevel l dC dI cI cJ cS a u x1 Q I13 h13 hf

def t_X9_clear_e (u : zTree) (K2 : Int32 → zTree → Prop) (Q : zTree → Prop) : Prop := K2 (0 : Int32) u
def t_X9_clear_2 (y1 : Int32) (z : zTree) (K2 : Int32 → zTree → Prop) (Q : zTree → Prop) : Prop := (((6 : Int32) ≤ y1 → Q (z.1, z.2.1, (0 : Int32))) ∧ (¬ (6 : Int32) ≤ y1 → s_X9_clearLevel z y1 (fun (u_4 : zTree) => ∀ x_5 : Int32, x_5 = y1 + (1 : Int32) → K2 x_5 u_4)))
theorem zc_X9_clear : zCalV RX9 yX9_clear cX9_clear 2 none 0 := ⟨q_im_X9_clear, q_se_X9_clear, q_in_X9, q_cd_X9_clear, ⟨by decide, by decide, by decide +kernel⟩, rfl⟩
abbrev rm_X9_clear : Room := { frames := 1, cells := 0, slots := 0, locals := 22 }
def v_X9_clear (u : zTree) (Q : zTree → Prop) : Prop := ∃ I2 : Nat → Int32 → zTree → Prop, (∀ (n : Nat) (y1 : Int32) (z : zTree), I2 n y1 z → t_X9_clear_2 y1 z (fun q0 q1 => ∃ k : Nat, k < n ∧ I2 k q0 q1) Q) ∧ t_X9_clear_e u (fun q0 q1 => ∃ k : Nat, I2 k q0 q1) Q
set_option maxHeartbeats 4000000 in
set_option maxRecDepth 100000 in
theorem L_X9_clear (l : Launch) (dC : Nat → ClassId) (dI : Nat → Nat → Nat) (cI cJ cS : ClassId) (a : Nat → Nat) (u : zTree) (Q : zTree → Prop) (I2 : Nat → Int32 → zTree → Prop) (h2 : ∀ (n : Nat) (y1 : Int32) (z : zTree), I2 n y1 z → t_X9_clear_2 y1 z (fun q0 q1 => ∃ k : Nat, k < n ∧ I2 k q0 q1) Q) (hf : t_X9_clear_e u (fun q0 q1 => ∃ k : Nat, I2 k q0 q1) Q) : ∀ sz : Nat, Met l yX9_clear (Cond.code yX9_clear cX9_clear 2 none :: zT) rm_X9_clear (zPm dC dI cI cJ cS (cl_X9 cI cJ a u) [.ref (a 0)] sz) (va_Qv Q (zB dC dI cI cJ cS (va_A (cl_X9 cI cJ a u) sz) (fun z => cl_X9 cI cJ a z)) (va_A (cl_X9 cI cJ a u) sz)) 0 0 (va_A (cl_X9 cI cJ a u) sz) := by
  intro sz
  refine z_enterM (Qc := fun A => va_Qv Q (zB dC dI cI cJ cS A (fun z => cl_X9 cI cJ a z)) A) (cc := cX9_clear) (maxL := 2) (ret := none) (by decide) (Nat.le_of_ble_eq_true rfl) ?_
  intro p e s m below meth c ls A X hP hD hS hA hl
  obtain ⟨⟨hx, hb, hml, hown, hts⟩, hr, hlk, hK⟩ := id X
  have hl : lv_has ls 2 [(0, .ref (a 0))] := hl
  have LP : ∀ n : Nat, (∀ (y1 : Int32) (z : zTree) (H : Heap) (locs : List Loc) (ls : Array Slot), I2 n y1 z → va_P (dC, dI) vwCl (cl_X9 cI cJ a z) H → va_D A (cl_X9 cI cJ a z) → va_S A s.heap H locs → lv_has ls 2 [(0, .ref (a 0)), (1, .int y1)] → W p l e rm_X9_clear s m [.ref (a 0)].toArray below meth c H locs 0 0 (MQ below (va_Qv Q (zB dC dI cI cJ cS A (fun z => cl_X9 cI cJ a z)) A) [.ref (a 0)].toArray s 0 0 A) (F0 m 2 ls [])) := by
    intro n
    induction n using Nat.strongRecOn with
    | _ n ih =>
      intro y1 z H locs ls hI hP hD hS hl
      have hf := h2 n y1 z hI
      unfold t_X9_clear_2 at hf
      refine lv_iload_n hx hb dX9_clear_2 rfl (lv_at hl 1 rfl) ?_
      refine lv_bipush (v := 6) hx hb dX9_clear_3 (by decide) ?_
      refine lv_icmp_ge (tgt := 19) hx hb dX9_clear_5 (by decide) (fun c_2 => ?_) (fun c_2 => ?_)
      · have hf := hf.1 c_2
        refine lv_aload_n hx hb dX9_clear_19 rfl (lv_at hl 0 rfl) ?_
        refine lv_iconst (v := 0) hx hb dX9_clear_20 (by decide) ?_
        refine z_put (w' := cl_X9 cI cJ a (z.1, z.2.1, (0 : Int32))) (ci := 8) (v := .int (0 : Int32)) (ty := .int) (Cn := RX9) (T := TX9) (N := 3) X inX9 tyX9 tyX9_ok nmX9 hP hD hS 0 rfl rfl 2 (by decide) (hts _ q_fl_X9_25) (fun _ h9 => h9) rfl (tyX9_ok 2 (by decide)) rfl rfl (Nat.le_of_ble_eq_true rfl) rfl dX9_clear_21 (fun H locs hP hD hS => ?_)
        exact z_retMv (Wf := (fun z => cl_X9 cI cJ a z)) (u := (z.1, z.2.1, (0 : Int32))) X hf hP hD hS dX9_clear_24
      · have hf := hf.2 c_2
        refine lv_aload_n hx hb dX9_clear_8 rfl (lv_at hl 0 rfl) ?_
        refine lv_iload_n hx hb dX9_clear_9 rfl (lv_at hl 1 rfl) ?_
        refine z_mVv (Wn := (fun u_4 => cl_X9 cI cJ a u_4)) (As := [.int y1]) (rest := []) (wr := []) X (c_X9_clearLevel l dC dI cI cJ cS a z y1 _ hf _) zc_X9_clearLevel q_ml_X9_29 ⟨rfl, rfl⟩ ⟨Nat.le_of_ble_eq_true rfl, Nat.le_of_ble_eq_true rfl⟩ hP hD hS hA [0, 1, 2] [] rfl (by decide) rfl (by decide) (by decide) [0, 1, 2] (by decide) (fun _ => rfl) 8 rfl rfl hl.1 rfl rfl (Nat.le_of_ble_eq_true rfl) ⟨Nat.zero_le _, Nat.zero_le _⟩ dX9_clear_10 (fun u_4 H locs hf hP hD hS => ?_)
        obtain ⟨x_5, ex_5⟩ : ∃ y : Int32, y = y1 + (1 : Int32) := ⟨_, rfl⟩
        have hf := hf x_5 ex_5
        refine lv_iinc (v := x_5) (lv' := [(1, .int x_5), (0, .ref (a 0))]) hx hb dX9_clear_13 hl (k := 1) rfl (by rw [ex_5]; rfl) (by decide) rfl (fun ls hl => ?_)
        refine lv_goto (tgt := 2) hx hb dX9_clear_16 (by decide) ?_
        obtain ⟨k_6, hk_6, hf⟩ := hf
        exact (ih k_6 hk_6) _ u_4 _ _ ls hf hP hD hS (lv_sub hl [1, 0] rfl)
  unfold t_X9_clear_e at hf
  refine lv_iconst (v := 0) hx hb dX9_clear_0 (by decide) ?_
  refine lv_istore_n (lv' := [(1, .int (0 : Int32)), (0, .ref (a 0))]) hx hb dX9_clear_1 rfl hl (by decide) rfl (fun ls hl => ?_)
  obtain ⟨k_1, hf⟩ := hf
  exact (LP k_1) _ u _ _ ls hf hP hD hS (lv_sub hl [1, 0] rfl)
/-- the tree with its first i levels emptied -/
def zWipes (f : Nat → Int64) (i : Nat) : Nat → Int64 := fun j => if j < 64 * i then 0 else f j
theorem zWipes_s (f : Nat → Int64) (i : Nat) : zWipe (zWipes f i) i 64 = zWipes f (i + 1) := by
  funext j
  unfold zWipe zWipes
  by_cases h : 64 * i ≤ j ∧ j < 64 * i + 64
  · rw [if_pos h, if_pos (by omega)]
  · rw [if_neg h]
    by_cases h2 : j < 64 * i
    · rw [if_pos h2, if_pos (by omega)]
    · rw [if_neg h2, if_neg (by omega)]
def s_X9_clear (u : zTree) (Q : zTree → Prop) : Prop := Q (zWipes u.1 6, fa_fill (fun _ => 0) u.2.1 6, 0)
theorem st_X9_clear {u : zTree} {Q : zTree → Prop} (h : s_X9_clear u Q) : v_X9_clear u Q := by
  refine zlp2 (T := fun y z K => t_X9_clear_2 y z K Q) (E := fun K => t_X9_clear_e u K Q) 6 (fun i => nI i) (fun i => (zWipes u.1 i, fa_fill (fun _ => 0) u.2.1 i, u.2.2)) (fun K hK => ?_) ?_ ?_
  · have hK : K (nI 0) (zWipes u.1 0, fa_fill (fun _ => 0) u.2.1 0, u.2.2) := hK
    rw [fa_fill_0, show zWipes u.1 0 = u.1 from funext fun j => if_neg (by omega)] at hK
    exact hK
  · intro i hi K hK
    refine ⟨fun c => absurd c (ge6 (by omega)), fun _ => ⟨i, hi, rfl, fun x e => ?_⟩⟩
    rw [e, nI_1, zWipes_s, fa_fill_succ (fun _ => 0) u.2.1 i]; exact hK
  · intro K
    exact ⟨fun _ => h, fun c => absurd (nI_le (Nat.le_refl 6) (by decide)) c⟩
theorem c_X9_clear (l : Launch) (dC : Nat → ClassId) (dI : Nat → Nat → Nat) (cI cJ cS : ClassId) (a : Nat → Nat) (u : zTree) (Q : zTree → Prop) (hf : s_X9_clear u Q) : ∀ sz : Nat, Met l yX9_clear (Cond.code yX9_clear cX9_clear 2 none :: zT) rm_X9_clear (zPm dC dI cI cJ cS (cl_X9 cI cJ a u) [.ref (a 0)] sz) (va_Qv Q (zB dC dI cI cJ cS (va_A (cl_X9 cI cJ a u) sz) (fun z => cl_X9 cI cJ a z)) (va_A (cl_X9 cI cJ a u) sz)) 0 0 (va_A (cl_X9 cI cJ a u) sz) := by
  obtain ⟨I2, h2, hf⟩ := st_X9_clear hf
  exact L_X9_clear l dC dI cI cJ cS a u Q I2 h2 hf

def t_X9_tableToRun (u : zTree) (Q : zTree → Prop) : Prop := ((u.2.2 < 0 → Q u) ∧ (¬ u.2.2 < 0 → (((u.2.2 + (1 : Int32)) < (6 : Int32) → (¬ (0 : Int32) < 0 ∧ ¬ (64 : Int32) < 0 ∧ ¬ ((u.2.2 + (1 : Int32)) * (64 : Int32)) < 0 ∧ (0 : Int32).toNatClampNeg + ((u.2.2 + (1 : Int32)) * (64 : Int32)).toNatClampNeg ≤ 384 ∧ (64 : Int32).toNatClampNeg + ((u.2.2 + (1 : Int32)) * (64 : Int32)).toNatClampNeg ≤ 384) ∧ ∃ f_3 : Nat → Int64, (∀ k : Nat, k < 384 → f_3 k = va_cpy u.1 u.1 (0 : Int32).toNatClampNeg (64 : Int32).toNatClampNeg ((u.2.2 + (1 : Int32)) * (64 : Int32)).toNatClampNeg k) ∧ (¬ (0 : Int32) < 0 ∧ ¬ (1 : Int32) < 0 ∧ ¬ (u.2.2 + (1 : Int32)) < 0 ∧ (0 : Int32).toNatClampNeg + (u.2.2 + (1 : Int32)).toNatClampNeg ≤ 6 ∧ (1 : Int32).toNatClampNeg + (u.2.2 + (1 : Int32)).toNatClampNeg ≤ 6) ∧ ∃ f_4 : Nat → Int32, (∀ k : Nat, k < 6 → f_4 k = va_cpy u.2.1 u.2.1 (0 : Int32).toNatClampNeg (1 : Int32).toNatClampNeg (u.2.2 + (1 : Int32)).toNatClampNeg k) ∧ s_X9_clearLevel (f_3, f_4, u.2.2) (0 : Int32) (fun (u_6 : zTree) => ∀ x_7 : Int32, x_7 = (u_6.2.2 + (1 : Int32)) → Q (u_6.1, u_6.2.1, x_7))) ∧ (¬ (u.2.2 + (1 : Int32)) < (6 : Int32) → Q u))))
theorem zc_X9_tableToRun : zCalV RX9 yX9_tableToRun cX9_tableToRun 1 none 0 := ⟨q_im_X9_tableToRun, q_se_X9_tableToRun, q_in_X9, q_cd_X9_tableToRun, ⟨by decide, by decide, by decide +kernel⟩, rfl⟩
abbrev rm_X9_tableToRun : Room := { frames := 1, cells := 0, slots := 0, locals := 48 }
set_option maxHeartbeats 4000000 in
set_option maxRecDepth 100000 in
theorem L_X9_tableToRun (l : Launch) (dC : Nat → ClassId) (dI : Nat → Nat → Nat) (cI cJ cS : ClassId) (a : Nat → Nat) (u : zTree) (Q : zTree → Prop) (hf : t_X9_tableToRun u Q) : ∀ sz : Nat, Met l yX9_tableToRun (Cond.code yX9_tableToRun cX9_tableToRun 1 none :: zT) rm_X9_tableToRun (zPm dC dI cI cJ cS (cl_X9 cI cJ a u) [.ref (a 0)] sz) (va_Qv Q (zB dC dI cI cJ cS (va_A (cl_X9 cI cJ a u) sz) (fun z => cl_X9 cI cJ a z)) (va_A (cl_X9 cI cJ a u) sz)) 0 0 (va_A (cl_X9 cI cJ a u) sz) := by
  intro sz
  refine z_enterM (Qc := fun A => va_Qv Q (zB dC dI cI cJ cS A (fun z => cl_X9 cI cJ a z)) A) (cc := cX9_tableToRun) (maxL := 1) (ret := none) (by decide) (Nat.le_of_ble_eq_true rfl) ?_
  intro p e s m below meth c ls A X hP hD hS hA hl
  obtain ⟨⟨hx, hb, hml, hown, hts⟩, hr, hlk, hK⟩ := id X
  have hl : lv_has ls 1 [(0, .ref (a 0))] := hl
  unfold t_X9_tableToRun at hf
  refine lv_aload_n hx hb dX9_tableToRun_0 rfl (lv_at hl 0 rfl) ?_
  refine va_get (D := (dC, dI)) (ci := 8) (v := .int u.2.2) (C := RX9) (T := TX9) (N := 3) hx hb hts inX9 hown hK hP 0 rfl rfl 2 (by decide) (hts _ q_fl_X9_25) (fun _ h9 => h9) rfl dX9_tableToRun_1 ?_
  refine lv_if_lt (tgt := 18) hx hb dX9_tableToRun_4 (by decide) (fun c_1 => ?_) (fun c_1 => ?_)
  · have hf := hf.1 c_1
    exact z_retMv (Wf := (fun z => cl_X9 cI cJ a z)) (u := u) X hf hP hD hS dX9_tableToRun_18
  · have hf := hf.2 c_1
    refine lv_aload_n hx hb dX9_tableToRun_7 rfl (lv_at hl 0 rfl) ?_
    refine va_get (D := (dC, dI)) (ci := 8) (v := .int u.2.2) (C := RX9) (T := TX9) (N := 3) hx hb hts inX9 hown hK hP 0 rfl rfl 2 (by decide) (hts _ q_fl_X9_25) (fun _ h9 => h9) rfl dX9_tableToRun_8 ?_
    refine lv_iconst (v := 1) hx hb dX9_tableToRun_11 (by decide) ?_
    refine lv_iadd hx hb dX9_tableToRun_12 ?_
    refine lv_bipush (v := 6) hx hb dX9_tableToRun_13 (by decide) ?_
    refine lv_icmp_lt (tgt := 19) hx hb dX9_tableToRun_15 (by decide) (fun c_2 => ?_) (fun c_2 => ?_)
    · have hf := hf.1 c_2
      refine lv_aload_n hx hb dX9_tableToRun_19 rfl (lv_at hl 0 rfl) ?_
      refine va_get (D := (dC, dI)) (ci := 8) (v := .ref (a 1)) (C := RX9) (T := TX9) (N := 3) hx hb hts inX9 hown hK hP 0 rfl rfl 0 (by decide) (hts _ q_fl_X9_9) (fun _ h9 => h9) rfl dX9_tableToRun_20 ?_
      refine lv_iconst (v := 0) hx hb dX9_tableToRun_23 (by decide) ?_
      refine lv_aload_n hx hb dX9_tableToRun_24 rfl (lv_at hl 0 rfl) ?_
      refine va_get (D := (dC, dI)) (ci := 8) (v := .ref (a 1)) (C := RX9) (T := TX9) (N := 3) hx hb hts inX9 hown hK hP 0 rfl rfl 0 (by decide) (hts _ q_fl_X9_9) (fun _ h9 => h9) rfl dX9_tableToRun_25 ?_
      refine lv_bipush (v := 64) hx hb dX9_tableToRun_28 (by decide) ?_
      refine lv_aload_n hx hb dX9_tableToRun_30 rfl (lv_at hl 0 rfl) ?_
      refine va_get (D := (dC, dI)) (ci := 8) (v := .int u.2.2) (C := RX9) (T := TX9) (N := 3) hx hb hts inX9 hown hK hP 0 rfl rfl 2 (by decide) (hts _ q_fl_X9_25) (fun _ h9 => h9) rfl dX9_tableToRun_31 ?_
      refine lv_iconst (v := 1) hx hb dX9_tableToRun_34 (by decide) ?_
      refine lv_iadd hx hb dX9_tableToRun_35 ?_
      refine lv_bipush (v := 64) hx hb dX9_tableToRun_36 (by decide) ?_
      refine lv_imul hx hb dX9_tableToRun_38 ?_
      obtain ⟨⟨g1, g2, g3, g4, g5⟩, f_3, ef_3, hf⟩ := hf
      refine z_copyl (Wn := fun f_3 => cl_X9 cI cJ a (f_3, u.2.1, u.2.2)) (idx := 19) X (hts _ q_ml_X9_19) (hts _ q_na_copy) (hts _ q_st_copy) (hts _ q_in_System) hl.1 hP hD hS 1 1 rfl rfl g1 g2 g3 g4 g5 (Nat.le_of_ble_eq_true rfl) (Nat.le_of_ble_eq_true rfl) (fun _ => rfl) f_3 ef_3 dX9_tableToRun_39 (fun H locs hP hD hS => ?_)
      refine lv_aload_n hx hb dX9_tableToRun_42 rfl (lv_at hl 0 rfl) ?_
      refine va_get (D := (dC, dI)) (ci := 8) (v := .ref (a 2)) (C := RX9) (T := TX9) (N := 3) hx hb hts inX9 hown hK hP 0 rfl rfl 1 (by decide) (hts _ q_fl_X9_15) (fun _ h9 => h9) rfl dX9_tableToRun_43 ?_
      refine lv_iconst (v := 0) hx hb dX9_tableToRun_46 (by decide) ?_
      refine lv_aload_n hx hb dX9_tableToRun_47 rfl (lv_at hl 0 rfl) ?_
      refine va_get (D := (dC, dI)) (ci := 8) (v := .ref (a 2)) (C := RX9) (T := TX9) (N := 3) hx hb hts inX9 hown hK hP 0 rfl rfl 1 (by decide) (hts _ q_fl_X9_15) (fun _ h9 => h9) rfl dX9_tableToRun_48 ?_
      refine lv_iconst (v := 1) hx hb dX9_tableToRun_51 (by decide) ?_
      refine lv_aload_n hx hb dX9_tableToRun_52 rfl (lv_at hl 0 rfl) ?_
      refine va_get (D := (dC, dI)) (ci := 8) (v := .int u.2.2) (C := RX9) (T := TX9) (N := 3) hx hb hts inX9 hown hK hP 0 rfl rfl 2 (by decide) (hts _ q_fl_X9_25) (fun _ h9 => h9) rfl dX9_tableToRun_53 ?_
      refine lv_iconst (v := 1) hx hb dX9_tableToRun_56 (by decide) ?_
      refine lv_iadd hx hb dX9_tableToRun_57 ?_
      obtain ⟨⟨g1, g2, g3, g4, g5⟩, f_4, ef_4, hf⟩ := hf
      refine z_copyi (Wn := fun f_4 => cl_X9 cI cJ a (f_3, f_4, u.2.2)) (idx := 19) X (hts _ q_ml_X9_19) (hts _ q_na_copy) (hts _ q_st_copy) (hts _ q_in_System) hl.1 hP hD hS 2 2 rfl rfl g1 g2 g3 g4 g5 (Nat.le_of_ble_eq_true rfl) (Nat.le_of_ble_eq_true rfl) (fun _ => rfl) f_4 ef_4 dX9_tableToRun_58 (fun H locs hP hD hS => ?_)
      refine lv_aload_n hx hb dX9_tableToRun_61 rfl (lv_at hl 0 rfl) ?_
      refine lv_iconst (v := 0) hx hb dX9_tableToRun_62 (by decide) ?_
      refine z_mVv (Wn := (fun u_6 => cl_X9 cI cJ a u_6)) (As := [.int (0 : Int32)]) (rest := []) (wr := []) X (c_X9_clearLevel l dC dI cI cJ cS a (f_3, f_4, u.2.2) (0 : Int32) _ hf _) zc_X9_clearLevel q_ml_X9_29 ⟨rfl, rfl⟩ ⟨Nat.le_of_ble_eq_true rfl, Nat.le_of_ble_eq_true rfl⟩ hP hD hS hA [0, 1, 2] [] rfl (by decide) rfl (by decide) (by decide) [0, 1, 2] (by decide) (fun _ => rfl) 8 rfl rfl hl.1 rfl rfl (Nat.le_of_ble_eq_true rfl) ⟨Nat.zero_le _, Nat.zero_le _⟩ dX9_tableToRun_63 (fun u_6 H locs hf hP hD hS => ?_)
      refine lv_aload_n hx hb dX9_tableToRun_66 rfl (lv_at hl 0 rfl) ?_
      refine lv_dup hx hb dX9_tableToRun_67 rfl ?_
      refine va_get (D := (dC, dI)) (ci := 8) (v := .int u_6.2.2) (C := RX9) (T := TX9) (N := 3) hx hb hts inX9 hown hK hP 0 rfl rfl 2 (by decide) (hts _ q_fl_X9_25) (fun _ h9 => h9) rfl dX9_tableToRun_68 ?_
      refine lv_iconst (v := 1) hx hb dX9_tableToRun_71 (by decide) ?_
      refine lv_iadd hx hb dX9_tableToRun_72 ?_
      refine lv_topi (fun x_7 ex_7 => ?_)
      have hf := hf x_7 ex_7
      refine z_put (w' := cl_X9 cI cJ a (u_6.1, u_6.2.1, x_7)) (ci := 8) (v := .int x_7) (ty := .int) (Cn := RX9) (T := TX9) (N := 3) X inX9 tyX9 tyX9_ok nmX9 hP hD hS 0 rfl rfl 2 (by decide) (hts _ q_fl_X9_25) (fun _ h9 => h9) rfl (tyX9_ok 2 (by decide)) rfl rfl (Nat.le_of_ble_eq_true rfl) rfl dX9_tableToRun_73 (fun H locs hP hD hS => ?_)
      exact z_retMv (Wf := (fun z => cl_X9 cI cJ a z)) (u := (u_6.1, u_6.2.1, x_7)) X hf hP hD hS dX9_tableToRun_76
    · have hf := hf.2 c_2
      exact z_retMv (Wf := (fun z => cl_X9 cI cJ a z)) (u := u) X hf hP hD hS dX9_tableToRun_18
/-- the table becomes the latest run: r runs ahead of it -/
def zShift (u : zTree) (r : Nat) : zTree := (zWipe (va_cpy u.1 u.1 0 64 (64 * (r + 1))) 0 64, upd (va_cpy u.2.1 u.2.1 0 1 (r + 1)) 0 0, nI (r + 1))
def s_X9_tableToRun (u : zTree) (Q : zTree → Prop) : Prop := ∃ r : Nat, r < 5 ∧ u.2.2 = nI r ∧ Q (zShift u r)
theorem st_X9_tableToRun {u : zTree} {Q : zTree → Prop} (h : s_X9_tableToRun u Q) : t_X9_tableToRun u Q := by
  obtain ⟨r, hr, er, h⟩ := h
  unfold t_X9_tableToRun
  rw [er, nI_1, n_c0, n_c1, n_lit64, n_mul, nI_clamp (n := (r + 1) * 64) (by omega), nI_clamp (n := 64) (by decide), nI_clamp (n := r + 1) (by omega), Nat.mul_comm (r + 1) 64]
  refine ⟨fun c => absurd c (nI_pos (by omega)), fun _ => ⟨fun _ => ⟨⟨by decide, nI_pos (by decide), nI_pos (by omega), by omega, by omega⟩, _, fun _ _ => rfl, ⟨by decide, by decide, nI_pos (by omega), by omega, by omega⟩, _, fun _ _ => rfl, 0, by decide, rfl, fun x e3 => ?_⟩, fun c => absurd (lt6 (by omega)) c⟩⟩
  rw [e3, nI_1]; exact h
theorem c_X9_tableToRun (l : Launch) (dC : Nat → ClassId) (dI : Nat → Nat → Nat) (cI cJ cS : ClassId) (a : Nat → Nat) (u : zTree) (Q : zTree → Prop) (hf : s_X9_tableToRun u Q) : ∀ sz : Nat, Met l yX9_tableToRun (Cond.code yX9_tableToRun cX9_tableToRun 1 none :: zT) rm_X9_tableToRun (zPm dC dI cI cJ cS (cl_X9 cI cJ a u) [.ref (a 0)] sz) (va_Qv Q (zB dC dI cI cJ cS (va_A (cl_X9 cI cJ a u) sz) (fun z => cl_X9 cI cJ a z)) (va_A (cl_X9 cI cJ a u) sz)) 0 0 (va_A (cl_X9 cI cJ a u) sz) := L_X9_tableToRun l dC dI cI cJ cS a u Q (st_X9_tableToRun hf)

def t_X9_foldRuns_e (u : zTree) (K4 : Int32 → Int32 → zTree → Prop) (K20 : Int32 → Int32 → Int32 → zTree → Prop) (K94 : Int32 → Int32 → zTree → Prop) (Q : Int32 → zTree → Prop) : Prop := K4 (0 : Int32) (2 : Int32) u
def t_X9_foldRuns_4 (y1 : Int32) (y2 : Int32) (z : zTree) (K4 : Int32 → Int32 → zTree → Prop) (K20 : Int32 → Int32 → Int32 → zTree → Prop) (K94 : Int32 → Int32 → zTree → Prop) (Q : Int32 → zTree → Prop) : Prop := ((z.2.2 < y2 → K94 y1 (64 : Int32) z) ∧ (¬ z.2.2 < y2 → (((6 : Int32) ≤ y2 → K94 y1 (64 : Int32) z) ∧ (¬ (6 : Int32) ≤ y2 → K20 y1 y2 (0 : Int32) z))))
def t_X9_foldRuns_20 (y1 : Int32) (y2 : Int32) (y3 : Int32) (z : zTree) (K4 : Int32 → Int32 → zTree → Prop) (K20 : Int32 → Int32 → Int32 → zTree → Prop) (K94 : Int32 → Int32 → zTree → Prop) (Q : Int32 → zTree → Prop) : Prop := (((64 : Int32) ≤ y3 → vp_in y2 6 ∧ ∀ f_8 : Nat → Int32, f_8 = upd z.2.1 y2.toNatClampNeg (0 : Int32) → ∀ x_9 : Int32, x_9 = y2 + (1 : Int32) → K4 y1 x_9 (z.1, f_8, z.2.2)) ∧ (¬ (64 : Int32) ≤ y3 → vp_in ((64 : Int32) + y3) 384 ∧ ((¬ (lg_cmp (z.1 ((64 : Int32) + y3).toNatClampNeg) (0 : Int64)) = 0 → vp_in ((y2 * (64 : Int32)) + y3) 384 ∧ ∀ f_12 : Nat → Int64, f_12 = vp_updL z.1 ((y2 * (64 : Int32)) + y3).toNatClampNeg (0 : Int64) → ∀ x_13 : Int32, x_13 = y3 + (1 : Int32) → K20 y1 y2 x_13 (f_12, z.2.1, z.2.2)) ∧ ((lg_cmp (z.1 ((64 : Int32) + y3).toNatClampNeg) (0 : Int64)) = 0 → vp_in ((y2 * (64 : Int32)) + y3) 384 ∧ vp_in ((64 : Int32) + y3) 384 ∧ ∀ f_15 : Nat → Int64, f_15 = vp_updL z.1 ((64 : Int32) + y3).toNatClampNeg (z.1 ((y2 * (64 : Int32)) + y3).toNatClampNeg) → vp_in ((y2 * (64 : Int32)) + y3) 384 ∧ ∀ f_16 : Nat → Int64, f_16 = vp_updL f_15 ((y2 * (64 : Int32)) + y3).toNatClampNeg (0 : Int64) → ∀ x_17 : Int32, x_17 = y3 + (1 : Int32) → K20 y1 y2 x_17 (f_16, z.2.1, z.2.2)))))
def t_X9_foldRuns_94 (y1 : Int32) (y2 : Int32) (z : zTree) (K4 : Int32 → Int32 → zTree → Prop) (K20 : Int32 → Int32 → Int32 → zTree → Prop) (K94 : Int32 → Int32 → zTree → Prop) (Q : Int32 → zTree → Prop) : Prop := (((128 : Int32) ≤ y2 → vp_in (1 : Int32) 6 ∧ ∀ f_20 : Nat → Int32, f_20 = upd z.2.1 (1 : Int32).toNatClampNeg y1 → ((¬ y1 = 0 → Q y1 (z.1, f_20, (1 : Int32))) ∧ (y1 = 0 → Q y1 (z.1, f_20, (0 : Int32))))) ∧ (¬ (128 : Int32) ≤ y2 → ((z.2.2 ≤ 0 → vp_in (1 : Int32) 6 ∧ ∀ f_23 : Nat → Int32, f_23 = upd z.2.1 (1 : Int32).toNatClampNeg y1 → ((¬ y1 = 0 → Q y1 (z.1, f_23, (1 : Int32))) ∧ (y1 = 0 → Q y1 (z.1, f_23, (0 : Int32))))) ∧ (¬ z.2.2 ≤ 0 → vp_in y2 384 ∧ ((¬ (lg_cmp ((z.1 y2.toNatClampNeg) &&& (16128 : Int64)) (0 : Int64)) = 0 → ∀ x_26 : Int32, x_26 = y1 + (1 : Int32) → ∀ x_27 : Int32, x_27 = y2 + (1 : Int32) → K94 x_26 x_27 z) ∧ ((lg_cmp ((z.1 y2.toNatClampNeg) &&& (16128 : Int64)) (0 : Int64)) = 0 → vp_in y2 384 ∧ ∀ f_29 : Nat → Int64, f_29 = vp_updL z.1 y2.toNatClampNeg (0 : Int64) → ∀ x_30 : Int32, x_30 = y2 + (1 : Int32) → K94 y1 x_30 (f_29, z.2.1, z.2.2)))))))
theorem zc_X9_foldRuns : zCalV RX9 yX9_foldRuns cX9_foldRuns 4 (some .int) 0 := ⟨q_im_X9_foldRuns, q_se_X9_foldRuns, q_in_X9, q_cd_X9_foldRuns, ⟨by decide, by decide, by decide +kernel⟩, rfl⟩
abbrev rm_X9_foldRuns : Room := { frames := 0, cells := 0, slots := 0, locals := 0 }
def v_X9_foldRuns (u : zTree) (Q : Int32 → zTree → Prop) : Prop := ∃ I4 : Nat → Int32 → Int32 → zTree → Prop, ∃ I20 : Nat → Int32 → Int32 → Int32 → zTree → Prop, ∃ I94 : Nat → Int32 → Int32 → zTree → Prop, (∀ (n : Nat) (y1 : Int32) (y2 : Int32) (z : zTree), I4 n y1 y2 z → t_X9_foldRuns_4 y1 y2 z (fun q0 q1 q2 => ∃ k : Nat, k < n ∧ I4 k q0 q1 q2) (fun q0 q1 q2 q3 => ∃ k : Nat, k < n ∧ I20 k q0 q1 q2 q3) (fun q0 q1 q2 => ∃ k : Nat, k < n ∧ I94 k q0 q1 q2) Q) ∧ (∀ (n : Nat) (y1 : Int32) (y2 : Int32) (y3 : Int32) (z : zTree), I20 n y1 y2 y3 z → t_X9_foldRuns_20 y1 y2 y3 z (fun q0 q1 q2 => ∃ k : Nat, k < n ∧ I4 k q0 q1 q2) (fun q0 q1 q2 q3 => ∃ k : Nat, k < n ∧ I20 k q0 q1 q2 q3) (fun q0 q1 q2 => ∃ k : Nat, k < n ∧ I94 k q0 q1 q2) Q) ∧ (∀ (n : Nat) (y1 : Int32) (y2 : Int32) (z : zTree), I94 n y1 y2 z → t_X9_foldRuns_94 y1 y2 z (fun q0 q1 q2 => ∃ k : Nat, k < n ∧ I4 k q0 q1 q2) (fun q0 q1 q2 q3 => ∃ k : Nat, k < n ∧ I20 k q0 q1 q2 q3) (fun q0 q1 q2 => ∃ k : Nat, k < n ∧ I94 k q0 q1 q2) Q) ∧ t_X9_foldRuns_e u (fun q0 q1 q2 => ∃ k : Nat, I4 k q0 q1 q2) (fun q0 q1 q2 q3 => ∃ k : Nat, I20 k q0 q1 q2 q3) (fun q0 q1 q2 => ∃ k : Nat, I94 k q0 q1 q2) Q
set_option maxHeartbeats 4000000 in
set_option maxRecDepth 100000 in
theorem L_X9_foldRuns (l : Launch) (dC : Nat → ClassId) (dI : Nat → Nat → Nat) (cI cJ cS : ClassId) (a : Nat → Nat) (u : zTree) (Q : Int32 → zTree → Prop) (I4 : Nat → Int32 → Int32 → zTree → Prop) (I20 : Nat → Int32 → Int32 → Int32 → zTree → Prop) (I94 : Nat → Int32 → Int32 → zTree → Prop) (h4 : ∀ (n : Nat) (y1 : Int32) (y2 : Int32) (z : zTree), I4 n y1 y2 z → t_X9_foldRuns_4 y1 y2 z (fun q0 q1 q2 => ∃ k : Nat, k < n ∧ I4 k q0 q1 q2) (fun q0 q1 q2 q3 => ∃ k : Nat, k < n ∧ I20 k q0 q1 q2 q3) (fun q0 q1 q2 => ∃ k : Nat, k < n ∧ I94 k q0 q1 q2) Q) (h20 : ∀ (n : Nat) (y1 : Int32) (y2 : Int32) (y3 : Int32) (z : zTree), I20 n y1 y2 y3 z → t_X9_foldRuns_20 y1 y2 y3 z (fun q0 q1 q2 => ∃ k : Nat, k < n ∧ I4 k q0 q1 q2) (fun q0 q1 q2 q3 => ∃ k : Nat, k < n ∧ I20 k q0 q1 q2 q3) (fun q0 q1 q2 => ∃ k : Nat, k < n ∧ I94 k q0 q1 q2) Q) (h94 : ∀ (n : Nat) (y1 : Int32) (y2 : Int32) (z : zTree), I94 n y1 y2 z → t_X9_foldRuns_94 y1 y2 z (fun q0 q1 q2 => ∃ k : Nat, k < n ∧ I4 k q0 q1 q2) (fun q0 q1 q2 q3 => ∃ k : Nat, k < n ∧ I20 k q0 q1 q2 q3) (fun q0 q1 q2 => ∃ k : Nat, k < n ∧ I94 k q0 q1 q2) Q) (hf : t_X9_foldRuns_e u (fun q0 q1 q2 => ∃ k : Nat, I4 k q0 q1 q2) (fun q0 q1 q2 q3 => ∃ k : Nat, I20 k q0 q1 q2 q3) (fun q0 q1 q2 => ∃ k : Nat, I94 k q0 q1 q2) Q) : ∀ sz : Nat, Met l yX9_foldRuns (Cond.code yX9_foldRuns cX9_foldRuns 4 (some .int) :: zT) rm_X9_foldRuns (zPm dC dI cI cJ cS (cl_X9 cI cJ a u) [.ref (a 0)] sz) (va_Qi Q (zB dC dI cI cJ cS (va_A (cl_X9 cI cJ a u) sz) (fun z => cl_X9 cI cJ a z)) (va_A (cl_X9 cI cJ a u) sz)) 0 0 (va_A (cl_X9 cI cJ a u) sz) := by
  intro sz
  refine z_enterM (Qc := fun A => va_Qi Q (zB dC dI cI cJ cS A (fun z => cl_X9 cI cJ a z)) A) (cc := cX9_foldRuns) (maxL := 4) (ret := (some .int)) (by decide) (Nat.le_of_ble_eq_true rfl) ?_
  intro p e s m below meth c ls A X hP hD hS hA hl
  obtain ⟨⟨hx, hb, hml, hown, hts⟩, hr, hlk, hK⟩ := id X
  have hl : lv_has ls 4 [(0, .ref (a 0))] := hl
  have LP : ∀ n : Nat, (∀ (y1 : Int32) (y2 : Int32) (z : zTree) (H : Heap) (locs : List Loc) (ls : Array Slot), I4 n y1 y2 z → va_P (dC, dI) vwCl (cl_X9 cI cJ a z) H → va_D A (cl_X9 cI cJ a z) → va_S A s.heap H locs → lv_has ls 4 [(0, .ref (a 0)), (1, .int y1), (2, .int y2)] → W p l e rm_X9_foldRuns s m [.ref (a 0)].toArray below meth c H locs 0 0 (MQ below (va_Qi Q (zB dC dI cI cJ cS A (fun z => cl_X9 cI cJ a z)) A) [.ref (a 0)].toArray s 0 0 A) (F0 m 4 ls [])) ∧ (∀ (y1 : Int32) (y2 : Int32) (y3 : Int32) (z : zTree) (H : Heap) (locs : List Loc) (ls : Array Slot), I20 n y1 y2 y3 z → va_P (dC, dI) vwCl (cl_X9 cI cJ a z) H → va_D A (cl_X9 cI cJ a z) → va_S A s.heap H locs → lv_has ls 4 [(0, .ref (a 0)), (1, .int y1), (2, .int y2), (3, .int y3)] → W p l e rm_X9_foldRuns s m [.ref (a 0)].toArray below meth c H locs 0 0 (MQ below (va_Qi Q (zB dC dI cI cJ cS A (fun z => cl_X9 cI cJ a z)) A) [.ref (a 0)].toArray s 0 0 A) (F0 m 20 ls [])) ∧ (∀ (y1 : Int32) (y2 : Int32) (z : zTree) (H : Heap) (locs : List Loc) (ls : Array Slot), I94 n y1 y2 z → va_P (dC, dI) vwCl (cl_X9 cI cJ a z) H → va_D A (cl_X9 cI cJ a z) → va_S A s.heap H locs → lv_has ls 4 [(0, .ref (a 0)), (1, .int y1), (2, .int y2)] → W p l e rm_X9_foldRuns s m [.ref (a 0)].toArray below meth c H locs 0 0 (MQ below (va_Qi Q (zB dC dI cI cJ cS A (fun z => cl_X9 cI cJ a z)) A) [.ref (a 0)].toArray s 0 0 A) (F0 m 94 ls [])) := by
    intro n
    induction n using Nat.strongRecOn with
    | _ n ih =>
      refine ⟨?_, ?_, ?_⟩
      · intro y1 y2 z H locs ls hI hP hD hS hl
        have hf := h4 n y1 y2 z hI
        unfold t_X9_foldRuns_4 at hf
        refine lv_iload_n hx hb dX9_foldRuns_4 rfl (lv_at hl 2 rfl) ?_
        refine lv_aload_n hx hb dX9_foldRuns_5 rfl (lv_at hl 0 rfl) ?_
        refine va_get (D := (dC, dI)) (ci := 8) (v := .int z.2.2) (C := RX9) (T := TX9) (N := 3) hx hb hts inX9 hown hK hP 0 rfl rfl 2 (by decide) (hts _ q_fl_X9_25) (fun _ h9 => h9) rfl dX9_foldRuns_6 ?_
        refine lv_icmp_gt (tgt := 91) hx hb dX9_foldRuns_9 (by decide) (fun c_2 => ?_) (fun c_2 => ?_)
        · have hf := hf.1 c_2
          refine lv_bipush (v := 64) hx hb dX9_foldRuns_91 (by decide) ?_
          refine lv_istore_n (lv' := [(2, .int (64 : Int32)), (0, .ref (a 0)), (1, .int y1)]) hx hb dX9_foldRuns_93 rfl hl (by decide) rfl (fun ls hl => ?_)
          obtain ⟨k_3, hk_3, hf⟩ := hf
          exact (ih k_3 hk_3).2.2 _ _ z _ _ ls hf hP hD hS (lv_sub hl [1, 2, 0] rfl)
        · have hf := hf.2 c_2
          refine lv_iload_n hx hb dX9_foldRuns_12 rfl (lv_at hl 2 rfl) ?_
          refine lv_bipush (v := 6) hx hb dX9_foldRuns_13 (by decide) ?_
          refine lv_icmp_ge (tgt := 91) hx hb dX9_foldRuns_15 (by decide) (fun c_4 => ?_) (fun c_4 => ?_)
          · have hf := hf.1 c_4
            refine lv_bipush (v := 64) hx hb dX9_foldRuns_91 (by decide) ?_
            refine lv_istore_n (lv' := [(2, .int (64 : Int32)), (0, .ref (a 0)), (1, .int y1)]) hx hb dX9_foldRuns_93 rfl hl (by decide) rfl (fun ls hl => ?_)
            obtain ⟨k_5, hk_5, hf⟩ := hf
            exact (ih k_5 hk_5).2.2 _ _ z _ _ ls hf hP hD hS (lv_sub hl [1, 2, 0] rfl)
          · have hf := hf.2 c_4
            refine lv_iconst (v := 0) hx hb dX9_foldRuns_18 (by decide) ?_
            refine lv_istore_n (lv' := [(3, .int (0 : Int32)), (0, .ref (a 0)), (1, .int y1), (2, .int y2)]) hx hb dX9_foldRuns_19 rfl hl (by decide) rfl (fun ls hl => ?_)
            obtain ⟨k_6, hk_6, hf⟩ := hf
            exact (ih k_6 hk_6).2.1 _ _ _ z _ _ ls hf hP hD hS (lv_sub hl [1, 2, 3, 0] rfl)
      · intro y1 y2 y3 z H locs ls hI hP hD hS hl
        have hf := h20 n y1 y2 y3 z hI
        unfold t_X9_foldRuns_20 at hf
        refine lv_iload_n hx hb dX9_foldRuns_20 rfl (lv_at hl 3 rfl) ?_
        refine lv_bipush (v := 64) hx hb dX9_foldRuns_21 (by decide) ?_
        refine lv_icmp_ge (tgt := 78) hx hb dX9_foldRuns_23 (by decide) (fun c_7 => ?_) (fun c_7 => ?_)
        · have hf := hf.1 c_7
          refine lv_aload_n hx hb dX9_foldRuns_78 rfl (lv_at hl 0 rfl) ?_
          refine va_get (D := (dC, dI)) (ci := 8) (v := .ref (a 2)) (C := RX9) (T := TX9) (N := 3) hx hb hts inX9 hown hK hP 0 rfl rfl 1 (by decide) (hts _ q_fl_X9_15) (fun _ h9 => h9) rfl dX9_foldRuns_79 ?_
          refine lv_iload_n hx hb dX9_foldRuns_82 rfl (lv_at hl 2 rfl) ?_
          refine lv_iconst (v := 0) hx hb dX9_foldRuns_83 (by decide) ?_
          obtain ⟨hg, hf⟩ := hf
          refine z_iast (Wn := fun f_8 => cl_X9 cI cJ a (z.1, f_8, z.2.2)) X hP hD hS 2 0 rfl rfl hg (fun _ => rfl) dX9_foldRuns_84 (fun f_8 H locs ef_8 hP hD hS => ?_)
          have hf := hf f_8 ef_8
          obtain ⟨x_9, ex_9⟩ : ∃ y : Int32, y = y2 + (1 : Int32) := ⟨_, rfl⟩
          have hf := hf x_9 ex_9
          refine lv_iinc (v := x_9) (lv' := [(2, .int x_9), (0, .ref (a 0)), (1, .int y1), (3, .int y3)]) hx hb dX9_foldRuns_85 hl (k := 2) rfl (by rw [ex_9]; rfl) (by decide) rfl (fun ls hl => ?_)
          refine lv_goto (tgt := 4) hx hb dX9_foldRuns_88 (by decide) ?_
          obtain ⟨k_10, hk_10, hf⟩ := hf
          exact (ih k_10 hk_10).1 _ _ (z.1, f_8, z.2.2) _ _ ls hf hP hD hS (lv_sub hl [1, 2, 0] rfl)
        · have hf := hf.2 c_7
          refine lv_aload_n hx hb dX9_foldRuns_26 rfl (lv_at hl 0 rfl) ?_
          refine va_get (D := (dC, dI)) (ci := 8) (v := .ref (a 1)) (C := RX9) (T := TX9) (N := 3) hx hb hts inX9 hown hK hP 0 rfl rfl 0 (by decide) (hts _ q_fl_X9_9) (fun _ h9 => h9) rfl dX9_foldRuns_27 ?_
          refine lv_bipush (v := 64) hx hb dX9_foldRuns_30 (by decide) ?_
          refine lv_iload_n hx hb dX9_foldRuns_32 rfl (lv_at hl 3 rfl) ?_
          refine lv_iadd hx hb dX9_foldRuns_33 ?_
          obtain ⟨hg, hf⟩ := hf
          refine va_lald hx hb hK hP 1 1 rfl rfl hg dX9_foldRuns_34 ?_
          refine lv_lconst (v := 0) hx hb dX9_foldRuns_35 (by decide) ?_
          refine W.lcmp hx hb dX9_foldRuns_36 ?_
          refine lv_if_ne (tgt := 60) hx hb dX9_foldRuns_37 (by decide) (fun c_11 => ?_) (fun c_11 => ?_)
          · have hf := hf.1 c_11
            refine lv_aload_n hx hb dX9_foldRuns_60 rfl (lv_at hl 0 rfl) ?_
            refine va_get (D := (dC, dI)) (ci := 8) (v := .ref (a 1)) (C := RX9) (T := TX9) (N := 3) hx hb hts inX9 hown hK hP 0 rfl rfl 0 (by decide) (hts _ q_fl_X9_9) (fun _ h9 => h9) rfl dX9_foldRuns_61 ?_
            refine lv_iload_n hx hb dX9_foldRuns_64 rfl (lv_at hl 2 rfl) ?_
            refine lv_bipush (v := 64) hx hb dX9_foldRuns_65 (by decide) ?_
            refine lv_imul hx hb dX9_foldRuns_67 ?_
            refine lv_iload_n hx hb dX9_foldRuns_68 rfl (lv_at hl 3 rfl) ?_
            refine lv_iadd hx hb dX9_foldRuns_69 ?_
            refine lv_lconst (v := 0) hx hb dX9_foldRuns_70 (by decide) ?_
            obtain ⟨hg, hf⟩ := hf
            refine z_last (Wn := fun f_12 => cl_X9 cI cJ a (f_12, z.2.1, z.2.2)) X hP hD hS 1 1 rfl rfl hg (fun _ => rfl) dX9_foldRuns_71 (fun f_12 H locs ef_12 hP hD hS => ?_)
            have hf := hf f_12 ef_12
            obtain ⟨x_13, ex_13⟩ : ∃ y : Int32, y = y3 + (1 : Int32) := ⟨_, rfl⟩
            have hf := hf x_13 ex_13
            refine lv_iinc (v := x_13) (lv' := [(3, .int x_13), (0, .ref (a 0)), (1, .int y1), (2, .int y2)]) hx hb dX9_foldRuns_72 hl (k := 3) rfl (by rw [ex_13]; rfl) (by decide) rfl (fun ls hl => ?_)
            refine lv_goto (tgt := 20) hx hb dX9_foldRuns_75 (by decide) ?_
            obtain ⟨k_14, hk_14, hf⟩ := hf
            exact (ih k_14 hk_14).2.1 _ _ _ (f_12, z.2.1, z.2.2) _ _ ls hf hP hD hS (lv_sub hl [1, 2, 3, 0] rfl)
          · have hf := hf.2 c_11
            refine lv_aload_n hx hb dX9_foldRuns_40 rfl (lv_at hl 0 rfl) ?_
            refine va_get (D := (dC, dI)) (ci := 8) (v := .ref (a 1)) (C := RX9) (T := TX9) (N := 3) hx hb hts inX9 hown hK hP 0 rfl rfl 0 (by decide) (hts _ q_fl_X9_9) (fun _ h9 => h9) rfl dX9_foldRuns_41 ?_
            refine lv_bipush (v := 64) hx hb dX9_foldRuns_44 (by decide) ?_
            refine lv_iload_n hx hb dX9_foldRuns_46 rfl (lv_at hl 3 rfl) ?_
            refine lv_iadd hx hb dX9_foldRuns_47 ?_
            refine lv_aload_n hx hb dX9_foldRuns_48 rfl (lv_at hl 0 rfl) ?_
            refine va_get (D := (dC, dI)) (ci := 8) (v := .ref (a 1)) (C := RX9) (T := TX9) (N := 3) hx hb hts inX9 hown hK hP 0 rfl rfl 0 (by decide) (hts _ q_fl_X9_9) (fun _ h9 => h9) rfl dX9_foldRuns_49 ?_
            refine lv_iload_n hx hb dX9_foldRuns_52 rfl (lv_at hl 2 rfl) ?_
            refine lv_bipush (v := 64) hx hb dX9_foldRuns_53 (by decide) ?_
            refine lv_imul hx hb dX9_foldRuns_55 ?_
            refine lv_iload_n hx hb dX9_foldRuns_56 rfl (lv_at hl 3 rfl) ?_
            refine lv_iadd hx hb dX9_foldRuns_57 ?_
            obtain ⟨hg, hf⟩ := hf
            refine va_lald hx hb hK hP 1 1 rfl rfl hg dX9_foldRuns_58 ?_
            obtain ⟨hg, hf⟩ := hf
            refine z_last (Wn := fun f_15 => cl_X9 cI cJ a (f_15, z.2.1, z.2.2)) X hP hD hS 1 1 rfl rfl hg (fun _ => rfl) dX9_foldRuns_59 (fun f_15 H locs ef_15 hP hD hS => ?_)
            have hf := hf f_15 ef_15
            refine lv_aload_n hx hb dX9_foldRuns_60 rfl (lv_at hl 0 rfl) ?_
            refine va_get (D := (dC, dI)) (ci := 8) (v := .ref (a 1)) (C := RX9) (T := TX9) (N := 3) hx hb hts inX9 hown hK hP 0 rfl rfl 0 (by decide) (hts _ q_fl_X9_9) (fun _ h9 => h9) rfl dX9_foldRuns_61 ?_
            refine lv_iload_n hx hb dX9_foldRuns_64 rfl (lv_at hl 2 rfl) ?_
            refine lv_bipush (v := 64) hx hb dX9_foldRuns_65 (by decide) ?_
            refine lv_imul hx hb dX9_foldRuns_67 ?_
            refine lv_iload_n hx hb dX9_foldRuns_68 rfl (lv_at hl 3 rfl) ?_
            refine lv_iadd hx hb dX9_foldRuns_69 ?_
            refine lv_lconst (v := 0) hx hb dX9_foldRuns_70 (by decide) ?_
            obtain ⟨hg, hf⟩ := hf
            refine z_last (Wn := fun f_16 => cl_X9 cI cJ a (f_16, z.2.1, z.2.2)) X hP hD hS 1 1 rfl rfl hg (fun _ => rfl) dX9_foldRuns_71 (fun f_16 H locs ef_16 hP hD hS => ?_)
            have hf := hf f_16 ef_16
            obtain ⟨x_17, ex_17⟩ : ∃ y : Int32, y = y3 + (1 : Int32) := ⟨_, rfl⟩
            have hf := hf x_17 ex_17
            refine lv_iinc (v := x_17) (lv' := [(3, .int x_17), (0, .ref (a 0)), (1, .int y1), (2, .int y2)]) hx hb dX9_foldRuns_72 hl (k := 3) rfl (by rw [ex_17]; rfl) (by decide) rfl (fun ls hl => ?_)
            refine lv_goto (tgt := 20) hx hb dX9_foldRuns_75 (by decide) ?_
            obtain ⟨k_18, hk_18, hf⟩ := hf
            exact (ih k_18 hk_18).2.1 _ _ _ (f_16, z.2.1, z.2.2) _ _ ls hf hP hD hS (lv_sub hl [1, 2, 3, 0] rfl)
      · intro y1 y2 z H locs ls hI hP hD hS hl
        have hf := h94 n y1 y2 z hI
        unfold t_X9_foldRuns_94 at hf
        refine lv_iload_n hx hb dX9_foldRuns_94 rfl (lv_at hl 2 rfl) ?_
        refine lv_sipush (v := 128) hx hb dX9_foldRuns_95 (by decide) ?_
        refine lv_icmp_ge (tgt := 142) hx hb dX9_foldRuns_98 (by decide) (fun c_19 => ?_) (fun c_19 => ?_)
        · have hf := hf.1 c_19
          refine lv_aload_n hx hb dX9_foldRuns_142 rfl (lv_at hl 0 rfl) ?_
          refine va_get (D := (dC, dI)) (ci := 8) (v := .ref (a 2)) (C := RX9) (T := TX9) (N := 3) hx hb hts inX9 hown hK hP 0 rfl rfl 1 (by decide) (hts _ q_fl_X9_15) (fun _ h9 => h9) rfl dX9_foldRuns_143 ?_
          refine lv_iconst (v := 1) hx hb dX9_foldRuns_146 (by decide) ?_
          refine lv_iload_n hx hb dX9_foldRuns_147 rfl (lv_at hl 1 rfl) ?_
          obtain ⟨hg, hf⟩ := hf
          refine z_iast (Wn := fun f_20 => cl_X9 cI cJ a (z.1, f_20, z.2.2)) X hP hD hS 2 0 rfl rfl hg (fun _ => rfl) dX9_foldRuns_148 (fun f_20 H locs ef_20 hP hD hS => ?_)
          have hf := hf f_20 ef_20
          refine lv_aload_n hx hb dX9_foldRuns_149 rfl (lv_at hl 0 rfl) ?_
          refine lv_iload_n hx hb dX9_foldRuns_150 rfl (lv_at hl 1 rfl) ?_
          refine lv_if_ne (tgt := 158) hx hb dX9_foldRuns_151 (by decide) (fun c_21 => ?_) (fun c_21 => ?_)
          · have hf := hf.1 c_21
            refine lv_iconst (v := 1) hx hb dX9_foldRuns_158 (by decide) ?_
            refine z_put (w' := cl_X9 cI cJ a (z.1, f_20, (1 : Int32))) (ci := 8) (v := .int (1 : Int32)) (ty := .int) (Cn := RX9) (T := TX9) (N := 3) X inX9 tyX9 tyX9_ok nmX9 hP hD hS 0 rfl rfl 2 (by decide) (hts _ q_fl_X9_25) (fun _ h9 => h9) rfl (tyX9_ok 2 (by decide)) rfl rfl (Nat.le_of_ble_eq_true rfl) rfl dX9_foldRuns_159 (fun H locs hP hD hS => ?_)
            refine lv_iload_n hx hb dX9_foldRuns_162 rfl (lv_at hl 1 rfl) ?_
            exact z_retMi (Wf := (fun z => cl_X9 cI cJ a z)) (u := (z.1, f_20, (1 : Int32))) X hf hP hD hS dX9_foldRuns_163
          · have hf := hf.2 c_21
            refine lv_iconst (v := 0) hx hb dX9_foldRuns_154 (by decide) ?_
            refine lv_goto (tgt := 159) hx hb dX9_foldRuns_155 (by decide) ?_
            refine z_put (w' := cl_X9 cI cJ a (z.1, f_20, (0 : Int32))) (ci := 8) (v := .int (0 : Int32)) (ty := .int) (Cn := RX9) (T := TX9) (N := 3) X inX9 tyX9 tyX9_ok nmX9 hP hD hS 0 rfl rfl 2 (by decide) (hts _ q_fl_X9_25) (fun _ h9 => h9) rfl (tyX9_ok 2 (by decide)) rfl rfl (Nat.le_of_ble_eq_true rfl) rfl dX9_foldRuns_159 (fun H locs hP hD hS => ?_)
            refine lv_iload_n hx hb dX9_foldRuns_162 rfl (lv_at hl 1 rfl) ?_
            exact z_retMi (Wf := (fun z => cl_X9 cI cJ a z)) (u := (z.1, f_20, (0 : Int32))) X hf hP hD hS dX9_foldRuns_163
        · have hf := hf.2 c_19
          refine lv_aload_n hx hb dX9_foldRuns_101 rfl (lv_at hl 0 rfl) ?_
          refine va_get (D := (dC, dI)) (ci := 8) (v := .int z.2.2) (C := RX9) (T := TX9) (N := 3) hx hb hts inX9 hown hK hP 0 rfl rfl 2 (by decide) (hts _ q_fl_X9_25) (fun _ h9 => h9) rfl dX9_foldRuns_102 ?_
          refine lv_if_le (tgt := 142) hx hb dX9_foldRuns_105 (by decide) (fun c_22 => ?_) (fun c_22 => ?_)
          · have hf := hf.1 c_22
            refine lv_aload_n hx hb dX9_foldRuns_142 rfl (lv_at hl 0 rfl) ?_
            refine va_get (D := (dC, dI)) (ci := 8) (v := .ref (a 2)) (C := RX9) (T := TX9) (N := 3) hx hb hts inX9 hown hK hP 0 rfl rfl 1 (by decide) (hts _ q_fl_X9_15) (fun _ h9 => h9) rfl dX9_foldRuns_143 ?_
            refine lv_iconst (v := 1) hx hb dX9_foldRuns_146 (by decide) ?_
            refine lv_iload_n hx hb dX9_foldRuns_147 rfl (lv_at hl 1 rfl) ?_
            obtain ⟨hg, hf⟩ := hf
            refine z_iast (Wn := fun f_23 => cl_X9 cI cJ a (z.1, f_23, z.2.2)) X hP hD hS 2 0 rfl rfl hg (fun _ => rfl) dX9_foldRuns_148 (fun f_23 H locs ef_23 hP hD hS => ?_)
            have hf := hf f_23 ef_23
            refine lv_aload_n hx hb dX9_foldRuns_149 rfl (lv_at hl 0 rfl) ?_
            refine lv_iload_n hx hb dX9_foldRuns_150 rfl (lv_at hl 1 rfl) ?_
            refine lv_if_ne (tgt := 158) hx hb dX9_foldRuns_151 (by decide) (fun c_24 => ?_) (fun c_24 => ?_)
            · have hf := hf.1 c_24
              refine lv_iconst (v := 1) hx hb dX9_foldRuns_158 (by decide) ?_
              refine z_put (w' := cl_X9 cI cJ a (z.1, f_23, (1 : Int32))) (ci := 8) (v := .int (1 : Int32)) (ty := .int) (Cn := RX9) (T := TX9) (N := 3) X inX9 tyX9 tyX9_ok nmX9 hP hD hS 0 rfl rfl 2 (by decide) (hts _ q_fl_X9_25) (fun _ h9 => h9) rfl (tyX9_ok 2 (by decide)) rfl rfl (Nat.le_of_ble_eq_true rfl) rfl dX9_foldRuns_159 (fun H locs hP hD hS => ?_)
              refine lv_iload_n hx hb dX9_foldRuns_162 rfl (lv_at hl 1 rfl) ?_
              exact z_retMi (Wf := (fun z => cl_X9 cI cJ a z)) (u := (z.1, f_23, (1 : Int32))) X hf hP hD hS dX9_foldRuns_163
            · have hf := hf.2 c_24
              refine lv_iconst (v := 0) hx hb dX9_foldRuns_154 (by decide) ?_
              refine lv_goto (tgt := 159) hx hb dX9_foldRuns_155 (by decide) ?_
              refine z_put (w' := cl_X9 cI cJ a (z.1, f_23, (0 : Int32))) (ci := 8) (v := .int (0 : Int32)) (ty := .int) (Cn := RX9) (T := TX9) (N := 3) X inX9 tyX9 tyX9_ok nmX9 hP hD hS 0 rfl rfl 2 (by decide) (hts _ q_fl_X9_25) (fun _ h9 => h9) rfl (tyX9_ok 2 (by decide)) rfl rfl (Nat.le_of_ble_eq_true rfl) rfl dX9_foldRuns_159 (fun H locs hP hD hS => ?_)
              refine lv_iload_n hx hb dX9_foldRuns_162 rfl (lv_at hl 1 rfl) ?_
              exact z_retMi (Wf := (fun z => cl_X9 cI cJ a z)) (u := (z.1, f_23, (0 : Int32))) X hf hP hD hS dX9_foldRuns_163
          · have hf := hf.2 c_22
            refine lv_aload_n hx hb dX9_foldRuns_108 rfl (lv_at hl 0 rfl) ?_
            refine va_get (D := (dC, dI)) (ci := 8) (v := .ref (a 1)) (C := RX9) (T := TX9) (N := 3) hx hb hts inX9 hown hK hP 0 rfl rfl 0 (by decide) (hts _ q_fl_X9_9) (fun _ h9 => h9) rfl dX9_foldRuns_109 ?_
            refine lv_iload_n hx hb dX9_foldRuns_112 rfl (lv_at hl 2 rfl) ?_
            obtain ⟨hg, hf⟩ := hf
            refine va_lald hx hb hK hP 1 1 rfl rfl hg dX9_foldRuns_113 ?_
            refine lv_ldc2 (v := (16128)) hx hb hown (hts _ q_k_X9_57) dX9_foldRuns_114 ?_
            refine lv_land hx hb dX9_foldRuns_117 ?_
            refine lv_lconst (v := 0) hx hb dX9_foldRuns_118 (by decide) ?_
            refine W.lcmp hx hb dX9_foldRuns_119 ?_
            refine lv_if_ne (tgt := 133) hx hb dX9_foldRuns_120 (by decide) (fun c_25 => ?_) (fun c_25 => ?_)
            · have hf := hf.1 c_25
              obtain ⟨x_26, ex_26⟩ : ∃ y : Int32, y = y1 + (1 : Int32) := ⟨_, rfl⟩
              have hf := hf x_26 ex_26
              refine lv_iinc (v := x_26) (lv' := [(1, .int x_26), (0, .ref (a 0)), (2, .int y2)]) hx hb dX9_foldRuns_133 hl (k := 1) rfl (by rw [ex_26]; rfl) (by decide) rfl (fun ls hl => ?_)
              obtain ⟨x_27, ex_27⟩ : ∃ y : Int32, y = y2 + (1 : Int32) := ⟨_, rfl⟩
              have hf := hf x_27 ex_27
              refine lv_iinc (v := x_27) (lv' := [(2, .int x_27), (1, .int x_26), (0, .ref (a 0))]) hx hb dX9_foldRuns_136 hl (k := 2) rfl (by rw [ex_27]; rfl) (by decide) rfl (fun ls hl => ?_)
              refine lv_goto (tgt := 94) hx hb dX9_foldRuns_139 (by decide) ?_
              obtain ⟨k_28, hk_28, hf⟩ := hf
              exact (ih k_28 hk_28).2.2 _ _ z _ _ ls hf hP hD hS (lv_sub hl [2, 1, 0] rfl)
            · have hf := hf.2 c_25
              refine lv_aload_n hx hb dX9_foldRuns_123 rfl (lv_at hl 0 rfl) ?_
              refine va_get (D := (dC, dI)) (ci := 8) (v := .ref (a 1)) (C := RX9) (T := TX9) (N := 3) hx hb hts inX9 hown hK hP 0 rfl rfl 0 (by decide) (hts _ q_fl_X9_9) (fun _ h9 => h9) rfl dX9_foldRuns_124 ?_
              refine lv_iload_n hx hb dX9_foldRuns_127 rfl (lv_at hl 2 rfl) ?_
              refine lv_lconst (v := 0) hx hb dX9_foldRuns_128 (by decide) ?_
              obtain ⟨hg, hf⟩ := hf
              refine z_last (Wn := fun f_29 => cl_X9 cI cJ a (f_29, z.2.1, z.2.2)) X hP hD hS 1 1 rfl rfl hg (fun _ => rfl) dX9_foldRuns_129 (fun f_29 H locs ef_29 hP hD hS => ?_)
              have hf := hf f_29 ef_29
              refine lv_goto (tgt := 136) hx hb dX9_foldRuns_130 (by decide) ?_
              obtain ⟨x_30, ex_30⟩ : ∃ y : Int32, y = y2 + (1 : Int32) := ⟨_, rfl⟩
              have hf := hf x_30 ex_30
              refine lv_iinc (v := x_30) (lv' := [(2, .int x_30), (0, .ref (a 0)), (1, .int y1)]) hx hb dX9_foldRuns_136 hl (k := 2) rfl (by rw [ex_30]; rfl) (by decide) rfl (fun ls hl => ?_)
              refine lv_goto (tgt := 94) hx hb dX9_foldRuns_139 (by decide) ?_
              obtain ⟨k_31, hk_31, hf⟩ := hf
              exact (ih k_31 hk_31).2.2 _ _ (f_29, z.2.1, z.2.2) _ _ ls hf hP hD hS (lv_sub hl [1, 2, 0] rfl)
  unfold t_X9_foldRuns_e at hf
  refine lv_iconst (v := 0) hx hb dX9_foldRuns_0 (by decide) ?_
  refine lv_istore_n (lv' := [(1, .int (0 : Int32)), (0, .ref (a 0))]) hx hb dX9_foldRuns_1 rfl hl (by decide) rfl (fun ls hl => ?_)
  refine lv_iconst (v := 2) hx hb dX9_foldRuns_2 (by decide) ?_
  refine lv_istore_n (lv' := [(2, .int (2 : Int32)), (1, .int (0 : Int32)), (0, .ref (a 0))]) hx hb dX9_foldRuns_3 rfl hl (by decide) rfl (fun ls hl => ?_)
  obtain ⟨k_1, hf⟩ := hf
  exact (LP k_1).1 _ _ u _ _ ls hf hP hD hS (lv_sub hl [2, 1, 0] rfl)
/-- the card of a key in the runs 1 to n + 1, the latest first -/
def zMg (f : Nat → Int64) (k : Nat) : Nat → Int64
  | 0 => f (64 + k)
  | n + 1 => if zMg f k n = 0 then f (64 * (n + 2) + k) else zMg f k n
/-- the levels 2 to n + 1 merged into the first run, and the first i keys of the next -/
def zMrg (f : Nat → Int64) (n i : Nat) : Nat → Int64 := fun j => if 64 ≤ j ∧ j < 64 + i then zMg f (j - 64) (n + 1) else if 64 + i ≤ j ∧ j < 128 then zMg f (j - 64) n else if 128 ≤ j ∧ j < 64 * (n + 2) + i then 0 else f j
/-- of the merged run the dropped ones of the first i keys left away -/
def zKp (c : Int64) : Int64 := if c &&& 16128 = 0 then 0 else c
def zMrd (f : Nat → Int64) (n i : Nat) : Nat → Int64 := fun j => if 64 ≤ j ∧ j < 64 + i then zKp (zMg f (j - 64) n) else zMrg f n 0 j
def zSz (g : Nat → Int32) (n : Nat) : Nat → Int32 := fun l => if 2 ≤ l ∧ l < n + 2 then 0 else g l
theorem zMrg_00 (f : Nat → Int64) : zMrg f 0 0 = f := by
  funext j
  unfold zMrg
  rw [if_neg (by omega)]
  by_cases h : 64 + 0 ≤ j ∧ j < 128
  · rw [if_pos h]; show f (64 + (j - 64)) = f j; rw [show 64 + (j - 64) = j by omega]
  · rw [if_neg h, if_neg (by omega)]
theorem zMrg_64 (f : Nat → Int64) (n : Nat) : zMrg f n 64 = zMrg f (n + 1) 0 := by
  funext j
  unfold zMrg
  repeat' split
  all_goals first | rfl | (exfalso; omega)
theorem zMrg_a (f : Nat → Int64) {n i : Nat} (hi : i < 64) : zMrg f n i (64 + i) = zMg f i n := by
  unfold zMrg
  rw [if_neg (by omega), if_pos (by omega), show 64 + i - 64 = i by omega]
theorem zMrg_b (f : Nat → Int64) {n i : Nat} : zMrg f n i (64 * (n + 2) + i) = f (64 * (n + 2) + i) := by
  unfold zMrg
  rw [if_neg (by omega), if_neg (by omega), if_neg (by omega)]
theorem zMrg_no (f : Nat → Int64) {n i : Nat} (hi : i < 64) (h : ¬ zMg f i n = 0) : vp_updL (zMrg f n i) (64 * (n + 2) + i) 0 = zMrg f n (i + 1) := by
  funext j
  by_cases h2 : j = 64 + i
  · subst h2
    unfold vp_updL
    rw [if_neg (by omega), zMrg_a f hi]
    unfold zMrg
    rw [if_pos (by omega), show 64 + i - 64 = i by omega]
    show _ = if zMg f i n = 0 then _ else _
    rw [if_neg h]
  · unfold vp_updL zMrg
    repeat' split
    all_goals first | rfl | (exfalso; omega)
theorem zMrg_yes (f : Nat → Int64) {n i : Nat} (hi : i < 64) (h : zMg f i n = 0) : vp_updL (vp_updL (zMrg f n i) (64 + i) (f (64 * (n + 2) + i))) (64 * (n + 2) + i) 0 = zMrg f n (i + 1) := by
  funext j
  by_cases h2 : j = 64 + i
  · subst h2
    unfold vp_updL
    rw [if_neg (by omega), if_pos rfl]
    unfold zMrg
    rw [if_pos (by omega), show 64 + i - 64 = i by omega]
    show _ = if zMg f i n = 0 then _ else _
    rw [if_pos h]
  · unfold vp_updL zMrg
    repeat' split
    all_goals first | rfl | (exfalso; omega)
theorem zMrd_0 (f : Nat → Int64) (n : Nat) : zMrd f n 0 = zMrg f n 0 := funext fun j => if_neg (by omega)
theorem zMrd_a (f : Nat → Int64) {n i : Nat} (hi : i < 64) : zMrd f n i (64 + i) = zMg f i n := by
  unfold zMrd zMrg
  rw [if_neg (by omega), if_neg (by omega), if_pos (by omega), show 64 + i - 64 = i by omega]
theorem zMrd_s (f : Nat → Int64) {n i : Nat} (hi : i < 64) : vp_updL (zMrd f n i) (64 + i) (zKp (zMg f i n)) = zMrd f n (i + 1) := by
  funext j
  unfold vp_updL
  by_cases hj : j = 64 + i
  · rw [if_pos hj]
    subst hj
    unfold zMrd
    rw [if_pos (by omega), show 64 + i - 64 = i by omega]
  · rw [if_neg hj]
    unfold zMrd
    by_cases h1 : 64 ≤ j ∧ j < 64 + i
    · rw [if_pos h1, if_pos (by omega)]
    · rw [if_neg h1, if_neg (by omega)]
theorem zMrd_n (f : Nat → Int64) {n i : Nat} (hi : i < 64) (h : zKp (zMg f i n) = zMg f i n) : zMrd f n i = zMrd f n (i + 1) := by
  rw [← zMrd_s f hi, h]
  funext j
  unfold vp_updL
  by_cases hj : j = 64 + i
  · rw [if_pos hj, hj, zMrd_a f hi]
  · rw [if_neg hj]
theorem zSz_0 (g : Nat → Int32) : zSz g 0 = g := funext fun l => if_neg (by omega)
theorem zSz_s (g : Nat → Int32) (n : Nat) : upd (zSz g n) (n + 2) 0 = zSz g (n + 1) := by
  funext l
  unfold upd zSz
  by_cases h : l = n + 2
  · rw [if_pos h, if_pos (by omega)]
  · rw [if_neg h]
    by_cases h2 : 2 ≤ l ∧ l < n + 2
    · rw [if_pos h2, if_pos (by omega)]
    · rw [if_neg h2, if_neg (by omega)]
/-- how many entries of the merged runs are no drops -/
def zLeft (f : Nat → Int64) (n i : Nat) : Nat := fa_cnt (fun k => decide (¬ zMg f k n &&& 16128 = 0)) i
/-- behind a merge of r runs -/
def zFold (u : zTree) (r : Nat) : zTree := if r = 0 then (u.1, upd u.2.1 1 0, 0) else (zMrd u.1 (r - 1) 64, upd (zSz u.2.1 (r - 1)) 1 (nI (zLeft u.1 (r - 1) 64)), if zLeft u.1 (r - 1) 64 = 0 then 0 else 1)
def zFoldN (u : zTree) (r : Nat) : Nat := if r = 0 then 0 else zLeft u.1 (r - 1) 64
def s_X9_foldRuns (u : zTree) (Q : Int32 → zTree → Prop) : Prop := ∃ r : Nat, r < 6 ∧ u.2.2 = nI r ∧ Q (nI (zFoldN u r)) (zFold u r)
theorem st_X9_foldRuns {u : zTree} {Q : Int32 → zTree → Prop} (h : s_X9_foldRuns u Q) : v_X9_foldRuns u Q := by
  obtain ⟨r, hr, er, h⟩ := h
  refine ⟨fun m y1 y2 z => ∃ n : Nat, n ≤ r - 1 ∧ m = 1000 * (10 - n) + 500 ∧ y1 = 0 ∧ y2 = nI (n + 2) ∧ z = (zMrg u.1 n 0, zSz u.2.1 n, u.2.2),
    fun m y1 y2 y3 z => ∃ n i : Nat, n + 2 ≤ r ∧ i ≤ 64 ∧ m = 1000 * (10 - n) + 499 - i ∧ y1 = 0 ∧ y2 = nI (n + 2) ∧ y3 = nI i ∧ z = (zMrg u.1 n i, zSz u.2.1 n, u.2.2),
    fun m y1 y2 z => ∃ i : Nat, i ≤ 64 ∧ (r = 0 → i = 0) ∧ m = 100 - i ∧ y1 = nI (zLeft u.1 (r - 1) i) ∧ y2 = nI (64 + i) ∧ z = (zMrd u.1 (r - 1) i, zSz u.2.1 (r - 1), u.2.2), ?_, ?_, ?_, ?_⟩
  · rintro m y1 y2 z ⟨n, hn, rfl, rfl, rfl, rfl⟩
    unfold t_X9_foldRuns_4
    dsimp only
    rw [er]
    have out : r < n + 2 → ∃ k, k < 1000 * (10 - n) + 500 ∧ ∃ i : Nat, i ≤ 64 ∧ (r = 0 → i = 0) ∧ k = 100 - i ∧ (0 : Int32) = nI (zLeft u.1 (r - 1) i) ∧ (64 : Int32) = nI (64 + i) ∧ (zMrg u.1 n 0, zSz u.2.1 n, nI r) = (zMrd u.1 (r - 1) i, zSz u.2.1 (r - 1), nI r) := by
      intro hlt
      refine ⟨100, by omega, 0, by omega, fun _ => rfl, rfl, rfl, rfl, ?_⟩
      rw [zMrd_0, show n = r - 1 by omega]
    refine ⟨fun c => ?_, fun c => ⟨fun c2 => ?_, fun c2 => ?_⟩⟩
    · exact out ((nI_ltI (by omega) (by omega)).mp c)
    · have hle : ¬ r < n + 2 := fun q => c (nI_lt q (by omega))
      exact absurd c2 (ge6 (by omega))
    · have hle : ¬ r < n + 2 := fun q => c (nI_lt q (by omega))
      exact ⟨1000 * (10 - n) + 499 - 0, by omega, n, 0, by omega, by omega, rfl, rfl, rfl, rfl, rfl⟩
  · rintro m y1 y2 y3 z ⟨n, i, hn, hi, rfl, rfl, rfl, rfl, rfl⟩
    unfold t_X9_foldRuns_20
    dsimp only
    rw [n_lit64, n_mul, nI_add, nI_add, Nat.mul_comm (n + 2) 64]
    refine ⟨fun c => ⟨vp_in_nI (by omega) (by decide), fun f e x e' => ?_⟩, fun c => ?_⟩
    · have h64 : i = 64 := by
        have := (nI_leI (a := 64) (b := i) (by decide) (by omega)).mp c
        omega
      subst h64
      rw [nI_clamp (by omega), zSz_s] at e
      exact ⟨1000 * (10 - (n + 1)) + 500, by omega, n + 1, by omega, rfl, rfl, by rw [e', nI_1], by rw [e, zMrg_64]⟩
    · have hi : i < 64 := by
        have : ¬ 64 ≤ i := fun q => c (nI_le q (by omega))
        omega
      rw [nI_clamp (by omega), nI_clamp (by omega)]
      refine ⟨vp_in_nI (by omega) (by decide), fun c2 => ⟨vp_in_nI (by omega) (by decide), fun f e x e' => ?_⟩, fun c2 => ⟨vp_in_nI (by omega) (by decide), vp_in_nI (by omega) (by decide), fun f e => ⟨vp_in_nI (by omega) (by decide), fun g e2 x e' => ?_⟩⟩⟩
      · rw [zMrg_no u.1 hi (fun q => c2 ((lc_eq _ _).mpr (by rw [zMrg_a u.1 hi]; exact q)))] at e
        exact ⟨1000 * (10 - n) + 499 - (i + 1), by omega, n, i + 1, hn, by omega, rfl, rfl, rfl, by rw [e', nI_1], by rw [e]⟩
      · have hz := (lc_eq _ _).mp c2
        rw [zMrg_a u.1 hi] at hz
        rw [zMrg_b] at e
        rw [e, zMrg_yes u.1 hi hz] at e2
        exact ⟨1000 * (10 - n) + 499 - (i + 1), by omega, n, i + 1, hn, by omega, rfl, rfl, rfl, by rw [e', nI_1], by rw [e2]⟩
  · rintro m y1 y2 z ⟨i, hi, h0, rfl, rfl, rfl, rfl⟩
    unfold t_X9_foldRuns_94
    dsimp only
    rw [er]
    have hL : zLeft u.1 (r - 1) i ≤ i := fa_cnt_le _ _
    have fin : (r = 0 ∨ i = 64) → ∀ f : Nat → Int32, f = upd (zSz u.2.1 (r - 1)) 1 (nI (zLeft u.1 (r - 1) i)) → ((¬ nI (zLeft u.1 (r - 1) i) = 0 → Q (nI (zLeft u.1 (r - 1) i)) (zMrd u.1 (r - 1) i, f, 1)) ∧ (nI (zLeft u.1 (r - 1) i) = 0 → Q (nI (zLeft u.1 (r - 1) i)) (zMrd u.1 (r - 1) i, f, 0))) := by
      intro hc f e
      subst e
      by_cases hr0 : r = 0
      · subst hr0
        have hi0 := h0 rfl
        subst hi0
        have h : Q (nI 0) (u.1, upd u.2.1 1 0, 0) := h
        refine ⟨fun c => absurd rfl c, fun _ => ?_⟩
        show Q (nI 0) (zMrd u.1 0 0, upd (zSz u.2.1 0) 1 (nI 0), 0)
        rw [zMrd_0, zMrg_00, zSz_0]; exact h
      · have hi : i = 64 := hc.resolve_left hr0
        subst hi
        unfold zFold zFoldN at h
        rw [if_neg hr0, if_neg hr0] at h
        refine ⟨fun c => ?_, fun c => ?_⟩
        · rw [if_neg (fun q => c (by rw [q]; rfl))] at h; exact h
        · have hz : zLeft u.1 (r - 1) 64 = 0 := by
            have := (nI_eq (a := zLeft u.1 (r - 1) 64) (b := 0) (by omega) (by decide)).mp c
            exact this
          rw [if_pos hz] at h; exact h
    refine ⟨fun c => ⟨n_in1 (by decide) (by decide), fin (Or.inr ?_)⟩, fun c => ⟨fun c2 => ⟨n_in1 (by decide) (by decide), fin (Or.inl ?_)⟩, fun c2 => ?_⟩⟩
    · have := (nI_leI (a := 128) (b := 64 + i) (by decide) (by omega)).mp c
      omega
    · have := (nI_leI (a := r) (b := 0) (by omega) (by decide)).mp c2
      omega
    · have hi : i < 64 := by
        have : ¬ 128 ≤ 64 + i := fun q => c (nI_le q (by omega))
        omega
      have hr0 : ¬ r = 0 := fun q => c2 (nI_le (by omega) (by decide))
      rw [nI_clamp (by omega), zMrd_a u.1 hi]
      refine ⟨vp_in_nI (by omega) (by decide), fun c3 x e x' e' => ?_, fun c3 => ⟨vp_in_nI (by omega) (by decide), fun f e x' e' => ?_⟩⟩
      · have hk : ¬ zMg u.1 i (r - 1) &&& 16128 = 0 := fun q => c3 ((lc_eq _ _).mpr q)
        refine ⟨100 - (i + 1), by omega, i + 1, by omega, fun q => absurd q hr0, rfl, ?_, ?_, ?_⟩
        · rw [e, nI_1]; unfold zLeft; rw [fa_cnt_yes (p := fun k => decide (¬ zMg u.1 k (r - 1) &&& 16128 = 0)) (decide_eq_true hk)]
        · rw [e', nI_1]; rfl
        · rw [zMrd_n u.1 hi (if_neg hk)]
      · have hk : zMg u.1 i (r - 1) &&& 16128 = 0 := (lc_eq _ _).mp c3
        refine ⟨100 - (i + 1), by omega, i + 1, by omega, fun q => absurd q hr0, rfl, ?_, ?_, ?_⟩
        · unfold zLeft; rw [fa_cnt_no (p := fun k => decide (¬ zMg u.1 k (r - 1) &&& 16128 = 0)) (decide_eq_false (fun q => q hk))]
        · rw [e', nI_1]; rfl
        · rw [e, ← zMrd_s u.1 hi]
          unfold zKp
          rw [if_pos hk]
  · exact ⟨1000 * (10 - 0) + 500, 0, by omega, rfl, rfl, rfl, by rw [zMrg_00, zSz_0]⟩
theorem c_X9_foldRuns (l : Launch) (dC : Nat → ClassId) (dI : Nat → Nat → Nat) (cI cJ cS : ClassId) (a : Nat → Nat) (u : zTree) (Q : Int32 → zTree → Prop) (hf : s_X9_foldRuns u Q) : ∀ sz : Nat, Met l yX9_foldRuns (Cond.code yX9_foldRuns cX9_foldRuns 4 (some .int) :: zT) rm_X9_foldRuns (zPm dC dI cI cJ cS (cl_X9 cI cJ a u) [.ref (a 0)] sz) (va_Qi Q (zB dC dI cI cJ cS (va_A (cl_X9 cI cJ a u) sz) (fun z => cl_X9 cI cJ a z)) (va_A (cl_X9 cI cJ a u) sz)) 0 0 (va_A (cl_X9 cI cJ a u) sz) := by
  obtain ⟨I4, I20, I94, h4, h20, h94, hf⟩ := st_X9_foldRuns hf
  exact L_X9_foldRuns l dC dI cI cJ cS a u Q I4 I20 I94 h4 h20 h94 hf
