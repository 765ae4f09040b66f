def t_X5_enter (u : zState) (x1 : Int32) (x2 : Int32) (x3 : Int32) (Q : Int32 → zState → Prop) : Prop := ∀ x_1 : Int32, x_1 = ((4 : Int32) + x2) → s_X9_isFullFor u.2.2.2.1 x1 u.1.2.2.1 (fun r_2 : Int32 => ((r_2 = 0 → s_X5_leftOpen u (fun r_4 : Int32 => ((x_1 ≤ r_4 → ∀ x_6 : Int32, x_6 = (u.2.2.2.2.2.2.1 + (1 : Int32)) → ∀ x_7 : Int32, x_7 = (u.2.1.1 + x_1) → s_X4_append u.2.2.1 x_6 x1 x2 x3 (fun (r_8 : Int64) (u_9 : zSegs) => s_X9_intoTable u.2.2.2.1 r_8 (fun (u_11 : zTree) => Q x_6 (u.1, (x_7, u.2.1.2.1, u.2.1.2.2.1, u.2.1.2.2.2.1, u.2.1.2.2.2.2), u_9, u_11, u.2.2.2.2.1, u.2.2.2.2.2.1, x_6, u.2.2.2.2.2.2.2.1, u.2.2.2.2.2.2.2.2)))) ∧ (¬ x_1 ≤ r_4 → s_X2_tellOf u.2.2.2.2.2.1 (4 : Int32) u.2.2.1.2.2.2.2 u.2.2.2.2.2.2.1 (fun (u_13 : zDiary) => s_X4_openNext u.2.2.1 (fun (u_15 : zSegs) => ∀ x_16 : Int32, x_16 = (u.2.2.2.2.2.2.1 + (1 : Int32)) → ∀ x_17 : Int32, x_17 = (u.2.1.1 + x_1) → s_X4_append u_15 x_16 x1 x2 x3 (fun (r_18 : Int64) (u_19 : zSegs) => s_X9_intoTable u.2.2.2.1 r_18 (fun (u_21 : zTree) => Q x_16 (u.1, (x_17, u.2.1.2.1, u.2.1.2.2.1, u.2.1.2.2.2.1, u.2.1.2.2.2.2), u_19, u_21, u.2.2.2.2.1, u_13, x_16, u.2.2.2.2.2.2.2.1, u.2.2.2.2.2.2.2.2))))))))) ∧ (¬ r_2 = 0 → s_X5_flushTable u (fun (u_23 : zState) => s_X5_leftOpen u_23 (fun r_24 : Int32 => ((x_1 ≤ r_24 → ∀ x_26 : Int32, x_26 = (u_23.2.2.2.2.2.2.1 + (1 : Int32)) → ∀ x_27 : Int32, x_27 = (u_23.2.1.1 + x_1) → s_X4_append u_23.2.2.1 x_26 x1 x2 x3 (fun (r_28 : Int64) (u_29 : zSegs) => s_X9_intoTable u_23.2.2.2.1 r_28 (fun (u_31 : zTree) => Q x_26 (u_23.1, (x_27, u_23.2.1.2.1, u_23.2.1.2.2.1, u_23.2.1.2.2.2.1, u_23.2.1.2.2.2.2), u_29, u_31, u_23.2.2.2.2.1, u_23.2.2.2.2.2.1, x_26, u_23.2.2.2.2.2.2.2.1, u_23.2.2.2.2.2.2.2.2)))) ∧ (¬ x_1 ≤ r_24 → s_X2_tellOf u_23.2.2.2.2.2.1 (4 : Int32) u_23.2.2.1.2.2.2.2 u_23.2.2.2.2.2.2.1 (fun (u_33 : zDiary) => s_X4_openNext u_23.2.2.1 (fun (u_35 : zSegs) => ∀ x_36 : Int32, x_36 = (u_23.2.2.2.2.2.2.1 + (1 : Int32)) → ∀ x_37 : Int32, x_37 = (u_23.2.1.1 + x_1) → s_X4_append u_35 x_36 x1 x2 x3 (fun (r_38 : Int64) (u_39 : zSegs) => s_X9_intoTable u_23.2.2.2.1 r_38 (fun (u_41 : zTree) => Q x_36 (u_23.1, (x_37, u_23.2.1.2.1, u_23.2.1.2.2.1, u_23.2.1.2.2.2.1, u_23.2.1.2.2.2.2), u_39, u_41, u_23.2.2.2.2.1, u_33, x_36, u_23.2.2.2.2.2.2.2.1, u_23.2.2.2.2.2.2.2.2))))))))))))
theorem zc_X5_enter : zCalV RX5 yX5_enter cX5_enter 5 (some .int) 3 := ⟨q_im_X5_enter, q_se_X5_enter, q_in_X5, q_cd_X5_enter, ⟨by decide, by decide, by decide +kernel⟩, rfl⟩
abbrev rm_X5_enter : Room := { frames := 4, cells := 0, slots := 0, locals := 116 }
set_option maxHeartbeats 4000000 in
set_option maxRecDepth 100000 in
theorem L_X5_enter (l : Launch) (dC : Nat → ClassId) (dI : Nat → Nat → Nat) (cI cJ cS : ClassId) (a : Nat → Nat) (u : zState) (x1 : Int32) (x2 : Int32) (x3 : Int32) (Q : Int32 → zState → Prop) (hf : t_X5_enter u x1 x2 x3 Q) : ∀ sz : Nat, Met l yX5_enter (Cond.code yX5_enter cX5_enter 5 (some .int) :: zT) rm_X5_enter (zPm dC dI cI cJ cS (cl_X5 cI cJ a u) [.ref (a 0), .int x1, .int x2, .int x3] sz) (va_Qi Q (zB dC dI cI cJ cS (va_A (cl_X5 cI cJ a u) sz) (fun z => cl_X5 cI cJ a z)) (va_A (cl_X5 cI cJ a u) sz)) 0 0 (va_A (cl_X5 cI cJ a u) sz) := by
  intro sz
  refine z_enterM (Qc := fun A => va_Qi Q (zB dC dI cI cJ cS A (fun z => cl_X5 cI cJ a z)) A) (cc := cX5_enter) (maxL := 5) (ret := (some .int)) (by decide) (Nat.le_of_ble_eq_true rfl) ?_
  intro p e s m below meth c ls A X hP hD hS hA hl
  obtain ⟨⟨hx, hb, hml, hown, hts⟩, hr, hlk, hK⟩ := id X
  have hl : lv_has ls 5 [(0, .ref (a 0)), (1, .int x1), (2, .int x2), (3, .int x3)] := hl
  unfold t_X5_enter at hf
  refine lv_iconst (v := 4) hx hb dX5_enter_0 (by decide) ?_
  refine lv_iload_n hx hb dX5_enter_1 rfl (lv_at hl 2 rfl) ?_
  refine lv_iadd hx hb dX5_enter_2 ?_
  refine lv_topi (fun x_1 ex_1 => ?_)
  have hf := hf x_1 ex_1
  refine lv_istore (lv' := [(4, .int x_1), (0, .ref (a 0)), (1, .int x1), (2, .int x2), (3, .int x3)]) hx hb dX5_enter_3 hl (by decide) rfl (fun ls hl => ?_)
  refine lv_aload_n hx hb dX5_enter_5 rfl (lv_at hl 1 rfl) ?_
  refine va_get (D := (dC, dI)) (ci := 4) (v := .ref (a 8)) (C := RX5) (T := TX5) (N := 9) hx hb hts inX5 hown hK hP 0 rfl rfl 3 (by decide) (hts _ q_fl_X5_35) (fun _ h9 => h9) rfl dX5_enter_6 ?_
  refine lv_iload_n hx hb dX5_enter_9 rfl (lv_at hl 2 rfl) ?_
  refine lv_aload_n hx hb dX5_enter_10 rfl (lv_at hl 1 rfl) ?_
  refine va_get (D := (dC, dI)) (ci := 4) (v := .ref (a 1)) (C := RX5) (T := TX5) (N := 9) hx hb hts inX5 hown hK hP 0 rfl rfl 0 (by decide) (hts _ q_fl_X5_12) (fun _ h9 => h9) rfl dX5_enter_11 ?_
  refine va_get (D := (dC, dI)) (ci := 6) (v := .int u.1.2.2.1) (C := RX7) (T := TX7) (N := 4) hx hb hts inX7 hown hK hP 1 rfl rfl 2 (by decide) (hts _ q_fl_X5_64) (fun _ h9 => h9) rfl dX5_enter_14 ?_
  refine z_cVi (As := [.int x1, .int u.1.2.2.1]) (rest := []) X (c_X9_isFullFor l dC dI cI cJ cS (fun i => a (8 + i)) u.2.2.2.1 x1 u.1.2.2.1 _ hf) zc_X9_isFullFor q_ml_X5_185 ⟨rfl, rfl⟩ ⟨Nat.le_of_ble_eq_true rfl, Nat.le_of_ble_eq_true rfl⟩ hP [8, 9, 10] rfl 8 rfl rfl hl.1 rfl rfl (Nat.le_of_ble_eq_true rfl) ⟨Nat.zero_le _, Nat.zero_le _⟩ dX5_enter_17 (fun r_2 hf => ?_)
  obtain ⟨hbr_2, hf⟩ := hf
  refine lv_if_eq (tgt := 27) hx hb dX5_enter_20 (by decide) (fun c_3 => ?_) (fun c_3 => ?_)
  · have hf := hf.1 c_3
    refine lv_aload_n hx hb dX5_enter_27 rfl (lv_at hl 1 rfl) ?_
    refine z_cVi (As := []) (rest := []) X (c_X5_leftOpen l dC dI cI cJ cS a u  _ hf) zc_X5_leftOpen q_ml_X5_189 ⟨rfl, rfl⟩ ⟨Nat.le_of_ble_eq_true rfl, Nat.le_of_ble_eq_true rfl⟩ hP [0, 1, 2, 3, 4, 5, 6, 7, 8, 9, 10, 11, 12, 13, 14] rfl 4 rfl rfl hl.1 rfl rfl (Nat.le_of_ble_eq_true rfl) ⟨Nat.zero_le _, Nat.zero_le _⟩ dX5_enter_28 (fun r_4 hf => ?_)
    refine lv_iload hx hb dX5_enter_31 (lv_at hl 0 rfl) ?_
    refine lv_icmp_ge (tgt := 62) hx hb dX5_enter_33 (by decide) (fun c_5 => ?_) (fun c_5 => ?_)
    · have hf := hf.1 c_5
      refine lv_aload_n hx hb dX5_enter_62 rfl (lv_at hl 1 rfl) ?_
      refine lv_dup hx hb dX5_enter_63 rfl ?_
      refine va_get (D := (dC, dI)) (ci := 4) (v := .int u.2.2.2.2.2.2.1) (C := RX5) (T := TX5) (N := 9) hx hb hts inX5 hown hK hP 0 rfl rfl 6 (by decide) (hts _ q_fl_X5_81) (fun _ h9 => h9) rfl dX5_enter_64 ?_
      refine lv_iconst (v := 1) hx hb dX5_enter_67 (by decide) ?_
      refine lv_iadd hx hb dX5_enter_68 ?_
      refine lv_topi (fun x_6 ex_6 => ?_)
      have hf := hf x_6 ex_6
      refine z_put (w' := cl_X5 cI cJ a (u.1, u.2.1, u.2.2.1, u.2.2.2.1, u.2.2.2.2.1, u.2.2.2.2.2.1, x_6, u.2.2.2.2.2.2.2.1, u.2.2.2.2.2.2.2.2)) (ci := 4) (v := .int x_6) (ty := .int) (Cn := RX5) (T := TX5) (N := 9) X inX5 tyX5 tyX5_ok nmX5 hP hD hS 0 rfl rfl 6 (by decide) (hts _ q_fl_X5_81) (fun _ h9 => h9) rfl (tyX5_ok 6 (by decide)) rfl rfl (Nat.le_of_ble_eq_true rfl) rfl dX5_enter_69 (fun H locs hP hD hS => ?_)
      refine lv_aload_n hx hb dX5_enter_72 rfl (lv_at hl 1 rfl) ?_
      refine va_get (D := (dC, dI)) (ci := 4) (v := .ref (a 2)) (C := RX5) (T := TX5) (N := 9) hx hb hts inX5 hown hK hP 0 rfl rfl 1 (by decide) (hts _ q_fl_X5_21) (fun _ h9 => h9) rfl dX5_enter_73 ?_
      refine lv_dup hx hb dX5_enter_76 rfl ?_
      refine va_get (D := (dC, dI)) (ci := 7) (v := .int u.2.1.1) (C := RX8) (T := TX8) (N := 5) hx hb hts inX8 hown hK hP 2 rfl rfl 0 (by decide) (hts _ q_fl_X5_202) (fun _ h9 => h9) rfl dX5_enter_77 ?_
      refine lv_iload hx hb dX5_enter_80 (lv_at hl 0 rfl) ?_
      refine lv_iadd hx hb dX5_enter_82 ?_
      refine lv_topi (fun x_7 ex_7 => ?_)
      have hf := hf x_7 ex_7
      refine z_put (w' := cl_X5 cI cJ a (u.1, (x_7, u.2.1.2.1, u.2.1.2.2.1, u.2.1.2.2.2.1, u.2.1.2.2.2.2), u.2.2.1, u.2.2.2.1, u.2.2.2.2.1, u.2.2.2.2.2.1, x_6, u.2.2.2.2.2.2.2.1, u.2.2.2.2.2.2.2.2)) (ci := 7) (v := .int x_7) (ty := .int) (Cn := RX8) (T := TX8) (N := 5) X inX8 tyX8 tyX8_ok nmX8 hP hD hS 2 rfl rfl 0 (by decide) (hts _ q_fl_X5_202) (fun _ h9 => h9) rfl (tyX8_ok 0 (by decide)) rfl rfl (Nat.le_of_ble_eq_true rfl) rfl dX5_enter_83 (fun H locs hP hD hS => ?_)
      refine lv_aload_n hx hb dX5_enter_86 rfl (lv_at hl 1 rfl) ?_
      refine va_get (D := (dC, dI)) (ci := 4) (v := .ref (a 8)) (C := RX5) (T := TX5) (N := 9) hx hb hts inX5 hown hK hP 0 rfl rfl 3 (by decide) (hts _ q_fl_X5_35) (fun _ h9 => h9) rfl dX5_enter_87 ?_
      refine lv_aload_n hx hb dX5_enter_90 rfl (lv_at hl 1 rfl) ?_
      refine va_get (D := (dC, dI)) (ci := 4) (v := .ref (a 3)) (C := RX5) (T := TX5) (N := 9) hx hb hts inX5 hown hK hP 0 rfl rfl 2 (by decide) (hts _ q_fl_X5_28) (fun _ h9 => h9) rfl dX5_enter_91 ?_
      refine lv_aload_n hx hb dX5_enter_94 rfl (lv_at hl 1 rfl) ?_
      refine va_get (D := (dC, dI)) (ci := 4) (v := .int x_6) (C := RX5) (T := TX5) (N := 9) hx hb hts inX5 hown hK hP 0 rfl rfl 6 (by decide) (hts _ q_fl_X5_81) (fun _ h9 => h9) rfl dX5_enter_95 ?_
      refine lv_iload_n hx hb dX5_enter_98 rfl (lv_at hl 2 rfl) ?_
      refine lv_iload_n hx hb dX5_enter_99 rfl (lv_at hl 3 rfl) ?_
      refine lv_iload_n hx hb dX5_enter_100 rfl (lv_at hl 4 rfl) ?_
      refine z_mVl (Wn := (fun u_9 => cl_X5 cI cJ a (u.1, (x_7, u.2.1.2.1, u.2.1.2.2.1, u.2.1.2.2.2.1, u.2.1.2.2.2.2), u_9, u.2.2.2.1, u.2.2.2.2.1, u.2.2.2.2.2.1, x_6, u.2.2.2.2.2.2.2.1, u.2.2.2.2.2.2.2.2))) (As := [.int x_6, .int x1, .int x2, .int x3]) (rest := [.ref (a 8)]) (wr := [0, 1, 2, 8, 9, 10, 11, 12, 13, 14].filterMap (fun i => (cl_X5 cI cJ a (u.1, (x_7, u.2.1.2.1, u.2.1.2.2.1, u.2.1.2.2.2.1, u.2.1.2.2.2.2), u.2.2.1, u.2.2.2.1, u.2.2.2.2.1, u.2.2.2.2.2.1, x_6, u.2.2.2.2.2.2.2.1, u.2.2.2.2.2.2.2.2))[i]?)) X (c_X4_append l dC dI cI cJ cS (fun i => a (3 + i)) u.2.2.1 x_6 x1 x2 x3 _ hf _) zc_X4_append q_ml_X5_205 ⟨rfl, rfl⟩ ⟨Nat.le_of_ble_eq_true rfl, Nat.le_of_ble_eq_true rfl⟩ hP hD hS hA [3, 4, 5, 6, 7] [0, 1, 2, 8, 9, 10, 11, 12, 13, 14] rfl (by decide) rfl (by decide) (by decide) [0, 1, 2, 10, 11, 12, 13, 14, 3, 4, 5, 6, 7, 8, 9] (by decide) (fun _ => rfl) 3 rfl rfl hl.1 rfl rfl (Nat.le_of_ble_eq_true rfl) ⟨Nat.zero_le _, Nat.zero_le _⟩ dX5_enter_101 (fun r_8 u_9 H locs hf hP hD hS => ?_)
      refine z_mVv (Wn := (fun u_11 => cl_X5 cI cJ a (u.1, (x_7, u.2.1.2.1, u.2.1.2.2.1, u.2.1.2.2.2.1, u.2.1.2.2.2.2), u_9, u_11, u.2.2.2.2.1, u.2.2.2.2.2.1, x_6, u.2.2.2.2.2.2.2.1, u.2.2.2.2.2.2.2.2))) (As := [.long r_8]) (rest := []) (wr := [0, 1, 2, 3, 4, 5, 6, 7, 11, 12, 13, 14].filterMap (fun i => (cl_X5 cI cJ a (u.1, (x_7, u.2.1.2.1, u.2.1.2.2.1, u.2.1.2.2.2.1, u.2.1.2.2.2.2), u_9, u.2.2.2.1, u.2.2.2.2.1, u.2.2.2.2.2.1, x_6, u.2.2.2.2.2.2.2.1, u.2.2.2.2.2.2.2.2))[i]?)) X (c_X9_intoTable l dC dI cI cJ cS (fun i => a (8 + i)) u.2.2.2.1 r_8 _ hf _) zc_X9_intoTable q_ml_X5_209 ⟨rfl, rfl⟩ ⟨Nat.le_of_ble_eq_true rfl, Nat.le_of_ble_eq_true rfl⟩ hP hD hS hA [8, 9, 10] [0, 1, 2, 3, 4, 5, 6, 7, 11, 12, 13, 14] rfl (by decide) rfl (by decide) (by decide) [0, 1, 2, 3, 4, 5, 6, 7, 12, 13, 14, 8, 9, 10, 11] (by decide) (fun _ => rfl) 8 rfl rfl hl.1 rfl rfl (Nat.le_of_ble_eq_true rfl) ⟨Nat.zero_le _, Nat.zero_le _⟩ dX5_enter_104 (fun u_11 H locs hf hP hD hS => ?_)
      refine lv_aload_n hx hb dX5_enter_107 rfl (lv_at hl 1 rfl) ?_
      refine va_get (D := (dC, dI)) (ci := 4) (v := .int x_6) (C := RX5) (T := TX5) (N := 9) hx hb hts inX5 hown hK hP 0 rfl rfl 6 (by decide) (hts _ q_fl_X5_81) (fun _ h9 => h9) rfl dX5_enter_108 ?_
      exact z_retMi (Wf := (fun z => cl_X5 cI cJ a z)) (u := (u.1, (x_7, u.2.1.2.1, u.2.1.2.2.1, u.2.1.2.2.2.1, u.2.1.2.2.2.2), u_9, u_11, u.2.2.2.2.1, u.2.2.2.2.2.1, x_6, u.2.2.2.2.2.2.2.1, u.2.2.2.2.2.2.2.2)) X hf hP hD hS dX5_enter_111
    · have hf := hf.2 c_5
      refine lv_aload_n hx hb dX5_enter_36 rfl (lv_at hl 1 rfl) ?_
      refine va_get (D := (dC, dI)) (ci := 4) (v := .ref (a 13)) (C := RX5) (T := TX5) (N := 9) hx hb hts inX5 hown hK hP 0 rfl rfl 5 (by decide) (hts _ q_fl_X5_49) (fun _ h9 => h9) rfl dX5_enter_37 ?_
      refine lv_iconst (v := 4) hx hb dX5_enter_40 (by decide) ?_
      refine lv_aload_n hx hb dX5_enter_41 rfl (lv_at hl 1 rfl) ?_
      refine va_get (D := (dC, dI)) (ci := 4) (v := .ref (a 3)) (C := RX5) (T := TX5) (N := 9) hx hb hts inX5 hown hK hP 0 rfl rfl 2 (by decide) (hts _ q_fl_X5_28) (fun _ h9 => h9) rfl dX5_enter_42 ?_
      refine va_get (D := (dC, dI)) (ci := 3) (v := .int u.2.2.1.2.2.2.2) (C := RX4) (T := TX4) (N := 5) hx hb hts inX4 hown hK hP 3 rfl rfl 4 (by decide) (hts _ q_fl_X5_192) (fun _ h9 => h9) rfl dX5_enter_45 ?_
      refine lv_aload_n hx hb dX5_enter_48 rfl (lv_at hl 1 rfl) ?_
      refine va_get (D := (dC, dI)) (ci := 4) (v := .int u.2.2.2.2.2.2.1) (C := RX5) (T := TX5) (N := 9) hx hb hts inX5 hown hK hP 0 rfl rfl 6 (by decide) (hts _ q_fl_X5_81) (fun _ h9 => h9) rfl dX5_enter_49 ?_
      refine z_mVv (Wn := (fun u_13 => cl_X5 cI cJ a (u.1, u.2.1, u.2.2.1, u.2.2.2.1, u.2.2.2.2.1, u_13, u.2.2.2.2.2.2.1, u.2.2.2.2.2.2.2.1, u.2.2.2.2.2.2.2.2))) (As := [.int (4 : Int32), .int u.2.2.1.2.2.2.2, .int u.2.2.2.2.2.2.1]) (rest := []) (wr := [0, 1, 2, 3, 4, 5, 6, 7, 8, 9, 10, 11, 12].filterMap (fun i => (cl_X5 cI cJ a u)[i]?)) X (c_X2_tellOf l dC dI cI cJ cS (fun i => a (13 + i)) u.2.2.2.2.2.1 (4 : Int32) u.2.2.1.2.2.2.2 u.2.2.2.2.2.2.1 _ hf _) zc_X2_tellOf q_ml_X5_195 ⟨rfl, rfl⟩ ⟨Nat.le_of_ble_eq_true rfl, Nat.le_of_ble_eq_true rfl⟩ hP hD hS hA [13, 14] [0, 1, 2, 3, 4, 5, 6, 7, 8, 9, 10, 11, 12] rfl (by decide) rfl (by decide) (by decide) [0, 1, 2, 3, 4, 5, 6, 7, 8, 9, 10, 11, 12, 13, 14] (by decide) (fun _ => rfl) 1 rfl rfl hl.1 rfl rfl (Nat.le_of_ble_eq_true rfl) ⟨Nat.zero_le _, Nat.zero_le _⟩ dX5_enter_52 (fun u_13 H locs hf hP hD hS => ?_)
      refine lv_aload_n hx hb dX5_enter_55 rfl (lv_at hl 1 rfl) ?_
      refine va_get (D := (dC, dI)) (ci := 4) (v := .ref (a 3)) (C := RX5) (T := TX5) (N := 9) hx hb hts inX5 hown hK hP 0 rfl rfl 2 (by decide) (hts _ q_fl_X5_28) (fun _ h9 => h9) rfl dX5_enter_56 ?_
      refine z_mVv (Wn := (fun u_15 => cl_X5 cI cJ a (u.1, u.2.1, u_15, u.2.2.2.1, u.2.2.2.2.1, u_13, u.2.2.2.2.2.2.1, u.2.2.2.2.2.2.2.1, u.2.2.2.2.2.2.2.2))) (As := []) (rest := []) (wr := [0, 1, 2, 8, 9, 10, 11, 12, 13, 14].filterMap (fun i => (cl_X5 cI cJ a (u.1, u.2.1, u.2.2.1, u.2.2.2.1, u.2.2.2.2.1, u_13, u.2.2.2.2.2.2.1, u.2.2.2.2.2.2.2.1, u.2.2.2.2.2.2.2.2))[i]?)) X (c_X4_openNext l dC dI cI cJ cS (fun i => a (3 + i)) u.2.2.1  _ hf _) zc_X4_openNext q_ml_X5_199 ⟨rfl, rfl⟩ ⟨Nat.le_of_ble_eq_true rfl, Nat.le_of_ble_eq_true rfl⟩ hP hD hS hA [3, 4, 5, 6, 7] [0, 1, 2, 8, 9, 10, 11, 12, 13, 14] rfl (by decide) rfl (by decide) (by decide) [0, 1, 2, 10, 11, 12, 13, 14, 3, 4, 5, 6, 7, 8, 9] (by decide) (fun _ => rfl) 3 rfl rfl hl.1 rfl rfl (Nat.le_of_ble_eq_true rfl) ⟨Nat.zero_le _, Nat.zero_le _⟩ dX5_enter_59 (fun u_15 H locs hf hP hD hS => ?_)
      refine lv_aload_n hx hb dX5_enter_62 rfl (lv_at hl 1 rfl) ?_
      refine lv_dup hx hb dX5_enter_63 rfl ?_
      refine va_get (D := (dC, dI)) (ci := 4) (v := .int u.2.2.2.2.2.2.1) (C := RX5) (T := TX5) (N := 9) hx hb hts inX5 hown hK hP 0 rfl rfl 6 (by decide) (hts _ q_fl_X5_81) (fun _ h9 => h9) rfl dX5_enter_64 ?_
      refine lv_iconst (v := 1) hx hb dX5_enter_67 (by decide) ?_
      refine lv_iadd hx hb dX5_enter_68 ?_
      refine lv_topi (fun x_16 ex_16 => ?_)
      have hf := hf x_16 ex_16
      refine z_put (w' := cl_X5 cI cJ a (u.1, u.2.1, u_15, u.2.2.2.1, u.2.2.2.2.1, u_13, x_16, u.2.2.2.2.2.2.2.1, u.2.2.2.2.2.2.2.2)) (ci := 4) (v := .int x_16) (ty := .int) (Cn := RX5) (T := TX5) (N := 9) X inX5 tyX5 tyX5_ok nmX5 hP hD hS 0 rfl rfl 6 (by decide) (hts _ q_fl_X5_81) (fun _ h9 => h9) rfl (tyX5_ok 6 (by decide)) rfl rfl (Nat.le_of_ble_eq_true rfl) rfl dX5_enter_69 (fun H locs hP hD hS => ?_)
      refine lv_aload_n hx hb dX5_enter_72 rfl (lv_at hl 1 rfl) ?_
      refine va_get (D := (dC, dI)) (ci := 4) (v := .ref (a 2)) (C := RX5) (T := TX5) (N := 9) hx hb hts inX5 hown hK hP 0 rfl rfl 1 (by decide) (hts _ q_fl_X5_21) (fun _ h9 => h9) rfl dX5_enter_73 ?_
      refine lv_dup hx hb dX5_enter_76 rfl ?_
      refine va_get (D := (dC, dI)) (ci := 7) (v := .int u.2.1.1) (C := RX8) (T := TX8) (N := 5) hx hb hts inX8 hown hK hP 2 rfl rfl 0 (by decide) (hts _ q_fl_X5_202) (fun _ h9 => h9) rfl dX5_enter_77 ?_
      refine lv_iload hx hb dX5_enter_80 (lv_at hl 0 rfl) ?_
      refine lv_iadd hx hb dX5_enter_82 ?_
      refine lv_topi (fun x_17 ex_17 => ?_)
      have hf := hf x_17 ex_17
      refine z_put (w' := cl_X5 cI cJ a (u.1, (x_17, u.2.1.2.1, u.2.1.2.2.1, u.2.1.2.2.2.1, u.2.1.2.2.2.2), u_15, u.2.2.2.1, u.2.2.2.2.1, u_13, x_16, u.2.2.2.2.2.2.2.1, u.2.2.2.2.2.2.2.2)) (ci := 7) (v := .int x_17) (ty := .int) (Cn := RX8) (T := TX8) (N := 5) X inX8 tyX8 tyX8_ok nmX8 hP hD hS 2 rfl rfl 0 (by decide) (hts _ q_fl_X5_202) (fun _ h9 => h9) rfl (tyX8_ok 0 (by decide)) rfl rfl (Nat.le_of_ble_eq_true rfl) rfl dX5_enter_83 (fun H locs hP hD hS => ?_)
      refine lv_aload_n hx hb dX5_enter_86 rfl (lv_at hl 1 rfl) ?_
      refine va_get (D := (dC, dI)) (ci := 4) (v := .ref (a 8)) (C := RX5) (T := TX5) (N := 9) hx hb hts inX5 hown hK hP 0 rfl rfl 3 (by decide) (hts _ q_fl_X5_35) (fun _ h9 => h9) rfl dX5_enter_87 ?_
      refine lv_aload_n hx hb dX5_enter_90 rfl (lv_at hl 1 rfl) ?_
      refine va_get (D := (dC, dI)) (ci := 4) (v := .ref (a 3)) (C := RX5) (T := TX5) (N := 9) hx hb hts inX5 hown hK hP 0 rfl rfl 2 (by decide) (hts _ q_fl_X5_28) (fun _ h9 => h9) rfl dX5_enter_91 ?_
      refine lv_aload_n hx hb dX5_enter_94 rfl (lv_at hl 1 rfl) ?_
      refine va_get (D := (dC, dI)) (ci := 4) (v := .int x_16) (C := RX5) (T := TX5) (N := 9) hx hb hts inX5 hown hK hP 0 rfl rfl 6 (by decide) (hts _ q_fl_X5_81) (fun _ h9 => h9) rfl dX5_enter_95 ?_
      refine lv_iload_n hx hb dX5_enter_98 rfl (lv_at hl 2 rfl) ?_
      refine lv_iload_n hx hb dX5_enter_99 rfl (lv_at hl 3 rfl) ?_
      refine lv_iload_n hx hb dX5_enter_100 rfl (lv_at hl 4 rfl) ?_
      refine z_mVl (Wn := (fun u_19 => cl_X5 cI cJ a (u.1, (x_17, u.2.1.2.1, u.2.1.2.2.1, u.2.1.2.2.2.1, u.2.1.2.2.2.2), u_19, u.2.2.2.1, u.2.2.2.2.1, u_13, x_16, u.2.2.2.2.2.2.2.1, u.2.2.2.2.2.2.2.2))) (As := [.int x_16, .int x1, .int x2, .int x3]) (rest := [.ref (a 8)]) (wr := [0, 1, 2, 8, 9, 10, 11, 12, 13, 14].filterMap (fun i => (cl_X5 cI cJ a (u.1, (x_17, u.2.1.2.1, u.2.1.2.2.1, u.2.1.2.2.2.1, u.2.1.2.2.2.2), u_15, u.2.2.2.1, u.2.2.2.2.1, u_13, x_16, u.2.2.2.2.2.2.2.1, u.2.2.2.2.2.2.2.2))[i]?)) X (c_X4_append l dC dI cI cJ cS (fun i => a (3 + i)) u_15 x_16 x1 x2 x3 _ hf _) zc_X4_append q_ml_X5_205 ⟨rfl, rfl⟩ ⟨Nat.le_of_ble_eq_true rfl, Nat.le_of_ble_eq_true rfl⟩ hP hD hS hA [3, 4, 5, 6, 7] [0, 1, 2, 8, 9, 10, 11, 12, 13, 14] rfl (by decide) rfl (by decide) (by decide) [0, 1, 2, 10, 11, 12, 13, 14, 3, 4, 5, 6, 7, 8, 9] (by decide) (fun _ => rfl) 3 rfl rfl hl.1 rfl rfl (Nat.le_of_ble_eq_true rfl) ⟨Nat.zero_le _, Nat.zero_le _⟩ dX5_enter_101 (fun r_18 u_19 H locs hf hP hD hS => ?_)
      refine z_mVv (Wn := (fun u_21 => cl_X5 cI cJ a (u.1, (x_17, u.2.1.2.1, u.2.1.2.2.1, u.2.1.2.2.2.1, u.2.1.2.2.2.2), u_19, u_21, u.2.2.2.2.1, u_13, x_16, u.2.2.2.2.2.2.2.1, u.2.2.2.2.2.2.2.2))) (As := [.long r_18]) (rest := []) (wr := [0, 1, 2, 3, 4, 5, 6, 7, 11, 12, 13, 14].filterMap (fun i => (cl_X5 cI cJ a (u.1, (x_17, u.2.1.2.1, u.2.1.2.2.1, u.2.1.2.2.2.1, u.2.1.2.2.2.2), u_19, u.2.2.2.1, u.2.2.2.2.1, u_13, x_16, u.2.2.2.2.2.2.2.1, u.2.2.2.2.2.2.2.2))[i]?)) X (c_X9_intoTable l dC dI cI cJ cS (fun i => a (8 + i)) u.2.2.2.1 r_18 _ hf _) zc_X9_intoTable q_ml_X5_209 ⟨rfl, rfl⟩ ⟨Nat.le_of_ble_eq_true rfl, Nat.le_of_ble_eq_true rfl⟩ hP hD hS hA [8, 9, 10] [0, 1, 2, 3, 4, 5, 6, 7, 11, 12, 13, 14] rfl (by decide) rfl (by decide) (by decide) [0, 1, 2, 3, 4, 5, 6, 7, 12, 13, 14, 8, 9, 10, 11] (by decide) (fun _ => rfl) 8 rfl rfl hl.1 rfl rfl (Nat.le_of_ble_eq_true rfl) ⟨Nat.zero_le _, Nat.zero_le _⟩ dX5_enter_104 (fun u_21 H locs hf hP hD hS => ?_)
      refine lv_aload_n hx hb dX5_enter_107 rfl (lv_at hl 1 rfl) ?_
      refine va_get (D := (dC, dI)) (ci := 4) (v := .int x_16) (C := RX5) (T := TX5) (N := 9) hx hb hts inX5 hown hK hP 0 rfl rfl 6 (by decide) (hts _ q_fl_X5_81) (fun _ h9 => h9) rfl dX5_enter_108 ?_
      exact z_retMi (Wf := (fun z => cl_X5 cI cJ a z)) (u := (u.1, (x_17, u.2.1.2.1, u.2.1.2.2.1, u.2.1.2.2.2.1, u.2.1.2.2.2.2), u_19, u_21, u.2.2.2.2.1, u_13, x_16, u.2.2.2.2.2.2.2.1, u.2.2.2.2.2.2.2.2)) X hf hP hD hS dX5_enter_111
  · have hf := hf.2 c_3
    refine lv_aload_n hx hb dX5_enter_23 rfl (lv_at hl 1 rfl) ?_
    refine z_mVv (Wn := (fun u_23 => cl_X5 cI cJ a u_23)) (As := []) (rest := []) (wr := []) X (c_X5_flushTable l dC dI cI cJ cS a u  _ hf _) zc_X5_flushTable q_ml_X5_164 ⟨rfl, rfl⟩ ⟨Nat.le_of_ble_eq_true rfl, Nat.le_of_ble_eq_true rfl⟩ hP hD hS hA [0, 1, 2, 3, 4, 5, 6, 7, 8, 9, 10, 11, 12, 13, 14] [] rfl (by decide) rfl (by decide) (by decide) [0, 1, 2, 3, 4, 5, 6, 7, 8, 9, 10, 11, 12, 13, 14] (by decide) (fun _ => rfl) 4 rfl rfl hl.1 rfl rfl (Nat.le_of_ble_eq_true rfl) ⟨Nat.zero_le _, Nat.zero_le _⟩ dX5_enter_24 (fun u_23 H locs hf hP hD hS => ?_)
    refine lv_aload_n hx hb dX5_enter_27 rfl (lv_at hl 1 rfl) ?_
    refine z_cVi (As := []) (rest := []) X (c_X5_leftOpen l dC dI cI cJ cS a u_23  _ hf) zc_X5_leftOpen q_ml_X5_189 ⟨rfl, rfl⟩ ⟨Nat.le_of_ble_eq_true rfl, Nat.le_of_ble_eq_true rfl⟩ hP [0, 1, 2, 3, 4, 5, 6, 7, 8, 9, 10, 11, 12, 13, 14] rfl 4 rfl rfl hl.1 rfl rfl (Nat.le_of_ble_eq_true rfl) ⟨Nat.zero_le _, Nat.zero_le _⟩ dX5_enter_28 (fun r_24 hf => ?_)
    refine lv_iload hx hb dX5_enter_31 (lv_at hl 0 rfl) ?_
    refine lv_icmp_ge (tgt := 62) hx hb dX5_enter_33 (by decide) (fun c_25 => ?_) (fun c_25 => ?_)
    · have hf := hf.1 c_25
      refine lv_aload_n hx hb dX5_enter_62 rfl (lv_at hl 1 rfl) ?_
      refine lv_dup hx hb dX5_enter_63 rfl ?_
      refine va_get (D := (dC, dI)) (ci := 4) (v := .int u_23.2.2.2.2.2.2.1) (C := RX5) (T := TX5) (N := 9) hx hb hts inX5 hown hK hP 0 rfl rfl 6 (by decide) (hts _ q_fl_X5_81) (fun _ h9 => h9) rfl dX5_enter_64 ?_
      refine lv_iconst (v := 1) hx hb dX5_enter_67 (by decide) ?_
      refine lv_iadd hx hb dX5_enter_68 ?_
      refine lv_topi (fun x_26 ex_26 => ?_)
      have hf := hf x_26 ex_26
      refine z_put (w' := cl_X5 cI cJ a (u_23.1, u_23.2.1, u_23.2.2.1, u_23.2.2.2.1, u_23.2.2.2.2.1, u_23.2.2.2.2.2.1, x_26, u_23.2.2.2.2.2.2.2.1, u_23.2.2.2.2.2.2.2.2)) (ci := 4) (v := .int x_26) (ty := .int) (Cn := RX5) (T := TX5) (N := 9) X inX5 tyX5 tyX5_ok nmX5 hP hD hS 0 rfl rfl 6 (by decide) (hts _ q_fl_X5_81) (fun _ h9 => h9) rfl (tyX5_ok 6 (by decide)) rfl rfl (Nat.le_of_ble_eq_true rfl) rfl dX5_enter_69 (fun H locs hP hD hS => ?_)
      refine lv_aload_n hx hb dX5_enter_72 rfl (lv_at hl 1 rfl) ?_
      refine va_get (D := (dC, dI)) (ci := 4) (v := .ref (a 2)) (C := RX5) (T := TX5) (N := 9) hx hb hts inX5 hown hK hP 0 rfl rfl 1 (by decide) (hts _ q_fl_X5_21) (fun _ h9 => h9) rfl dX5_enter_73 ?_
      refine lv_dup hx hb dX5_enter_76 rfl ?_
      refine va_get (D := (dC, dI)) (ci := 7) (v := .int u_23.2.1.1) (C := RX8) (T := TX8) (N := 5) hx hb hts inX8 hown hK hP 2 rfl rfl 0 (by decide) (hts _ q_fl_X5_202) (fun _ h9 => h9) rfl dX5_enter_77 ?_
      refine lv_iload hx hb dX5_enter_80 (lv_at hl 0 rfl) ?_
      refine lv_iadd hx hb dX5_enter_82 ?_
      refine lv_topi (fun x_27 ex_27 => ?_)
      have hf := hf x_27 ex_27
      refine z_put (w' := cl_X5 cI cJ a (u_23.1, (x_27, u_23.2.1.2.1, u_23.2.1.2.2.1, u_23.2.1.2.2.2.1, u_23.2.1.2.2.2.2), u_23.2.2.1, u_23.2.2.2.1, u_23.2.2.2.2.1, u_23.2.2.2.2.2.1, x_26, u_23.2.2.2.2.2.2.2.1, u_23.2.2.2.2.2.2.2.2)) (ci := 7) (v := .int x_27) (ty := .int) (Cn := RX8) (T := TX8) (N := 5) X inX8 tyX8 tyX8_ok nmX8 hP hD hS 2 rfl rfl 0 (by decide) (hts _ q_fl_X5_202) (fun _ h9 => h9) rfl (tyX8_ok 0 (by decide)) rfl rfl (Nat.le_of_ble_eq_true rfl) rfl dX5_enter_83 (fun H locs hP hD hS => ?_)
      refine lv_aload_n hx hb dX5_enter_86 rfl (lv_at hl 1 rfl) ?_
      refine va_get (D := (dC, dI)) (ci := 4) (v := .ref (a 8)) (C := RX5) (T := TX5) (N := 9) hx hb hts inX5 hown hK hP 0 rfl rfl 3 (by decide) (hts _ q_fl_X5_35) (fun _ h9 => h9) rfl dX5_enter_87 ?_
      refine lv_aload_n hx hb dX5_enter_90 rfl (lv_at hl 1 rfl) ?_
      refine va_get (D := (dC, dI)) (ci := 4) (v := .ref (a 3)) (C := RX5) (T := TX5) (N := 9) hx hb hts inX5 hown hK hP 0 rfl rfl 2 (by decide) (hts _ q_fl_X5_28) (fun _ h9 => h9) rfl dX5_enter_91 ?_
      refine lv_aload_n hx hb dX5_enter_94 rfl (lv_at hl 1 rfl) ?_
      refine va_get (D := (dC, dI)) (ci := 4) (v := .int x_26) (C := RX5) (T := TX5) (N := 9) hx hb hts inX5 hown hK hP 0 rfl rfl 6 (by decide) (hts _ q_fl_X5_81) (fun _ h9 => h9) rfl dX5_enter_95 ?_
      refine lv_iload_n hx hb dX5_enter_98 rfl (lv_at hl 2 rfl) ?_
      refine lv_iload_n hx hb dX5_enter_99 rfl (lv_at hl 3 rfl) ?_
      refine lv_iload_n hx hb dX5_enter_100 rfl (lv_at hl 4 rfl) ?_
      refine z_mVl (Wn := (fun u_29 => cl_X5 cI cJ a (u_23.1, (x_27, u_23.2.1.2.1, u_23.2.1.2.2.1, u_23.2.1.2.2.2.1, u_23.2.1.2.2.2.2), u_29, u_23.2.2.2.1, u_23.2.2.2.2.1, u_23.2.2.2.2.2.1, x_26, u_23.2.2.2.2.2.2.2.1, u_23.2.2.2.2.2.2.2.2))) (As := [.int x_26, .int x1, .int x2, .int x3]) (rest := [.ref (a 8)]) (wr := [0, 1, 2, 8, 9, 10, 11, 12, 13, 14].filterMap (fun i => (cl_X5 cI cJ a (u_23.1, (x_27, u_23.2.1.2.1, u_23.2.1.2.2.1, u_23.2.1.2.2.2.1, u_23.2.1.2.2.2.2), u_23.2.2.1, u_23.2.2.2.1, u_23.2.2.2.2.1, u_23.2.2.2.2.2.1, x_26, u_23.2.2.2.2.2.2.2.1, u_23.2.2.2.2.2.2.2.2))[i]?)) X (c_X4_append l dC dI cI cJ cS (fun i => a (3 + i)) u_23.2.2.1 x_26 x1 x2 x3 _ hf _) zc_X4_append q_ml_X5_205 ⟨rfl, rfl⟩ ⟨Nat.le_of_ble_eq_true rfl, Nat.le_of_ble_eq_true rfl⟩ hP hD hS hA [3, 4, 5, 6, 7] [0, 1, 2, 8, 9, 10, 11, 12, 13, 14] rfl (by decide) rfl (by decide) (by decide) [0, 1, 2, 10, 11, 12, 13, 14, 3, 4, 5, 6, 7, 8, 9] (by decide) (fun _ => rfl) 3 rfl rfl hl.1 rfl rfl (Nat.le_of_ble_eq_true rfl) ⟨Nat.zero_le _, Nat.zero_le _⟩ dX5_enter_101 (fun r_28 u_29 H locs hf hP hD hS => ?_)
      refine z_mVv (Wn := (fun u_31 => cl_X5 cI cJ a (u_23.1, (x_27, u_23.2.1.2.1, u_23.2.1.2.2.1, u_23.2.1.2.2.2.1, u_23.2.1.2.2.2.2), u_29, u_31, u_23.2.2.2.2.1, u_23.2.2.2.2.2.1, x_26, u_23.2.2.2.2.2.2.2.1, u_23.2.2.2.2.2.2.2.2))) (As := [.long r_28]) (rest := []) (wr := [0, 1, 2, 3, 4, 5, 6, 7, 11, 12, 13, 14].filterMap (fun i => (cl_X5 cI cJ a (u_23.1, (x_27, u_23.2.1.2.1, u_23.2.1.2.2.1, u_23.2.1.2.2.2.1, u_23.2.1.2.2.2.2), u_29, u_23.2.2.2.1, u_23.2.2.2.2.1, u_23.2.2.2.2.2.1, x_26, u_23.2.2.2.2.2.2.2.1, u_23.2.2.2.2.2.2.2.2))[i]?)) X (c_X9_intoTable l dC dI cI cJ cS (fun i => a (8 + i)) u_23.2.2.2.1 r_28 _ hf _) zc_X9_intoTable q_ml_X5_209 ⟨rfl, rfl⟩ ⟨Nat.le_of_ble_eq_true rfl, Nat.le_of_ble_eq_true rfl⟩ hP hD hS hA [8, 9, 10] [0, 1, 2, 3, 4, 5, 6, 7, 11, 12, 13, 14] rfl (by decide) rfl (by decide) (by decide) [0, 1, 2, 3, 4, 5, 6, 7, 12, 13, 14, 8, 9, 10, 11] (by decide) (fun _ => rfl) 8 rfl rfl hl.1 rfl rfl (Nat.le_of_ble_eq_true rfl) ⟨Nat.zero_le _, Nat.zero_le _⟩ dX5_enter_104 (fun u_31 H locs hf hP hD hS => ?_)
      refine lv_aload_n hx hb dX5_enter_107 rfl (lv_at hl 1 rfl) ?_
      refine va_get (D := (dC, dI)) (ci := 4) (v := .int x_26) (C := RX5) (T := TX5) (N := 9) hx hb hts inX5 hown hK hP 0 rfl rfl 6 (by decide) (hts _ q_fl_X5_81) (fun _ h9 => h9) rfl dX5_enter_108 ?_
      exact z_retMi (Wf := (fun z => cl_X5 cI cJ a z)) (u := (u_23.1, (x_27, u_23.2.1.2.1, u_23.2.1.2.2.1, u_23.2.1.2.2.2.1, u_23.2.1.2.2.2.2), u_29, u_31, u_23.2.2.2.2.1, u_23.2.2.2.2.2.1, x_26, u_23.2.2.2.2.2.2.2.1, u_23.2.2.2.2.2.2.2.2)) X hf hP hD hS dX5_enter_111
    · have hf := hf.2 c_25
      refine lv_aload_n hx hb dX5_enter_36 rfl (lv_at hl 1 rfl) ?_
      refine va_get (D := (dC, dI)) (ci := 4) (v := .ref (a 13)) (C := RX5) (T := TX5) (N := 9) hx hb hts inX5 hown hK hP 0 rfl rfl 5 (by decide) (hts _ q_fl_X5_49) (fun _ h9 => h9) rfl dX5_enter_37 ?_
      refine lv_iconst (v := 4) hx hb dX5_enter_40 (by decide) ?_
      refine lv_aload_n hx hb dX5_enter_41 rfl (lv_at hl 1 rfl) ?_
      refine va_get (D := (dC, dI)) (ci := 4) (v := .ref (a 3)) (C := RX5) (T := TX5) (N := 9) hx hb hts inX5 hown hK hP 0 rfl rfl 2 (by decide) (hts _ q_fl_X5_28) (fun _ h9 => h9) rfl dX5_enter_42 ?_
      refine va_get (D := (dC, dI)) (ci := 3) (v := .int u_23.2.2.1.2.2.2.2) (C := RX4) (T := TX4) (N := 5) hx hb hts inX4 hown hK hP 3 rfl rfl 4 (by decide) (hts _ q_fl_X5_192) (fun _ h9 => h9) rfl dX5_enter_45 ?_
      refine lv_aload_n hx hb dX5_enter_48 rfl (lv_at hl 1 rfl) ?_
      refine va_get (D := (dC, dI)) (ci := 4) (v := .int u_23.2.2.2.2.2.2.1) (C := RX5) (T := TX5) (N := 9) hx hb hts inX5 hown hK hP 0 rfl rfl 6 (by decide) (hts _ q_fl_X5_81) (fun _ h9 => h9) rfl dX5_enter_49 ?_
      refine z_mVv (Wn := (fun u_33 => cl_X5 cI cJ a (u_23.1, u_23.2.1, u_23.2.2.1, u_23.2.2.2.1, u_23.2.2.2.2.1, u_33, u_23.2.2.2.2.2.2.1, u_23.2.2.2.2.2.2.2.1, u_23.2.2.2.2.2.2.2.2))) (As := [.int (4 : Int32), .int u_23.2.2.1.2.2.2.2, .int u_23.2.2.2.2.2.2.1]) (rest := []) (wr := [0, 1, 2, 3, 4, 5, 6, 7, 8, 9, 10, 11, 12].filterMap (fun i => (cl_X5 cI cJ a u_23)[i]?)) X (c_X2_tellOf l dC dI cI cJ cS (fun i => a (13 + i)) u_23.2.2.2.2.2.1 (4 : Int32) u_23.2.2.1.2.2.2.2 u_23.2.2.2.2.2.2.1 _ hf _) zc_X2_tellOf q_ml_X5_195 ⟨rfl, rfl⟩ ⟨Nat.le_of_ble_eq_true rfl, Nat.le_of_ble_eq_true rfl⟩ hP hD hS hA [13, 14] [0, 1, 2, 3, 4, 5, 6, 7, 8, 9, 10, 11, 12] rfl (by decide) rfl (by decide) (by decide) [0, 1, 2, 3, 4, 5, 6, 7, 8, 9, 10, 11, 12, 13, 14] (by decide) (fun _ => rfl) 1 rfl rfl hl.1 rfl rfl (Nat.le_of_ble_eq_true rfl) ⟨Nat.zero_le _, Nat.zero_le _⟩ dX5_enter_52 (fun u_33 H locs hf hP hD hS => ?_)
      refine lv_aload_n hx hb dX5_enter_55 rfl (lv_at hl 1 rfl) ?_
      refine va_get (D := (dC, dI)) (ci := 4) (v := .ref (a 3)) (C := RX5) (T := TX5) (N := 9) hx hb hts inX5 hown hK hP 0 rfl rfl 2 (by decide) (hts _ q_fl_X5_28) (fun _ h9 => h9) rfl dX5_enter_56 ?_
      refine z_mVv (Wn := (fun u_35 => cl_X5 cI cJ a (u_23.1, u_23.2.1, u_35, u_23.2.2.2.1, u_23.2.2.2.2.1, u_33, u_23.2.2.2.2.2.2.1, u_23.2.2.2.2.2.2.2.1, u_23.2.2.2.2.2.2.2.2))) (As := []) (rest := []) (wr := [0, 1, 2, 8, 9, 10, 11, 12, 13, 14].filterMap (fun i => (cl_X5 cI cJ a (u_23.1, u_23.2.1, u_23.2.2.1, u_23.2.2.2.1, u_23.2.2.2.2.1, u_33, u_23.2.2.2.2.2.2.1, u_23.2.2.2.2.2.2.2.1, u_23.2.2.2.2.2.2.2.2))[i]?)) X (c_X4_openNext l dC dI cI cJ cS (fun i => a (3 + i)) u_23.2.2.1  _ hf _) zc_X4_openNext q_ml_X5_199 ⟨rfl, rfl⟩ ⟨Nat.le_of_ble_eq_true rfl, Nat.le_of_ble_eq_true rfl⟩ hP hD hS hA [3, 4, 5, 6, 7] [0, 1, 2, 8, 9, 10, 11, 12, 13, 14] rfl (by decide) rfl (by decide) (by decide) [0, 1, 2, 10, 11, 12, 13, 14, 3, 4, 5, 6, 7, 8, 9] (by decide) (fun _ => rfl) 3 rfl rfl hl.1 rfl rfl (Nat.le_of_ble_eq_true rfl) ⟨Nat.zero_le _, Nat.zero_le _⟩ dX5_enter_59 (fun u_35 H locs hf hP hD hS => ?_)
      refine lv_aload_n hx hb dX5_enter_62 rfl (lv_at hl 1 rfl) ?_
      refine lv_dup hx hb dX5_enter_63 rfl ?_
      refine va_get (D := (dC, dI)) (ci := 4) (v := .int u_23.2.2.2.2.2.2.1) (C := RX5) (T := TX5) (N := 9) hx hb hts inX5 hown hK hP 0 rfl rfl 6 (by decide) (hts _ q_fl_X5_81) (fun _ h9 => h9) rfl dX5_enter_64 ?_
      refine lv_iconst (v := 1) hx hb dX5_enter_67 (by decide) ?_
      refine lv_iadd hx hb dX5_enter_68 ?_
      refine lv_topi (fun x_36 ex_36 => ?_)
      have hf := hf x_36 ex_36
      refine z_put (w' := cl_X5 cI cJ a (u_23.1, u_23.2.1, u_35, u_23.2.2.2.1, u_23.2.2.2.2.1, u_33, x_36, u_23.2.2.2.2.2.2.2.1, u_23.2.2.2.2.2.2.2.2)) (ci := 4) (v := .int x_36) (ty := .int) (Cn := RX5) (T := TX5) (N := 9) X inX5 tyX5 tyX5_ok nmX5 hP hD hS 0 rfl rfl 6 (by decide) (hts _ q_fl_X5_81) (fun _ h9 => h9) rfl (tyX5_ok 6 (by decide)) rfl rfl (Nat.le_of_ble_eq_true rfl) rfl dX5_enter_69 (fun H locs hP hD hS => ?_)
      refine lv_aload_n hx hb dX5_enter_72 rfl (lv_at hl 1 rfl) ?_
      refine va_get (D := (dC, dI)) (ci := 4) (v := .ref (a 2)) (C := RX5) (T := TX5) (N := 9) hx hb hts inX5 hown hK hP 0 rfl rfl 1 (by decide) (hts _ q_fl_X5_21) (fun _ h9 => h9) rfl dX5_enter_73 ?_
      refine lv_dup hx hb dX5_enter_76 rfl ?_
      refine va_get (D := (dC, dI)) (ci := 7) (v := .int u_23.2.1.1) (C := RX8) (T := TX8) (N := 5) hx hb hts inX8 hown hK hP 2 rfl rfl 0 (by decide) (hts _ q_fl_X5_202) (fun _ h9 => h9) rfl dX5_enter_77 ?_
      refine lv_iload hx hb dX5_enter_80 (lv_at hl 0 rfl) ?_
      refine lv_iadd hx hb dX5_enter_82 ?_
      refine lv_topi (fun x_37 ex_37 => ?_)
      have hf := hf x_37 ex_37
      refine z_put (w' := cl_X5 cI cJ a (u_23.1, (x_37, u_23.2.1.2.1, u_23.2.1.2.2.1, u_23.2.1.2.2.2.1, u_23.2.1.2.2.2.2), u_35, u_23.2.2.2.1, u_23.2.2.2.2.1, u_33, x_36, u_23.2.2.2.2.2.2.2.1, u_23.2.2.2.2.2.2.2.2)) (ci := 7) (v := .int x_37) (ty := .int) (Cn := RX8) (T := TX8) (N := 5) X inX8 tyX8 tyX8_ok nmX8 hP hD hS 2 rfl rfl 0 (by decide) (hts _ q_fl_X5_202) (fun _ h9 => h9) rfl (tyX8_ok 0 (by decide)) rfl rfl (Nat.le_of_ble_eq_true rfl) rfl dX5_enter_83 (fun H locs hP hD hS => ?_)
      refine lv_aload_n hx hb dX5_enter_86 rfl (lv_at hl 1 rfl) ?_
      refine va_get (D := (dC, dI)) (ci := 4) (v := .ref (a 8)) (C := RX5) (T := TX5) (N := 9) hx hb hts inX5 hown hK hP 0 rfl rfl 3 (by decide) (hts _ q_fl_X5_35) (fun _ h9 => h9) rfl dX5_enter_87 ?_
      refine lv_aload_n hx hb dX5_enter_90 rfl (lv_at hl 1 rfl) ?_
      refine va_get (D := (dC, dI)) (ci := 4) (v := .ref (a 3)) (C := RX5) (T := TX5) (N := 9) hx hb hts inX5 hown hK hP 0 rfl rfl 2 (by decide) (hts _ q_fl_X5_28) (fun _ h9 => h9) rfl dX5_enter_91 ?_
      refine lv_aload_n hx hb dX5_enter_94 rfl (lv_at hl 1 rfl) ?_
      refine va_get (D := (dC, dI)) (ci := 4) (v := .int x_36) (C := RX5) (T := TX5) (N := 9) hx hb hts inX5 hown hK hP 0 rfl rfl 6 (by decide) (hts _ q_fl_X5_81) (fun _ h9 => h9) rfl dX5_enter_95 ?_
      refine lv_iload_n hx hb dX5_enter_98 rfl (lv_at hl 2 rfl) ?_
      refine lv_iload_n hx hb dX5_enter_99 rfl (lv_at hl 3 rfl) ?_
      refine lv_iload_n hx hb dX5_enter_100 rfl (lv_at hl 4 rfl) ?_
      refine z_mVl (Wn := (fun u_39 => cl_X5 cI cJ a (u_23.1, (x_37, u_23.2.1.2.1, u_23.2.1.2.2.1, u_23.2.1.2.2.2.1, u_23.2.1.2.2.2.2), u_39, u_23.2.2.2.1, u_23.2.2.2.2.1, u_33, x_36, u_23.2.2.2.2.2.2.2.1, u_23.2.2.2.2.2.2.2.2))) (As := [.int x_36, .int x1, .int x2, .int x3]) (rest := [.ref (a 8)]) (wr := [0, 1, 2, 8, 9, 10, 11, 12, 13, 14].filterMap (fun i => (cl_X5 cI cJ a (u_23.1, (x_37, u_23.2.1.2.1, u_23.2.1.2.2.1, u_23.2.1.2.2.2.1, u_23.2.1.2.2.2.2), u_35, u_23.2.2.2.1, u_23.2.2.2.2.1, u_33, x_36, u_23.2.2.2.2.2.2.2.1, u_23.2.2.2.2.2.2.2.2))[i]?)) X (c_X4_append l dC dI cI cJ cS (fun i => a (3 + i)) u_35 x_36 x1 x2 x3 _ hf _) zc_X4_append q_ml_X5_205 ⟨rfl, rfl⟩ ⟨Nat.le_of_ble_eq_true rfl, Nat.le_of_ble_eq_true rfl⟩ hP hD hS hA [3, 4, 5, 6, 7] [0, 1, 2, 8, 9, 10, 11, 12, 13, 14] rfl (by decide) rfl (by decide) (by decide) [0, 1, 2, 10, 11, 12, 13, 14, 3, 4, 5, 6, 7, 8, 9] (by decide) (fun _ => rfl) 3 rfl rfl hl.1 rfl rfl (Nat.le_of_ble_eq_true rfl) ⟨Nat.zero_le _, Nat.zero_le _⟩ dX5_enter_101 (fun r_38 u_39 H locs hf hP hD hS => ?_)
      refine z_mVv (Wn := (fun u_41 => cl_X5 cI cJ a (u_23.1, (x_37, u_23.2.1.2.1, u_23.2.1.2.2.1, u_23.2.1.2.2.2.1, u_23.2.1.2.2.2.2), u_39, u_41, u_23.2.2.2.2.1, u_33, x_36, u_23.2.2.2.2.2.2.2.1, u_23.2.2.2.2.2.2.2.2))) (As := [.long r_38]) (rest := []) (wr := [0, 1, 2, 3, 4, 5, 6, 7, 11, 12, 13, 14].filterMap (fun i => (cl_X5 cI cJ a (u_23.1, (x_37, u_23.2.1.2.1, u_23.2.1.2.2.1, u_23.2.1.2.2.2.1, u_23.2.1.2.2.2.2), u_39, u_23.2.2.2.1, u_23.2.2.2.2.1, u_33, x_36, u_23.2.2.2.2.2.2.2.1, u_23.2.2.2.2.2.2.2.2))[i]?)) X (c_X9_intoTable l dC dI cI cJ cS (fun i => a (8 + i)) u_23.2.2.2.1 r_38 _ hf _) zc_X9_intoTable q_ml_X5_209 ⟨rfl, rfl⟩ ⟨Nat.le_of_ble_eq_true rfl, Nat.le_of_ble_eq_true rfl⟩ hP hD hS hA [8, 9, 10] [0, 1, 2, 3, 4, 5, 6, 7, 11, 12, 13, 14] rfl (by decide) rfl (by decide) (by decide) [0, 1, 2, 3, 4, 5, 6, 7, 12, 13, 14, 8, 9, 10, 11] (by decide) (fun _ => rfl) 8 rfl rfl hl.1 rfl rfl (Nat.le_of_ble_eq_true rfl) ⟨Nat.zero_le _, Nat.zero_le _⟩ dX5_enter_104 (fun u_41 H locs hf hP hD hS => ?_)
      refine lv_aload_n hx hb dX5_enter_107 rfl (lv_at hl 1 rfl) ?_
      refine va_get (D := (dC, dI)) (ci := 4) (v := .int x_36) (C := RX5) (T := TX5) (N := 9) hx hb hts inX5 hown hK hP 0 rfl rfl 6 (by decide) (hts _ q_fl_X5_81) (fun _ h9 => h9) rfl dX5_enter_108 ?_
      exact z_retMi (Wf := (fun z => cl_X5 cI cJ a z)) (u := (u_23.1, (x_37, u_23.2.1.2.1, u_23.2.1.2.2.1, u_23.2.1.2.2.2.1, u_23.2.1.2.2.2.2), u_39, u_41, u_23.2.2.2.2.1, u_33, x_36, u_23.2.2.2.2.2.2.2.1, u_23.2.2.2.2.2.2.2.2)) X hf hP hD hS dX5_enter_111
/-! what ENTER does keeps the invariant -/
theorem gB_ge (g : zSegs) (s : Nat) : ∀ j, 4 * j ≤ gB g s j
  | 0 => Nat.le_refl 0
  | j + 1 => by have := gB_ge g s j; unfold gB; omega
/-- a step that leaves the picked segment as it is keeps the collection -/
theorem ColOk.seg {g g' : zSegs} {p q : Int64 → Prop} {c : zColl} (h : ColOk g p c) (hk : ∀ s, s < 12 → g.2.2.2.1 s = 2 → g'.2.2.2.1 s = 2 ∧ gN g' s = gN g s ∧ (∀ j, j < gN g s → g'.1 (50 * s + j) = g.1 (50 * s + j)) ∧ (∀ j, j < gN g s → q (g.1 (50 * s + j)) → p (g.1 (50 * s + j)))) : ColOk g' q c := by
  obtain ⟨h1, h2, h3⟩ := h
  refine ⟨h1, h2, ?_⟩
  rcases h3 with h3 | ⟨s, a1, a2, a3, a4, a5⟩
  · exact Or.inl h3
  · obtain ⟨k1, k2, k3, k4⟩ := hk s a1 a3
    refine Or.inr ⟨s, a1, a2, k1, fun i hi => ?_, fun j hj hl => ?_⟩
    · obtain ⟨j, hj, e⟩ := a4 i hi
      exact ⟨j, by rw [k2]; exact hj, by rw [k3 j hj]; exact e⟩
    · rw [k2] at hj
      rw [k3 j hj] at hl ⊢
      exact a5 j hj (k4 j hj hl)
theorem uFst_0 {u : zState} (h : uFst u < 12) : u.2.2.1.2.2.2.1 (uFst u) = 0 := by
  have := fa_first_yes (fun s => decide (u.2.2.1.2.2.2.1 s = 0)) 12 h
  exact of_decide_eq_true this
theorem zPr.e2 {ρ β mo lm L S M B ln : Nat} {v : zState} (h : zP ρ β mo lm L S M B v) (hl : ln ≤ 40) (hf : uFits v (4 + nI ln) = true) :
    zP ρ β mo lm L S M B (uE2 v (4 + nI ln)) ∧ gB (uE2 v (4 + nI ln)).2.2.1 (gO (uE2 v (4 + nI ln)).2.2.1) (gN (uE2 v (4 + nI ln)).2.2.1 (gO (uE2 v (4 + nI ln)).2.2.1)) + (4 + ln) ≤ ρ := by
  obtain ⟨h1, h2, h3, h4, h5, hg, ht, hR, hL, hC, hD, hT⟩ := id h
  have hz : (4 : Int32) + nI ln = nI (4 + ln) := nI_add 4 ln
  have htk := hg.2.2.2.1 _ hg.1.2
  have hleft : uLeft v = nI (ρ - gB v.2.2.1 (gO v.2.2.1) (gN v.2.2.1 (gO v.2.2.1))) := by
    show v.1.1 - v.2.2.1.2.2.1 (gO v.2.2.1) = _
    rw [h1.1, htk.1]
    exact (lN_subI htk.2)
  unfold uE2
  by_cases hc : (4 : Int32) + nI ln ≤ uLeft v
  · rw [if_pos hc]
    refine ⟨h, ?_⟩
    rw [hz, hleft] at hc
    have := (nI_leI (by omega) (by omega)).mp hc
    have := htk.2
    omega
  · rw [if_neg hc]
    have hfr : uFst v < 12 := by
      have := of_decide_eq_true hf
      exact this.resolve_left hc
    obtain ⟨hg', eo⟩ := hg.nxt hfr (uFst_0 hfr)
    have hn0 : gN v.2.2.1 (uFst v) = 0 := (hg.2.2.1 _ hfr).2.2 (uFst_0 hfr)
    refine ⟨⟨h1, h2, h3, h4, h5, hg', ht, hR, hL, hC.seg (fun s hs hk => ⟨?_, rfl, fun _ _ => rfl, fun _ _ q => q⟩), hD.tell _ _ _, hT⟩, ?_⟩
    · show upd (upd v.2.2.1.2.2.2.1 (oN v) 2) (uFst v) 1 s = 2
      unfold upd
      rw [if_neg (fun q => by rw [q, uFst_0 hfr] at hk; exact absurd hk (by decide))]
      by_cases q : s = oN v
      · rw [if_pos q]
      · rw [if_neg q]; exact hk
    · show gB (zNxt v.2.2.1 (gO v.2.2.1) (uFst v)) (gO (zNxt v.2.2.1 (gO v.2.2.1) (uFst v))) (gN (zNxt v.2.2.1 (gO v.2.2.1) (uFst v)) (gO (zNxt v.2.2.1 (gO v.2.2.1) (uFst v)))) + (4 + ln) ≤ ρ
      rw [eo, gN_nxt, hn0]
      show 0 + (4 + ln) ≤ ρ
      omega
theorem uNew_eq {ρ β mo lm L S M B k ln sd : Nat} {w : zState} (h : zP ρ β mo lm L S M B w) : uNew w k ln sd = cMk (nI (L + 1)) (nI (gO w.2.2.1)) (nI (gB w.2.2.1 (gO w.2.2.1) (gN w.2.2.1 (gO w.2.2.1)))) (nI k) (nI ln) (nI sd) := by
  obtain ⟨h1, h2, h3, h4, h5, hg, -⟩ := h
  show cMk (w.2.2.2.2.2.2.1 + 1) (nI (gO w.2.2.1)) (w.2.2.1.2.2.1 (gO w.2.2.1)) (nI k) (nI ln) (nI sd) = _
  rw [h5.1, nI_1, (hg.2.2.2.1 _ hg.1.2).1]
theorem uNew_ok {ρ β mo lm L S M B k ln sd : Nat} {w : zState} (h : zP ρ β mo lm L S M B w) (hB : B < 400000) (hk : k < 64) (hl : ln ≤ 40) (hs : sd < 256) :
    cSeg (uNew w k ln sd) = nI (gO w.2.2.1) ∧ cBeg (uNew w k ln sd) = nI (gB w.2.2.1 (gO w.2.2.1) (gN w.2.2.1 (gO w.2.2.1))) ∧ cNum (uNew w k ln sd) = nI (L + 1) ∧ cKey (uNew w k ln sd) = nI k ∧ cLen (uNew w k ln sd) = nI ln ∧ cSeed (uNew w k ln sd) = nI sd ∧ cnN (uNew w k ln sd) = L + 1 ∧ lnN (uNew w k ln sd) = ln ∧ kN (uNew w k ln sd) = k ∧ ¬ uNew w k ln sd = 0 := by
  rw [uNew_eq h]
  obtain ⟨h1, h2, h3, h4, h5, hg, -⟩ := h
  have hb := (hg.2.2.2.1 _ hg.1.2).2
  have ho := hg.1.2
  have q1 : L + 1 < 2 ^ 30 := by omega
  have q2 : gO w.2.2.1 < 16 := by omega
  have q3 : gB w.2.2.1 (gO w.2.2.1) (gN w.2.2.1 (gO w.2.2.1)) < 256 := by omega
  have q4 : ln < 64 := by omega
  have en := mk_num q1 q2 q3 hk q4 hs
  have el := mk_len q1 q2 q3 hk q4 hs
  have ek := mk_key q1 q2 q3 hk q4 hs
  refine ⟨mk_seg q1 q2 q3 hk q4 hs, mk_beg q1 q2 q3 hk q4 hs, en, ek, el, mk_seed q1 q2 q3 hk q4 hs, ?_, ?_, ?_, ?_⟩
  · unfold cnN; rw [en, nI_clamp (by omega)]
  · unfold lnN; rw [el, nI_clamp (by omega)]
  · unfold kN; rw [ek, nI_clamp (by omega)]
  · intro q
    rw [q, cNum_0] at en
    have := (nI_eq (a := 0) (b := L + 1) (by decide) (by omega)).mp en
    omega
theorem zPr.e3 {ρ β mo lm L S M B k ln sd : Nat} {w : zState} (h : zP ρ β mo lm L S M B w) (hB : B < 400000) (hk : k < 64) (hl : ln ≤ 40) (hs : sd < 256) (hroom : gB w.2.2.1 (gO w.2.2.1) (gN w.2.2.1 (gO w.2.2.1)) + (4 + ln) ≤ ρ) : zP ρ β mo lm (L + 1) S M (B + 1) (uE3 w k ln sd) := by
  obtain ⟨c1, c2, c3, c4, c5, c6, c7, c8, c9, c10⟩ := uNew_ok h hB hk hl hs
  obtain ⟨h1, h2, h3, h4, h5, hg, ht, hR, hL, hC, hD, hT⟩ := h
  obtain ⟨a1, a2, a3, a4, a5, a6, a7⟩ := h5
  have hge := gB_ge w.2.2.1 (gO w.2.2.1) (gN w.2.2.1 (gO w.2.2.1))
  have hn50 : gN w.2.2.1 (gO w.2.2.1) < 50 := by omega
  have h50 : ∀ s, s < 12 → gN w.2.2.1 s ≤ 50 := fun s hs => (hg.2.1 s hs).2
  have hrec : RecOk (L + 1) (gO w.2.2.1) (gB w.2.2.1 (gO w.2.2.1) (gN w.2.2.1 (gO w.2.2.1))) (uNew w k ln sd) := ⟨c1, c2, by rw [c7]; exact c3, by rw [c7]; omega, by rw [c7]; omega, by rw [c8]; exact hl⟩
  have hent : EntOk M (L + 1) k (uNew w k ln sd) := ⟨c4, by rw [c7]; exact c3, by rw [c7]; omega, by rw [c7]; omega, by rw [c8]; exact hl⟩
  have hin : inSeg (zApp w.2.2.1 (gO w.2.2.1) (gN w.2.2.1 (gO w.2.2.1)) (nI ln) (uNew w k ln sd)) (uNew w k ln sd) := ⟨gO w.2.2.1, gN w.2.2.1 (gO w.2.2.1), hg.1.2, by rw [gN_app _ _ _ hn50, if_pos rfl]; omega, app_new _ _ _ _ _⟩
  refine ⟨h1, h2, h3, h4, ⟨by show w.2.2.2.2.2.2.1 + 1 = _; rw [a1, nI_1], a2, a3, a4, by omega, by omega, by omega⟩, hg.app hn50 hroom h1.2.2 hrec c7 c8, ht.into (by omega) hk hent, hR, ⟨fun j hj hn => ?_, fun j hj hn => ?_⟩, hC.seg (fun s hs hk2 => ?_), hD, ?_⟩
  · have hn : ¬ (zInto w.2.2.2.1 k (uNew w k ln sd)).1 j = 0 := hn
    show inSeg _ ((zInto w.2.2.2.1 k (uNew w k ln sd)).1 j)
    rw [into_tab] at hn ⊢
    by_cases q : j = k
    · rw [if_pos q]; exact hin
    · rw [if_neg q] at hn ⊢; exact (hL.1 j hj hn).app hn50 h50
  · have hn : w.1.2.1 < cLen (runCur (zInto w.2.2.2.1 k (uNew w k ln sd)).1 (tR w.2.2.2.1) j) := hn
    show inSeg _ (runCur (zInto w.2.2.2.1 k (uNew w k ln sd)).1 (tR w.2.2.2.1) j)
    rw [into_run _ _ hk hj] at hn ⊢
    exact (hL.2 j hj hn).app hn50 h50
  · have hso : ¬ s = gO w.2.2.1 := fun q => by
      have := ((hg.2.2.1 s hs).1).mpr q
      rw [hk2] at this
      exact absurd this (by decide)
    refine ⟨hk2, ?_, fun j hj => ?_, fun j hj hq => ?_⟩
    · show gN (zApp w.2.2.1 (gO w.2.2.1) (gN w.2.2.1 (gO w.2.2.1)) (nI ln) (uNew w k ln sd)) s = _
      rw [gN_app _ _ _ hn50, if_neg hso]
    · have := h50 s hs
      exact app_old _ _ _ hn50 (by omega) (fun q => hso q.1)
    · have hq : tLiv w.1.2.1 (zInto w.2.2.2.1 k (uNew w k ln sd)) (w.2.2.1.1 (50 * s + j)) = true := hq
      show tLiv w.1.2.1 w.2.2.2.1 (w.2.2.1.1 (50 * s + j)) = true
      unfold tLiv at hq ⊢
      rw [tCur_into _ hk (kN_lt _) c10] at hq
      by_cases hkk : kN (w.2.2.1.1 (50 * s + j)) = k
      · rw [if_pos hkk] at hq
        have := (of_decide_eq_true hq).2
        have e1 := (hg.2.2.2.2.1 s hs j hj).1
        rw [← this, c1] at e1
        have ho12 := hg.1.2
        exact absurd ((nI_eq (by omega) (by omega)).mp e1).symm hso
      · rw [if_neg hkk] at hq; exact hq
  · obtain ⟨x, y, t1, t2, t3, t4⟩ := hT
    exact ⟨x + (4 + ln), y, by show w.2.1.1 + (4 + nI ln) = _; rw [t1, n_lit4, nI_add, nI_add], t2, by omega, by omega⟩
/-- the record that is written, from a State with room -/
def entT (v : zState) (x_1 x1 x2 x3 : Int32) (Q : Int32 → zState → Prop) : Prop := s_X5_leftOpen v (fun r_4 : Int32 => ((x_1 ≤ r_4 → ∀ x_6 : Int32, x_6 = (v.2.2.2.2.2.2.1 + (1 : Int32)) → ∀ x_7 : Int32, x_7 = (v.2.1.1 + x_1) → s_X4_append v.2.2.1 x_6 x1 x2 x3 (fun (r_8 : Int64) (u_9 : zSegs) => s_X9_intoTable v.2.2.2.1 r_8 (fun (u_11 : zTree) => Q x_6 (v.1, (x_7, v.2.1.2.1, v.2.1.2.2.1, v.2.1.2.2.2.1, v.2.1.2.2.2.2), u_9, u_11, v.2.2.2.2.1, v.2.2.2.2.2.1, x_6, v.2.2.2.2.2.2.2.1, v.2.2.2.2.2.2.2.2)))) ∧ (¬ x_1 ≤ r_4 → s_X2_tellOf v.2.2.2.2.2.1 (4 : Int32) v.2.2.1.2.2.2.2 v.2.2.2.2.2.2.1 (fun (u_13 : zDiary) => s_X4_openNext v.2.2.1 (fun (u_15 : zSegs) => ∀ x_16 : Int32, x_16 = (v.2.2.2.2.2.2.1 + (1 : Int32)) → ∀ x_17 : Int32, x_17 = (v.2.1.1 + x_1) → s_X4_append u_15 x_16 x1 x2 x3 (fun (r_18 : Int64) (u_19 : zSegs) => s_X9_intoTable v.2.2.2.1 r_18 (fun (u_21 : zTree) => Q x_16 (v.1, (x_17, v.2.1.2.1, v.2.1.2.2.1, v.2.1.2.2.2.1, v.2.1.2.2.2.2), u_19, u_21, v.2.2.2.2.1, u_13, x_16, v.2.2.2.2.2.2.2.1, v.2.2.2.2.2.2.2.2))))))))
theorem ent_app {ρ β mo lm L S M B k ln sd : Nat} {w : zState} (h : zP ρ β mo lm L S M B w) (hB : B < 400000) (hk : k < 64) (hl : ln ≤ 40) (hs : sd < 256) (hroom : gB w.2.2.1 (gO w.2.2.1) (gN w.2.2.1 (gO w.2.2.1)) + (4 + ln) ≤ ρ) {Q : Int32 → zState → Prop} (hQ : Q (w.2.2.2.2.2.2.1 + 1) (uE3 w k ln sd)) :
    s_X4_append w.2.2.1 (w.2.2.2.2.2.2.1 + 1) (nI k) (nI ln) (nI sd) (fun (r_8 : Int64) (u_9 : zSegs) => s_X9_intoTable w.2.2.2.1 r_8 (fun (u_11 : zTree) => Q (w.2.2.2.2.2.2.1 + 1) (w.1, (w.2.1.1 + (4 + nI ln), w.2.1.2.1, w.2.1.2.2.1, w.2.1.2.2.2.1, w.2.1.2.2.2.2), u_9, u_11, w.2.2.2.2.1, w.2.2.2.2.2.1, w.2.2.2.2.2.2.1 + 1, w.2.2.2.2.2.2.2.1, w.2.2.2.2.2.2.2.2))) := by
  obtain ⟨-, -, -, c4, -⟩ := uNew_ok h hB hk hl hs
  obtain ⟨h1, h2, h3, h4, h5, hg, -⟩ := h
  have hge := gB_ge w.2.2.1 (gO w.2.2.1) (gN w.2.2.1 (gO w.2.2.1))
  exact ⟨gO w.2.2.1, gN w.2.2.1 (gO w.2.2.1), hg.1.2, by omega, hg.1.1, (hg.2.1 _ hg.1.2).1, k, hk, c4, hQ⟩
theorem ent_tail {ρ β mo lm L S M B k ln sd : Nat} {v : zState} (h : zP ρ β mo lm L S M B v) (hB : B < 400000) (hk : k < 64) (hl : ln ≤ 40) (hs : sd < 256) (hf : uFits v (4 + nI ln) = true) {Q : Int32 → zState → Prop} (hQ : Q (v.2.2.2.2.2.2.1 + 1) (uE3 (uE2 v (4 + nI ln)) k ln sd)) : entT v (4 + nI ln) (nI k) (nI ln) (nI sd) Q := by
  obtain ⟨h2, hroom⟩ := zPr.e2 h hl hf
  unfold uE2 at h2 hroom hQ
  refine ⟨h.ok, fun c x6 e6 x7 e7 => ?_, fun c => ⟨h.2.2.2.2.2.2.2.2.2.2.1, ?_⟩⟩
  · rw [if_pos c] at h2 hroom hQ
    subst e6
    subst e7
    exact ent_app h2 hB hk hl hs hroom hQ
  · rw [if_neg c] at h2 hroom hQ
    have hfr : uFst v < 12 := (of_decide_eq_true hf).resolve_left c
    refine ⟨oN v, uFst v, h.ok.1.2, hfr, h.ok.1.1, rfl, fun x16 e16 x17 e17 => ?_⟩
    subst e16
    subst e17
    exact ent_app h2 hB hk hl hs hroom hQ
def s_X5_enter (u : zState) (x1 x2 x3 : Int32) (Q : Int32 → zState → Prop) : Prop := ∃ ρ β mo lm L S M B k ln sd : Nat, zP ρ β mo lm L S M B u ∧ B < 400000 ∧ k < 64 ∧ ln ≤ 40 ∧ sd < 256 ∧ x1 = nI k ∧ x2 = nI ln ∧ x3 = nI sd ∧ uFits u (4 + nI ln) = true ∧ Q (u.2.2.2.2.2.2.1 + 1) (uEnter u k ln sd)
theorem uFits_flush (u : zState) (x : Int32) : uFits (uFlush u) x = uFits u x := by
  obtain ⟨a1, a2, -⟩ := uFlush_same u
  unfold uFits uLeft uFst oN
  rw [a1, a2]
theorem st_X5_enter {u : zState} {x1 x2 x3 : Int32} {Q : Int32 → zState → Prop} (h : s_X5_enter u x1 x2 x3 Q) : t_X5_enter u x1 x2 x3 Q := by
  obtain ⟨ρ, β, mo, lm, L, S, M, B, k, ln, sd, h, hB, hk, hl, hs, rfl, rfl, rfl, hf, hQ⟩ := h
  have hr5 : tR u.2.2.2.1 < 5 := by have := h.2.2.2.2.2.2.2.1; have := h.2.2.2.1; omega
  unfold uEnter uE1 at hQ
  intro x e
  subst e
  refine ⟨k, hk, rfl, fun c => ⟨fun _ => ?_, fun q => absurd rfl q⟩, fun c1 c2 => ⟨fun q => absurd q (by decide), fun _ => ⟨⟨h.ok, h.2.2.2.2.2.2.2.2.2.2.1, hr5⟩, ?_⟩⟩⟩
  · rw [if_pos c] at hQ
    exact ent_tail h hB hk hl hs hf hQ
  · rw [if_neg (fun q => q.elim c1 (fun q => q c2))] at hQ
    refine ent_tail (zPr.flush h) hB hk hl hs (by rw [uFits_flush]; exact hf) ?_
    rw [(uFlush_same u).2.2.2.1]
    exact hQ
/-- ENTER keeps the invariant -/
theorem zPr.enter {ρ β mo lm L S M B k ln sd : Nat} {u : zState} (h : zP ρ β mo lm L S M B u) (hB : B < 400000) (hk : k < 64) (hl : ln ≤ 40) (hs : sd < 256) (hf : uFits u (4 + nI ln) = true) : ∃ S' M', zP ρ β mo lm (L + 1) S' M' (B + 1) (uEnter u k ln sd) := by
  unfold uEnter uE1
  split
  · obtain ⟨h2, hroom⟩ := zPr.e2 h hl hf
    exact ⟨S, M, zPr.e3 h2 hB hk hl hs hroom⟩
  · obtain ⟨h2, hroom⟩ := zPr.e2 (zPr.flush h) hl (by rw [uFits_flush]; exact hf)
    exact ⟨L, L, zPr.e3 h2 hB hk hl hs hroom⟩
theorem c_X5_enter (l : Launch) (dC : Nat → ClassId) (dI : Nat → Nat → Nat) (cI cJ cS : ClassId) (a : Nat → Nat) (u : zState) (x1 : Int32) (x2 : Int32) (x3 : Int32) (Q : Int32 → zState → Prop) (hf : s_X5_enter u x1 x2 x3 Q) : ∀ sz : Nat, Met l yX5_enter (Cond.code yX5_enter cX5_enter 5 (some .int) :: zT) rm_X5_enter (zPm dC dI cI cJ cS (cl_X5 cI cJ a u) [.ref (a 0), .int x1, .int x2, .int x3] sz) (va_Qi Q (zB dC dI cI cJ cS (va_A (cl_X5 cI cJ a u) sz) (fun z => cl_X5 cI cJ a z)) (va_A (cl_X5 cI cJ a u) sz)) 0 0 (va_A (cl_X5 cI cJ a u) sz) := L_X5_enter l dC dI cI cJ cS a u x1 x2 x3 Q (st_X5_enter hf)
