def t_X11_act (u : zModel) (Q : Int32 → zModel → Prop) : Prop := s_X11_here u (fun (r_1 : Int32) (u_2 : zModel) => s_X11_has u_2 (wdL 0) (fun (r_4 : Int32) (u_5 : zModel) => ((r_4 = 0 → s_X11_has u_5 (wdL 1) (fun (r_8 : Int32) (u_9 : zModel) => ((r_8 = 0 → s_X11_has u_9 (wdL 2) (fun (r_12 : Int32) (u_13 : zModel) => ((r_12 = 0 → s_X11_has u_13 (wdL 3) (fun (r_16 : Int32) (u_17 : zModel) => ((r_16 = 0 → s_X11_has u_17 (wdL 4) (fun (r_20 : Int32) (u_21 : zModel) => ((r_20 = 0 → s_X11_has u_21 (wdL 5) (fun (r_24 : Int32) (u_25 : zModel) => ((r_24 = 0 → s_X11_has u_25 (wdL 6) (fun (r_28 : Int32) (u_29 : zModel) => ((r_28 = 0 → s_X11_has u_29 (wdL 7) (fun (r_32 : Int32) (u_33 : zModel) => ((r_32 = 0 → s_X11_has u_33 (wdL 8) (fun (r_36 : Int32) (u_37 : zModel) => ((r_36 = 0 → s_X11_has u_37 (wdL 9) (fun (r_40 : Int32) (u_41 : zModel) => ((r_40 = 0 → s_X11_wrong u_41 r_1 (fun (u_44 : zModel) => (((0 : Int32) ≤ 0 → Q (0 : Int32) u_44) ∧ (¬ (0 : Int32) ≤ 0 → s_X11_wrong u_44 r_1 (fun (u_47 : zModel) => Q (0 : Int32) u_47))))) ∧ (¬ r_40 = 0 → s_X11_merges u_41 (fun (u_49 : zModel) => (((0 : Int32) ≤ 0 → Q (0 : Int32) u_49) ∧ (¬ (0 : Int32) ≤ 0 → s_X11_wrong u_49 r_1 (fun (u_52 : zModel) => Q (0 : Int32) u_52)))))))) ∧ (¬ r_36 = 0 → s_X11_quit0 u_37 (fun (r_53 : Int32) (u_54 : zModel) => ((r_53 ≤ 0 → Q r_53 u_54) ∧ (¬ r_53 ≤ 0 → s_X11_wrong u_54 r_1 (fun (u_57 : zModel) => Q r_53 u_57)))))))) ∧ (¬ r_32 = 0 → s_X11_number u_33 (1 : Int32) (20 : Int32) (fun (r_58 : Int32) (u_59 : zModel) => ((¬ u_59.2.2.2.2.2.2.2.2.2.2.2.2.2.1 = (-1 : Int32) → (((0 : Int32) ≤ 0 → Q (0 : Int32) u_59) ∧ (¬ (0 : Int32) ≤ 0 → s_X11_wrong u_59 r_1 (fun (u_63 : zModel) => Q (0 : Int32) u_63)))) ∧ (u_59.2.2.2.2.2.2.2.2.2.2.2.2.2.1 = (-1 : Int32) → s_X11_step0 u_59 r_58 (fun (r_64 : Int32) (u_65 : zModel) => ((r_64 ≤ 0 → Q r_64 u_65) ∧ (¬ r_64 ≤ 0 → s_X11_wrong u_65 r_1 (fun (u_68 : zModel) => Q r_64 u_68))))))))))) ∧ (¬ r_28 = 0 → s_X11_pickText u_29 (fun (r_69 : Int32) (u_70 : zModel) => ((r_69 ≤ 0 → Q r_69 u_70) ∧ (¬ r_69 ≤ 0 → s_X11_wrong u_70 r_1 (fun (u_73 : zModel) => Q r_69 u_73)))))))) ∧ (¬ r_24 = 0 → s_X11_crash0 u_25 (fun (r_74 : Int32) (u_75 : zModel) => (((0 : Int32) ≤ 0 → Q (0 : Int32) u_75) ∧ (¬ (0 : Int32) ≤ 0 → s_X11_wrong u_75 r_1 (fun (u_78 : zModel) => Q (0 : Int32) u_78)))))))) ∧ (¬ r_20 = 0 → s_X11_flushes u_21 (fun (u_80 : zModel) => (((0 : Int32) ≤ 0 → Q (0 : Int32) u_80) ∧ (¬ (0 : Int32) ≤ 0 → s_X11_wrong u_80 r_1 (fun (u_83 : zModel) => Q (0 : Int32) u_83)))))))) ∧ (¬ r_16 = 0 → vp_in (5 : Int32) 5497 ∧ vp_in (6 : Int32) 5497 ∧ ∀ f_84 : Nat → Int32, f_84 = upd u_17.2.1 (6 : Int32).toNatClampNeg (u_17.2.1 (5 : Int32).toNatClampNeg) → (((0 : Int32) ≤ 0 → Q (0 : Int32) (u_17.1, f_84, u_17.2.2)) ∧ (¬ (0 : Int32) ≤ 0 → s_X11_wrong (u_17.1, f_84, u_17.2.2) r_1 (fun (u_87 : zModel) => Q (0 : Int32) u_87))))))) ∧ (¬ r_12 = 0 → s_X11_number u_13 (0 : Int32) (63 : Int32) (fun (r_88 : Int32) (u_89 : zModel) => ((¬ u_89.2.2.2.2.2.2.2.2.2.2.2.2.2.1 = (-1 : Int32) → (((0 : Int32) ≤ 0 → Q (0 : Int32) u_89) ∧ (¬ (0 : Int32) ≤ 0 → s_X11_wrong u_89 r_1 (fun (u_93 : zModel) => Q (0 : Int32) u_93)))) ∧ (u_89.2.2.2.2.2.2.2.2.2.2.2.2.2.1 = (-1 : Int32) → s_X11_drop0 u_89 r_88 (fun (r_94 : Int32) (u_95 : zModel) => ((r_94 ≤ 0 → Q r_94 u_95) ∧ (¬ r_94 ≤ 0 → s_X11_wrong u_95 r_1 (fun (u_98 : zModel) => Q r_94 u_98))))))))))) ∧ (¬ r_8 = 0 → s_X11_putText u_9 (fun (r_99 : Int32) (u_100 : zModel) => ((r_99 ≤ 0 → Q r_99 u_100) ∧ (¬ r_99 ≤ 0 → s_X11_wrong u_100 r_1 (fun (u_103 : zModel) => Q r_99 u_103)))))))) ∧ (¬ r_4 = 0 → s_X11_storeText u_5 (fun (u_105 : zModel) => (((0 : Int32) ≤ 0 → Q (0 : Int32) u_105) ∧ (¬ (0 : Int32) ≤ 0 → s_X11_wrong u_105 r_1 (fun (u_108 : zModel) => Q (0 : Int32) u_108))))))))
theorem zc_X11_act : zCalV RX11 yX11_act cX11_act 4 (some .int) 0 := ⟨q_im_X11_act, q_se_X11_act, q_in_X11, q_cd_X11_act, ⟨by decide, by decide, by decide +kernel⟩, rfl⟩
abbrev rm_X11_act : Room := { frames := 9, cells := 0, slots := 0, locals := 201 }
set_option maxHeartbeats 4000000 in
set_option maxRecDepth 100000 in
theorem L_X11_act (l : Launch) (dC : Nat → ClassId) (dI : Nat → Nat → Nat) (cI cJ cS : ClassId) (a : Nat → Nat) (u : zModel) (Q : Int32 → zModel → Prop) (hf : t_X11_act u Q) : ∀ sz : Nat, Met l yX11_act (Cond.code yX11_act cX11_act 4 (some .int) :: zT) rm_X11_act (zPmF zFz dC dI cI cJ cS (cl_X11 cI cJ a u) [.ref (a 0)] sz) (va_Qi Q (zB dC dI cI cJ cS (va_A (cl_X11 cI cJ a u) sz) (fun z => cl_X11 cI cJ a z)) (va_A (cl_X11 cI cJ a u) sz)) 0 0 (va_A (cl_X11 cI cJ a u) sz) := by
  intro sz
  refine z_enterMF (Qc := fun A => va_Qi Q (zB dC dI cI cJ cS A (fun z => cl_X11 cI cJ a z)) A) (cc := cX11_act) (maxL := 4) (ret := (some .int)) (by decide) (Nat.le_of_ble_eq_true rfl) ?_
  intro p e s m below meth c ls A X hP hD hS hA hF hl
  obtain ⟨⟨hx, hb, hml, hown, hts⟩, hr, hlk, hK⟩ := id X
  have hl : lv_has ls 4 [(0, .ref (a 0))] := hl
  unfold t_X11_act at hf
  refine lv_aload_n hx hb dX11_act_0 rfl (lv_at hl 0 rfl) ?_
  refine z_mVi (Wn := (fun u_2 => cl_X11 cI cJ a u_2)) (As := []) (rest := []) (wr := []) X (c_X11_here l dC dI cI cJ cS a u  _ hf _) zc_X11_here q_ml_X11_175 ⟨rfl, rfl⟩ ⟨Nat.le_of_ble_eq_true rfl, Nat.le_of_ble_eq_true rfl⟩ hP hD hS hA [0, 1, 2, 3, 4, 5, 6, 7, 8] [] rfl (by decide) rfl (by decide) (by decide) [0, 1, 2, 3, 4, 5, 6, 7, 8] (by decide) (fun _ => rfl) 10 rfl rfl hl.1 rfl rfl (Nat.le_of_ble_eq_true rfl) ⟨Nat.zero_le _, Nat.zero_le _⟩ dX11_act_1 (fun r_1 u_2 H locs hf hP hD hS => ?_)
  refine lv_istore_n (lv' := [(1, .int r_1), (0, .ref (a 0))]) hx hb dX11_act_4 rfl hl (by decide) rfl (fun ls hl => ?_)
  refine lv_iconst (v := 0) hx hb dX11_act_5 (by decide) ?_
  refine lv_istore_n (lv' := [(2, .int (0 : Int32)), (1, .int r_1), (0, .ref (a 0))]) hx hb dX11_act_6 rfl hl (by decide) rfl (fun ls hl => ?_)
  refine lv_aload_n hx hb dX11_act_7 rfl (lv_at hl 2 rfl) ?_
  obtain ⟨q_3, gq_3, hq_3⟩ := hF.2.1 0
  refine va_ldcS hx hb hown gq_3 dX11_act_8 ?_
  refine z_mViF (Wn := (fun u_5 => cl_X11 cI cJ a u_5)) (As := [.ref q_3]) (rest := []) (wr := []) X (fro_Fzs q_3 (wdL 0)) ⟨hF, hq_3⟩ (c_X11_has l dC dI cI cJ cS a q_3 u_2 (wdL 0) _ hf _) zc_X11_has q_ml_X11_205 ⟨rfl, rfl⟩ ⟨Nat.le_of_ble_eq_true rfl, Nat.le_of_ble_eq_true rfl⟩ hP hD hS hA [0, 1, 2, 3, 4, 5, 6, 7, 8] [] rfl (by decide) rfl (by decide) (by decide) [0, 1, 2, 3, 4, 5, 6, 7, 8] (by decide) (fun _ => rfl) 10 rfl rfl hl.1 rfl rfl (Nat.le_of_ble_eq_true rfl) ⟨Nat.zero_le _, Nat.zero_le _⟩ dX11_act_10 (fun r_4 u_5 H locs hf hP hD hS => ?_)
  obtain ⟨hbr_4, hf⟩ := hf
  refine lv_if_eq (tgt := 23) hx hb dX11_act_13 (by decide) (fun c_6 => ?_) (fun c_6 => ?_)
  · have hf := hf.1 c_6
    refine lv_aload_n hx hb dX11_act_23 rfl (lv_at hl 2 rfl) ?_
    obtain ⟨q_7, gq_7, hq_7⟩ := hF.2.1 1
    refine va_ldcS hx hb hown gq_7 dX11_act_24 ?_
    refine z_mViF (Wn := (fun u_9 => cl_X11 cI cJ a u_9)) (As := [.ref q_7]) (rest := []) (wr := []) X (fro_Fzs q_7 (wdL 1)) ⟨hF, hq_7⟩ (c_X11_has l dC dI cI cJ cS a q_7 u_5 (wdL 1) _ hf _) zc_X11_has q_ml_X11_205 ⟨rfl, rfl⟩ ⟨Nat.le_of_ble_eq_true rfl, Nat.le_of_ble_eq_true rfl⟩ hP hD hS hA [0, 1, 2, 3, 4, 5, 6, 7, 8] [] rfl (by decide) rfl (by decide) (by decide) [0, 1, 2, 3, 4, 5, 6, 7, 8] (by decide) (fun _ => rfl) 10 rfl rfl hl.1 rfl rfl (Nat.le_of_ble_eq_true rfl) ⟨Nat.zero_le _, Nat.zero_le _⟩ dX11_act_26 (fun r_8 u_9 H locs hf hP hD hS => ?_)
    obtain ⟨hbr_8, hf⟩ := hf
    refine lv_if_eq (tgt := 40) hx hb dX11_act_29 (by decide) (fun c_10 => ?_) (fun c_10 => ?_)
    · have hf := hf.1 c_10
      refine lv_aload_n hx hb dX11_act_40 rfl (lv_at hl 2 rfl) ?_
      obtain ⟨q_11, gq_11, hq_11⟩ := hF.2.1 2
      refine va_ldcS hx hb hown gq_11 dX11_act_41 ?_
      refine z_mViF (Wn := (fun u_13 => cl_X11 cI cJ a u_13)) (As := [.ref q_11]) (rest := []) (wr := []) X (fro_Fzs q_11 (wdL 2)) ⟨hF, hq_11⟩ (c_X11_has l dC dI cI cJ cS a q_11 u_9 (wdL 2) _ hf _) zc_X11_has q_ml_X11_205 ⟨rfl, rfl⟩ ⟨Nat.le_of_ble_eq_true rfl, Nat.le_of_ble_eq_true rfl⟩ hP hD hS hA [0, 1, 2, 3, 4, 5, 6, 7, 8] [] rfl (by decide) rfl (by decide) (by decide) [0, 1, 2, 3, 4, 5, 6, 7, 8] (by decide) (fun _ => rfl) 10 rfl rfl hl.1 rfl rfl (Nat.le_of_ble_eq_true rfl) ⟨Nat.zero_le _, Nat.zero_le _⟩ dX11_act_43 (fun r_12 u_13 H locs hf hP hD hS => ?_)
      obtain ⟨hbr_12, hf⟩ := hf
      refine lv_if_eq (tgt := 78) hx hb dX11_act_46 (by decide) (fun c_14 => ?_) (fun c_14 => ?_)
      · have hf := hf.1 c_14
        refine lv_aload_n hx hb dX11_act_78 rfl (lv_at hl 2 rfl) ?_
        obtain ⟨q_15, gq_15, hq_15⟩ := hF.2.1 3
        refine va_ldcS hx hb hown gq_15 dX11_act_79 ?_
        refine z_mViF (Wn := (fun u_17 => cl_X11 cI cJ a u_17)) (As := [.ref q_15]) (rest := []) (wr := []) X (fro_Fzs q_15 (wdL 3)) ⟨hF, hq_15⟩ (c_X11_has l dC dI cI cJ cS a q_15 u_13 (wdL 3) _ hf _) zc_X11_has q_ml_X11_205 ⟨rfl, rfl⟩ ⟨Nat.le_of_ble_eq_true rfl, Nat.le_of_ble_eq_true rfl⟩ hP hD hS hA [0, 1, 2, 3, 4, 5, 6, 7, 8] [] rfl (by decide) rfl (by decide) (by decide) [0, 1, 2, 3, 4, 5, 6, 7, 8] (by decide) (fun _ => rfl) 10 rfl rfl hl.1 rfl rfl (Nat.le_of_ble_eq_true rfl) ⟨Nat.zero_le _, Nat.zero_le _⟩ dX11_act_81 (fun r_16 u_17 H locs hf hP hD hS => ?_)
        obtain ⟨hbr_16, hf⟩ := hf
        refine lv_if_eq (tgt := 103) hx hb dX11_act_84 (by decide) (fun c_18 => ?_) (fun c_18 => ?_)
        · have hf := hf.1 c_18
          refine lv_aload_n hx hb dX11_act_103 rfl (lv_at hl 2 rfl) ?_
          obtain ⟨q_19, gq_19, hq_19⟩ := hF.2.1 4
          refine va_ldcS hx hb hown gq_19 dX11_act_104 ?_
          refine z_mViF (Wn := (fun u_21 => cl_X11 cI cJ a u_21)) (As := [.ref q_19]) (rest := []) (wr := []) X (fro_Fzs q_19 (wdL 4)) ⟨hF, hq_19⟩ (c_X11_has l dC dI cI cJ cS a q_19 u_17 (wdL 4) _ hf _) zc_X11_has q_ml_X11_205 ⟨rfl, rfl⟩ ⟨Nat.le_of_ble_eq_true rfl, Nat.le_of_ble_eq_true rfl⟩ hP hD hS hA [0, 1, 2, 3, 4, 5, 6, 7, 8] [] rfl (by decide) rfl (by decide) (by decide) [0, 1, 2, 3, 4, 5, 6, 7, 8] (by decide) (fun _ => rfl) 10 rfl rfl hl.1 rfl rfl (Nat.le_of_ble_eq_true rfl) ⟨Nat.zero_le _, Nat.zero_le _⟩ dX11_act_106 (fun r_20 u_21 H locs hf hP hD hS => ?_)
          obtain ⟨hbr_20, hf⟩ := hf
          refine lv_if_eq (tgt := 119) hx hb dX11_act_109 (by decide) (fun c_22 => ?_) (fun c_22 => ?_)
          · have hf := hf.1 c_22
            refine lv_aload_n hx hb dX11_act_119 rfl (lv_at hl 2 rfl) ?_
            obtain ⟨q_23, gq_23, hq_23⟩ := hF.2.1 5
            refine va_ldcS hx hb hown gq_23 dX11_act_120 ?_
            refine z_mViF (Wn := (fun u_25 => cl_X11 cI cJ a u_25)) (As := [.ref q_23]) (rest := []) (wr := []) X (fro_Fzs q_23 (wdL 5)) ⟨hF, hq_23⟩ (c_X11_has l dC dI cI cJ cS a q_23 u_21 (wdL 5) _ hf _) zc_X11_has q_ml_X11_205 ⟨rfl, rfl⟩ ⟨Nat.le_of_ble_eq_true rfl, Nat.le_of_ble_eq_true rfl⟩ hP hD hS hA [0, 1, 2, 3, 4, 5, 6, 7, 8] [] rfl (by decide) rfl (by decide) (by decide) [0, 1, 2, 3, 4, 5, 6, 7, 8] (by decide) (fun _ => rfl) 10 rfl rfl hl.1 rfl rfl (Nat.le_of_ble_eq_true rfl) ⟨Nat.zero_le _, Nat.zero_le _⟩ dX11_act_122 (fun r_24 u_25 H locs hf hP hD hS => ?_)
            obtain ⟨hbr_24, hf⟩ := hf
            refine lv_if_eq (tgt := 136) hx hb dX11_act_125 (by decide) (fun c_26 => ?_) (fun c_26 => ?_)
            · have hf := hf.1 c_26
              refine lv_aload_n hx hb dX11_act_136 rfl (lv_at hl 2 rfl) ?_
              obtain ⟨q_27, gq_27, hq_27⟩ := hF.2.1 6
              refine va_ldcS hx hb hown gq_27 dX11_act_137 ?_
              refine z_mViF (Wn := (fun u_29 => cl_X11 cI cJ a u_29)) (As := [.ref q_27]) (rest := []) (wr := []) X (fro_Fzs q_27 (wdL 6)) ⟨hF, hq_27⟩ (c_X11_has l dC dI cI cJ cS a q_27 u_25 (wdL 6) _ hf _) zc_X11_has q_ml_X11_205 ⟨rfl, rfl⟩ ⟨Nat.le_of_ble_eq_true rfl, Nat.le_of_ble_eq_true rfl⟩ hP hD hS hA [0, 1, 2, 3, 4, 5, 6, 7, 8] [] rfl (by decide) rfl (by decide) (by decide) [0, 1, 2, 3, 4, 5, 6, 7, 8] (by decide) (fun _ => rfl) 10 rfl rfl hl.1 rfl rfl (Nat.le_of_ble_eq_true rfl) ⟨Nat.zero_le _, Nat.zero_le _⟩ dX11_act_139 (fun r_28 u_29 H locs hf hP hD hS => ?_)
              obtain ⟨hbr_28, hf⟩ := hf
              refine lv_if_eq (tgt := 153) hx hb dX11_act_142 (by decide) (fun c_30 => ?_) (fun c_30 => ?_)
              · have hf := hf.1 c_30
                refine lv_aload_n hx hb dX11_act_153 rfl (lv_at hl 2 rfl) ?_
                obtain ⟨q_31, gq_31, hq_31⟩ := hF.2.1 7
                refine va_ldcS hx hb hown gq_31 dX11_act_154 ?_
                refine z_mViF (Wn := (fun u_33 => cl_X11 cI cJ a u_33)) (As := [.ref q_31]) (rest := []) (wr := []) X (fro_Fzs q_31 (wdL 7)) ⟨hF, hq_31⟩ (c_X11_has l dC dI cI cJ cS a q_31 u_29 (wdL 7) _ hf _) zc_X11_has q_ml_X11_205 ⟨rfl, rfl⟩ ⟨Nat.le_of_ble_eq_true rfl, Nat.le_of_ble_eq_true rfl⟩ hP hD hS hA [0, 1, 2, 3, 4, 5, 6, 7, 8] [] rfl (by decide) rfl (by decide) (by decide) [0, 1, 2, 3, 4, 5, 6, 7, 8] (by decide) (fun _ => rfl) 10 rfl rfl hl.1 rfl rfl (Nat.le_of_ble_eq_true rfl) ⟨Nat.zero_le _, Nat.zero_le _⟩ dX11_act_156 (fun r_32 u_33 H locs hf hP hD hS => ?_)
                obtain ⟨hbr_32, hf⟩ := hf
                refine lv_if_eq (tgt := 191) hx hb dX11_act_159 (by decide) (fun c_34 => ?_) (fun c_34 => ?_)
                · have hf := hf.1 c_34
                  refine lv_aload_n hx hb dX11_act_191 rfl (lv_at hl 2 rfl) ?_
                  obtain ⟨q_35, gq_35, hq_35⟩ := hF.2.1 8
                  refine va_ldcS hx hb hown gq_35 dX11_act_192 ?_
                  refine z_mViF (Wn := (fun u_37 => cl_X11 cI cJ a u_37)) (As := [.ref q_35]) (rest := []) (wr := []) X (fro_Fzs q_35 (wdL 8)) ⟨hF, hq_35⟩ (c_X11_has l dC dI cI cJ cS a q_35 u_33 (wdL 8) _ hf _) zc_X11_has q_ml_X11_205 ⟨rfl, rfl⟩ ⟨Nat.le_of_ble_eq_true rfl, Nat.le_of_ble_eq_true rfl⟩ hP hD hS hA [0, 1, 2, 3, 4, 5, 6, 7, 8] [] rfl (by decide) rfl (by decide) (by decide) [0, 1, 2, 3, 4, 5, 6, 7, 8] (by decide) (fun _ => rfl) 10 rfl rfl hl.1 rfl rfl (Nat.le_of_ble_eq_true rfl) ⟨Nat.zero_le _, Nat.zero_le _⟩ dX11_act_194 (fun r_36 u_37 H locs hf hP hD hS => ?_)
                  obtain ⟨hbr_36, hf⟩ := hf
                  refine lv_if_eq (tgt := 208) hx hb dX11_act_197 (by decide) (fun c_38 => ?_) (fun c_38 => ?_)
                  · have hf := hf.1 c_38
                    refine lv_aload_n hx hb dX11_act_208 rfl (lv_at hl 2 rfl) ?_
                    obtain ⟨q_39, gq_39, hq_39⟩ := hF.2.1 9
                    refine va_ldcS hx hb hown gq_39 dX11_act_209 ?_
                    refine z_mViF (Wn := (fun u_41 => cl_X11 cI cJ a u_41)) (As := [.ref q_39]) (rest := []) (wr := []) X (fro_Fzs q_39 (wdL 9)) ⟨hF, hq_39⟩ (c_X11_has l dC dI cI cJ cS a q_39 u_37 (wdL 9) _ hf _) zc_X11_has q_ml_X11_205 ⟨rfl, rfl⟩ ⟨Nat.le_of_ble_eq_true rfl, Nat.le_of_ble_eq_true rfl⟩ hP hD hS hA [0, 1, 2, 3, 4, 5, 6, 7, 8] [] rfl (by decide) rfl (by decide) (by decide) [0, 1, 2, 3, 4, 5, 6, 7, 8] (by decide) (fun _ => rfl) 10 rfl rfl hl.1 rfl rfl (Nat.le_of_ble_eq_true rfl) ⟨Nat.zero_le _, Nat.zero_le _⟩ dX11_act_211 (fun r_40 u_41 H locs hf hP hD hS => ?_)
                    obtain ⟨hbr_40, hf⟩ := hf
                    refine lv_if_eq (tgt := 224) hx hb dX11_act_214 (by decide) (fun c_42 => ?_) (fun c_42 => ?_)
                    · have hf := hf.1 c_42
                      refine lv_aload_n hx hb dX11_act_224 rfl (lv_at hl 2 rfl) ?_
                      refine lv_iload_n hx hb dX11_act_225 rfl (lv_at hl 1 rfl) ?_
                      refine z_mVv (Wn := (fun u_44 => cl_X11 cI cJ a u_44)) (As := [.int r_1]) (rest := []) (wr := []) X (c_X11_wrong l dC dI cI cJ cS a u_41 r_1 _ hf _) zc_X11_wrong q_ml_X11_187 ⟨rfl, rfl⟩ ⟨Nat.le_of_ble_eq_true rfl, Nat.le_of_ble_eq_true rfl⟩ hP hD hS hA [0, 1, 2, 3, 4, 5, 6, 7, 8] [] rfl (by decide) rfl (by decide) (by decide) [0, 1, 2, 3, 4, 5, 6, 7, 8] (by decide) (fun _ => rfl) 10 rfl rfl hl.1 rfl rfl (Nat.le_of_ble_eq_true rfl) ⟨Nat.zero_le _, Nat.zero_le _⟩ dX11_act_226 (fun u_44 H locs hf hP hD hS => ?_)
                      refine lv_iload_n hx hb dX11_act_229 rfl (lv_at hl 0 rfl) ?_
                      refine lv_if_le (tgt := 238) hx hb dX11_act_230 (by decide) (fun c_45 => ?_) (fun c_45 => ?_)
                      · have hf := hf.1 c_45
                        refine lv_iload_n hx hb dX11_act_238 rfl (lv_at hl 0 rfl) ?_
                        exact z_retMi (Wf := (fun z => cl_X11 cI cJ a z)) (u := u_44) X hf hP hD hS dX11_act_239
                      · have hf := hf.2 c_45
                        refine lv_aload_n hx hb dX11_act_233 rfl (lv_at hl 2 rfl) ?_
                        refine lv_iload_n hx hb dX11_act_234 rfl (lv_at hl 1 rfl) ?_
                        refine z_mVv (Wn := (fun u_47 => cl_X11 cI cJ a u_47)) (As := [.int r_1]) (rest := []) (wr := []) X (c_X11_wrong l dC dI cI cJ cS a u_44 r_1 _ hf _) zc_X11_wrong q_ml_X11_187 ⟨rfl, rfl⟩ ⟨Nat.le_of_ble_eq_true rfl, Nat.le_of_ble_eq_true rfl⟩ hP hD hS hA [0, 1, 2, 3, 4, 5, 6, 7, 8] [] rfl (by decide) rfl (by decide) (by decide) [0, 1, 2, 3, 4, 5, 6, 7, 8] (by decide) (fun _ => rfl) 10 rfl rfl hl.1 rfl rfl (Nat.le_of_ble_eq_true rfl) ⟨Nat.zero_le _, Nat.zero_le _⟩ dX11_act_235 (fun u_47 H locs hf hP hD hS => ?_)
                        refine lv_iload_n hx hb dX11_act_238 rfl (lv_at hl 0 rfl) ?_
                        exact z_retMi (Wf := (fun z => cl_X11 cI cJ a z)) (u := u_47) X hf hP hD hS dX11_act_239
                    · have hf := hf.2 c_42
                      refine lv_aload_n hx hb dX11_act_217 rfl (lv_at hl 2 rfl) ?_
                      refine z_mVv (Wn := (fun u_49 => cl_X11 cI cJ a u_49)) (As := []) (rest := []) (wr := []) X (c_X11_merges l dC dI cI cJ cS a u_41  _ hf _) zc_X11_merges q_ml_X11_115 ⟨rfl, rfl⟩ ⟨Nat.le_of_ble_eq_true rfl, Nat.le_of_ble_eq_true rfl⟩ hP hD hS hA [0, 1, 2, 3, 4, 5, 6, 7, 8] [] rfl (by decide) rfl (by decide) (by decide) [0, 1, 2, 3, 4, 5, 6, 7, 8] (by decide) (fun _ => rfl) 10 rfl rfl hl.1 rfl rfl (Nat.le_of_ble_eq_true rfl) ⟨Nat.zero_le _, Nat.zero_le _⟩ dX11_act_218 (fun u_49 H locs hf hP hD hS => ?_)
                      refine lv_goto (tgt := 229) hx hb dX11_act_221 (by decide) ?_
                      refine lv_iload_n hx hb dX11_act_229 rfl (lv_at hl 0 rfl) ?_
                      refine lv_if_le (tgt := 238) hx hb dX11_act_230 (by decide) (fun c_50 => ?_) (fun c_50 => ?_)
                      · have hf := hf.1 c_50
                        refine lv_iload_n hx hb dX11_act_238 rfl (lv_at hl 0 rfl) ?_
                        exact z_retMi (Wf := (fun z => cl_X11 cI cJ a z)) (u := u_49) X hf hP hD hS dX11_act_239
                      · have hf := hf.2 c_50
                        refine lv_aload_n hx hb dX11_act_233 rfl (lv_at hl 2 rfl) ?_
                        refine lv_iload_n hx hb dX11_act_234 rfl (lv_at hl 1 rfl) ?_
                        refine z_mVv (Wn := (fun u_52 => cl_X11 cI cJ a u_52)) (As := [.int r_1]) (rest := []) (wr := []) X (c_X11_wrong l dC dI cI cJ cS a u_49 r_1 _ hf _) zc_X11_wrong q_ml_X11_187 ⟨rfl, rfl⟩ ⟨Nat.le_of_ble_eq_true rfl, Nat.le_of_ble_eq_true rfl⟩ hP hD hS hA [0, 1, 2, 3, 4, 5, 6, 7, 8] [] rfl (by decide) rfl (by decide) (by decide) [0, 1, 2, 3, 4, 5, 6, 7, 8] (by decide) (fun _ => rfl) 10 rfl rfl hl.1 rfl rfl (Nat.le_of_ble_eq_true rfl) ⟨Nat.zero_le _, Nat.zero_le _⟩ dX11_act_235 (fun u_52 H locs hf hP hD hS => ?_)
                        refine lv_iload_n hx hb dX11_act_238 rfl (lv_at hl 0 rfl) ?_
                        exact z_retMi (Wf := (fun z => cl_X11 cI cJ a z)) (u := u_52) X hf hP hD hS dX11_act_239
                  · have hf := hf.2 c_38
                    refine lv_aload_n hx hb dX11_act_200 rfl (lv_at hl 2 rfl) ?_
                    refine z_mVi (Wn := (fun u_54 => cl_X11 cI cJ a u_54)) (As := []) (rest := []) (wr := []) X (c_X11_quit0 l dC dI cI cJ cS a u_37  _ hf _) zc_X11_quit0 q_ml_X11_243 ⟨rfl, rfl⟩ ⟨Nat.le_of_ble_eq_true rfl, Nat.le_of_ble_eq_true rfl⟩ hP hD hS hA [0, 1, 2, 3, 4, 5, 6, 7, 8] [] rfl (by decide) rfl (by decide) (by decide) [0, 1, 2, 3, 4, 5, 6, 7, 8] (by decide) (fun _ => rfl) 10 rfl rfl hl.1 rfl rfl (Nat.le_of_ble_eq_true rfl) ⟨Nat.zero_le _, Nat.zero_le _⟩ dX11_act_201 (fun r_53 u_54 H locs hf hP hD hS => ?_)
                    refine lv_istore_n (lv' := [(2, .int r_53), (1, .int r_1), (0, .ref (a 0))]) hx hb dX11_act_204 rfl hl (by decide) rfl (fun ls hl => ?_)
                    refine lv_goto (tgt := 229) hx hb dX11_act_205 (by decide) ?_
                    refine lv_iload_n hx hb dX11_act_229 rfl (lv_at hl 0 rfl) ?_
                    refine lv_if_le (tgt := 238) hx hb dX11_act_230 (by decide) (fun c_55 => ?_) (fun c_55 => ?_)
                    · have hf := hf.1 c_55
                      refine lv_iload_n hx hb dX11_act_238 rfl (lv_at hl 0 rfl) ?_
                      exact z_retMi (Wf := (fun z => cl_X11 cI cJ a z)) (u := u_54) X hf hP hD hS dX11_act_239
                    · have hf := hf.2 c_55
                      refine lv_aload_n hx hb dX11_act_233 rfl (lv_at hl 2 rfl) ?_
                      refine lv_iload_n hx hb dX11_act_234 rfl (lv_at hl 1 rfl) ?_
                      refine z_mVv (Wn := (fun u_57 => cl_X11 cI cJ a u_57)) (As := [.int r_1]) (rest := []) (wr := []) X (c_X11_wrong l dC dI cI cJ cS a u_54 r_1 _ hf _) zc_X11_wrong q_ml_X11_187 ⟨rfl, rfl⟩ ⟨Nat.le_of_ble_eq_true rfl, Nat.le_of_ble_eq_true rfl⟩ hP hD hS hA [0, 1, 2, 3, 4, 5, 6, 7, 8] [] rfl (by decide) rfl (by decide) (by decide) [0, 1, 2, 3, 4, 5, 6, 7, 8] (by decide) (fun _ => rfl) 10 rfl rfl hl.1 rfl rfl (Nat.le_of_ble_eq_true rfl) ⟨Nat.zero_le _, Nat.zero_le _⟩ dX11_act_235 (fun u_57 H locs hf hP hD hS => ?_)
                      refine lv_iload_n hx hb dX11_act_238 rfl (lv_at hl 0 rfl) ?_
                      exact z_retMi (Wf := (fun z => cl_X11 cI cJ a z)) (u := u_57) X hf hP hD hS dX11_act_239
                · have hf := hf.2 c_34
                  refine lv_aload_n hx hb dX11_act_162 rfl (lv_at hl 2 rfl) ?_
                  refine lv_iconst (v := 1) hx hb dX11_act_163 (by decide) ?_
                  refine lv_bipush (v := 20) hx hb dX11_act_164 (by decide) ?_
                  refine z_mVi (Wn := (fun u_59 => cl_X11 cI cJ a u_59)) (As := [.int (1 : Int32), .int (20 : Int32)]) (rest := []) (wr := []) X (c_X11_number l dC dI cI cJ cS a u_33 (1 : Int32) (20 : Int32) _ hf _) zc_X11_number q_ml_X11_190 ⟨rfl, rfl⟩ ⟨Nat.le_of_ble_eq_true rfl, Nat.le_of_ble_eq_true rfl⟩ hP hD hS hA [0, 1, 2, 3, 4, 5, 6, 7, 8] [] rfl (by decide) rfl (by decide) (by decide) [0, 1, 2, 3, 4, 5, 6, 7, 8] (by decide) (fun _ => rfl) 10 rfl rfl hl.1 rfl rfl (Nat.le_of_ble_eq_true rfl) ⟨Nat.zero_le _, Nat.zero_le _⟩ dX11_act_166 (fun r_58 u_59 H locs hf hP hD hS => ?_)
                  refine lv_istore_n (lv' := [(3, .int r_58), (2, .int (0 : Int32)), (1, .int r_1), (0, .ref (a 0))]) hx hb dX11_act_169 rfl hl (by decide) rfl (fun ls hl => ?_)
                  refine lv_aload_n hx hb dX11_act_170 rfl (lv_at hl 3 rfl) ?_
                  refine va_get (D := (dC, dI)) (ci := 10) (v := .int u_59.2.2.2.2.2.2.2.2.2.2.2.2.2.1) (C := RX11) (T := TX11) (N := 17) hx hb hts inX11 hown hK hP 0 rfl rfl 13 (by decide) (hts _ q_fl_X11_29) (fun _ h9 => h9) rfl dX11_act_171 ?_
                  refine lv_iconst (v := (-1)) hx hb dX11_act_174 (by decide) ?_
                  refine lv_icmp_ne (tgt := 186) hx hb dX11_act_175 (by decide) (fun c_60 => ?_) (fun c_60 => ?_)
                  · have hf := hf.1 c_60
                    refine lv_iconst (v := 0) hx hb dX11_act_186 (by decide) ?_
                    refine lv_istore_n (lv' := [(2, .int (0 : Int32)), (3, .int r_58), (1, .int r_1), (0, .ref (a 0))]) hx hb dX11_act_187 rfl hl (by decide) rfl (fun ls hl => ?_)
                    refine lv_goto (tgt := 229) hx hb dX11_act_188 (by decide) ?_
                    refine lv_iload_n hx hb dX11_act_229 rfl (lv_at hl 0 rfl) ?_
                    refine lv_if_le (tgt := 238) hx hb dX11_act_230 (by decide) (fun c_61 => ?_) (fun c_61 => ?_)
                    · have hf := hf.1 c_61
                      refine lv_iload_n hx hb dX11_act_238 rfl (lv_at hl 0 rfl) ?_
                      exact z_retMi (Wf := (fun z => cl_X11 cI cJ a z)) (u := u_59) X hf hP hD hS dX11_act_239
                    · have hf := hf.2 c_61
                      refine lv_aload_n hx hb dX11_act_233 rfl (lv_at hl 3 rfl) ?_
                      refine lv_iload_n hx hb dX11_act_234 rfl (lv_at hl 2 rfl) ?_
                      refine z_mVv (Wn := (fun u_63 => cl_X11 cI cJ a u_63)) (As := [.int r_1]) (rest := []) (wr := []) X (c_X11_wrong l dC dI cI cJ cS a u_59 r_1 _ hf _) zc_X11_wrong q_ml_X11_187 ⟨rfl, rfl⟩ ⟨Nat.le_of_ble_eq_true rfl, Nat.le_of_ble_eq_true rfl⟩ hP hD hS hA [0, 1, 2, 3, 4, 5, 6, 7, 8] [] rfl (by decide) rfl (by decide) (by decide) [0, 1, 2, 3, 4, 5, 6, 7, 8] (by decide) (fun _ => rfl) 10 rfl rfl hl.1 rfl rfl (Nat.le_of_ble_eq_true rfl) ⟨Nat.zero_le _, Nat.zero_le _⟩ dX11_act_235 (fun u_63 H locs hf hP hD hS => ?_)
                      refine lv_iload_n hx hb dX11_act_238 rfl (lv_at hl 0 rfl) ?_
                      exact z_retMi (Wf := (fun z => cl_X11 cI cJ a z)) (u := u_63) X hf hP hD hS dX11_act_239
                  · have hf := hf.2 c_60
                    refine lv_aload_n hx hb dX11_act_178 rfl (lv_at hl 3 rfl) ?_
                    refine lv_iload_n hx hb dX11_act_179 rfl (lv_at hl 0 rfl) ?_
                    refine z_mVi (Wn := (fun u_65 => cl_X11 cI cJ a u_65)) (As := [.int r_58]) (rest := []) (wr := []) X (c_X11_step0 l dC dI cI cJ cS a u_59 r_58 _ hf _) zc_X11_step0 q_ml_X11_238 ⟨rfl, rfl⟩ ⟨Nat.le_of_ble_eq_true rfl, Nat.le_of_ble_eq_true rfl⟩ hP hD hS hA [0, 1, 2, 3, 4, 5, 6, 7, 8] [] rfl (by decide) rfl (by decide) (by decide) [0, 1, 2, 3, 4, 5, 6, 7, 8] (by decide) (fun _ => rfl) 10 rfl rfl hl.1 rfl rfl (Nat.le_of_ble_eq_true rfl) ⟨Nat.zero_le _, Nat.zero_le _⟩ dX11_act_180 (fun r_64 u_65 H locs hf hP hD hS => ?_)
                    refine lv_goto (tgt := 187) hx hb dX11_act_183 (by decide) ?_
                    refine lv_istore_n (lv' := [(2, .int r_64), (3, .int r_58), (1, .int r_1), (0, .ref (a 0))]) hx hb dX11_act_187 rfl hl (by decide) rfl (fun ls hl => ?_)
                    refine lv_goto (tgt := 229) hx hb dX11_act_188 (by decide) ?_
                    refine lv_iload_n hx hb dX11_act_229 rfl (lv_at hl 0 rfl) ?_
                    refine lv_if_le (tgt := 238) hx hb dX11_act_230 (by decide) (fun c_66 => ?_) (fun c_66 => ?_)
                    · have hf := hf.1 c_66
                      refine lv_iload_n hx hb dX11_act_238 rfl (lv_at hl 0 rfl) ?_
                      exact z_retMi (Wf := (fun z => cl_X11 cI cJ a z)) (u := u_65) X hf hP hD hS dX11_act_239
                    · have hf := hf.2 c_66
                      refine lv_aload_n hx hb dX11_act_233 rfl (lv_at hl 3 rfl) ?_
                      refine lv_iload_n hx hb dX11_act_234 rfl (lv_at hl 2 rfl) ?_
                      refine z_mVv (Wn := (fun u_68 => cl_X11 cI cJ a u_68)) (As := [.int r_1]) (rest := []) (wr := []) X (c_X11_wrong l dC dI cI cJ cS a u_65 r_1 _ hf _) zc_X11_wrong q_ml_X11_187 ⟨rfl, rfl⟩ ⟨Nat.le_of_ble_eq_true rfl, Nat.le_of_ble_eq_true rfl⟩ hP hD hS hA [0, 1, 2, 3, 4, 5, 6, 7, 8] [] rfl (by decide) rfl (by decide) (by decide) [0, 1, 2, 3, 4, 5, 6, 7, 8] (by decide) (fun _ => rfl) 10 rfl rfl hl.1 rfl rfl (Nat.le_of_ble_eq_true rfl) ⟨Nat.zero_le _, Nat.zero_le _⟩ dX11_act_235 (fun u_68 H locs hf hP hD hS => ?_)
                      refine lv_iload_n hx hb dX11_act_238 rfl (lv_at hl 0 rfl) ?_
                      exact z_retMi (Wf := (fun z => cl_X11 cI cJ a z)) (u := u_68) X hf hP hD hS dX11_act_239
              · have hf := hf.2 c_30
                refine lv_aload_n hx hb dX11_act_145 rfl (lv_at hl 2 rfl) ?_
                refine z_mVi (Wn := (fun u_70 => cl_X11 cI cJ a u_70)) (As := []) (rest := []) (wr := []) X (c_X11_pickText l dC dI cI cJ cS a u_29  _ hf _) zc_X11_pickText q_ml_X11_233 ⟨rfl, rfl⟩ ⟨Nat.le_of_ble_eq_true rfl, Nat.le_of_ble_eq_true rfl⟩ hP hD hS hA [0, 1, 2, 3, 4, 5, 6, 7, 8] [] rfl (by decide) rfl (by decide) (by decide) [0, 1, 2, 3, 4, 5, 6, 7, 8] (by decide) (fun _ => rfl) 10 rfl rfl hl.1 rfl rfl (Nat.le_of_ble_eq_true rfl) ⟨Nat.zero_le _, Nat.zero_le _⟩ dX11_act_146 (fun r_69 u_70 H locs hf hP hD hS => ?_)
                refine lv_istore_n (lv' := [(2, .int r_69), (1, .int r_1), (0, .ref (a 0))]) hx hb dX11_act_149 rfl hl (by decide) rfl (fun ls hl => ?_)
                refine lv_goto (tgt := 229) hx hb dX11_act_150 (by decide) ?_
                refine lv_iload_n hx hb dX11_act_229 rfl (lv_at hl 0 rfl) ?_
                refine lv_if_le (tgt := 238) hx hb dX11_act_230 (by decide) (fun c_71 => ?_) (fun c_71 => ?_)
                · have hf := hf.1 c_71
                  refine lv_iload_n hx hb dX11_act_238 rfl (lv_at hl 0 rfl) ?_
                  exact z_retMi (Wf := (fun z => cl_X11 cI cJ a z)) (u := u_70) X hf hP hD hS dX11_act_239
                · have hf := hf.2 c_71
                  refine lv_aload_n hx hb dX11_act_233 rfl (lv_at hl 2 rfl) ?_
                  refine lv_iload_n hx hb dX11_act_234 rfl (lv_at hl 1 rfl) ?_
                  refine z_mVv (Wn := (fun u_73 => cl_X11 cI cJ a u_73)) (As := [.int r_1]) (rest := []) (wr := []) X (c_X11_wrong l dC dI cI cJ cS a u_70 r_1 _ hf _) zc_X11_wrong q_ml_X11_187 ⟨rfl, rfl⟩ ⟨Nat.le_of_ble_eq_true rfl, Nat.le_of_ble_eq_true rfl⟩ hP hD hS hA [0, 1, 2, 3, 4, 5, 6, 7, 8] [] rfl (by decide) rfl (by decide) (by decide) [0, 1, 2, 3, 4, 5, 6, 7, 8] (by decide) (fun _ => rfl) 10 rfl rfl hl.1 rfl rfl (Nat.le_of_ble_eq_true rfl) ⟨Nat.zero_le _, Nat.zero_le _⟩ dX11_act_235 (fun u_73 H locs hf hP hD hS => ?_)
                  refine lv_iload_n hx hb dX11_act_238 rfl (lv_at hl 0 rfl) ?_
                  exact z_retMi (Wf := (fun z => cl_X11 cI cJ a z)) (u := u_73) X hf hP hD hS dX11_act_239
            · have hf := hf.2 c_26
              refine lv_aload_n hx hb dX11_act_128 rfl (lv_at hl 2 rfl) ?_
              refine z_mVi (Wn := (fun u_75 => cl_X11 cI cJ a u_75)) (As := []) (rest := []) (wr := []) X (c_X11_crash0 l dC dI cI cJ cS a u_25  _ hf _) zc_X11_crash0 q_ml_X11_228 ⟨rfl, rfl⟩ ⟨Nat.le_of_ble_eq_true rfl, Nat.le_of_ble_eq_true rfl⟩ hP hD hS hA [0, 1, 2, 3, 4, 5, 6, 7, 8] [] rfl (by decide) rfl (by decide) (by decide) [0, 1, 2, 3, 4, 5, 6, 7, 8] (by decide) (fun _ => rfl) 10 rfl rfl hl.1 rfl rfl (Nat.le_of_ble_eq_true rfl) ⟨Nat.zero_le _, Nat.zero_le _⟩ dX11_act_129 (fun r_74 u_75 H locs hf hP hD hS => ?_)
              refine lv_istore_n (lv' := [(3, .int r_74), (2, .int (0 : Int32)), (1, .int r_1), (0, .ref (a 0))]) hx hb dX11_act_132 rfl hl (by decide) rfl (fun ls hl => ?_)
              refine lv_goto (tgt := 229) hx hb dX11_act_133 (by decide) ?_
              refine lv_iload_n hx hb dX11_act_229 rfl (lv_at hl 1 rfl) ?_
              refine lv_if_le (tgt := 238) hx hb dX11_act_230 (by decide) (fun c_76 => ?_) (fun c_76 => ?_)
              · have hf := hf.1 c_76
                refine lv_iload_n hx hb dX11_act_238 rfl (lv_at hl 1 rfl) ?_
                exact z_retMi (Wf := (fun z => cl_X11 cI cJ a z)) (u := u_75) X hf hP hD hS dX11_act_239
              · have hf := hf.2 c_76
                refine lv_aload_n hx hb dX11_act_233 rfl (lv_at hl 3 rfl) ?_
                refine lv_iload_n hx hb dX11_act_234 rfl (lv_at hl 2 rfl) ?_
                refine z_mVv (Wn := (fun u_78 => cl_X11 cI cJ a u_78)) (As := [.int r_1]) (rest := []) (wr := []) X (c_X11_wrong l dC dI cI cJ cS a u_75 r_1 _ hf _) zc_X11_wrong q_ml_X11_187 ⟨rfl, rfl⟩ ⟨Nat.le_of_ble_eq_true rfl, Nat.le_of_ble_eq_true rfl⟩ hP hD hS hA [0, 1, 2, 3, 4, 5, 6, 7, 8] [] rfl (by decide) rfl (by decide) (by decide) [0, 1, 2, 3, 4, 5, 6, 7, 8] (by decide) (fun _ => rfl) 10 rfl rfl hl.1 rfl rfl (Nat.le_of_ble_eq_true rfl) ⟨Nat.zero_le _, Nat.zero_le _⟩ dX11_act_235 (fun u_78 H locs hf hP hD hS => ?_)
                refine lv_iload_n hx hb dX11_act_238 rfl (lv_at hl 1 rfl) ?_
                exact z_retMi (Wf := (fun z => cl_X11 cI cJ a z)) (u := u_78) X hf hP hD hS dX11_act_239
          · have hf := hf.2 c_22
            refine lv_aload_n hx hb dX11_act_112 rfl (lv_at hl 2 rfl) ?_
            refine z_mVv (Wn := (fun u_80 => cl_X11 cI cJ a u_80)) (As := []) (rest := []) (wr := []) X (c_X11_flushes l dC dI cI cJ cS a u_21  _ hf _) zc_X11_flushes q_ml_X11_118 ⟨rfl, rfl⟩ ⟨Nat.le_of_ble_eq_true rfl, Nat.le_of_ble_eq_true rfl⟩ hP hD hS hA [0, 1, 2, 3, 4, 5, 6, 7, 8] [] rfl (by decide) rfl (by decide) (by decide) [0, 1, 2, 3, 4, 5, 6, 7, 8] (by decide) (fun _ => rfl) 10 rfl rfl hl.1 rfl rfl (Nat.le_of_ble_eq_true rfl) ⟨Nat.zero_le _, Nat.zero_le _⟩ dX11_act_113 (fun u_80 H locs hf hP hD hS => ?_)
            refine lv_goto (tgt := 229) hx hb dX11_act_116 (by decide) ?_
            refine lv_iload_n hx hb dX11_act_229 rfl (lv_at hl 0 rfl) ?_
            refine lv_if_le (tgt := 238) hx hb dX11_act_230 (by decide) (fun c_81 => ?_) (fun c_81 => ?_)
            · have hf := hf.1 c_81
              refine lv_iload_n hx hb dX11_act_238 rfl (lv_at hl 0 rfl) ?_
              exact z_retMi (Wf := (fun z => cl_X11 cI cJ a z)) (u := u_80) X hf hP hD hS dX11_act_239
            · have hf := hf.2 c_81
              refine lv_aload_n hx hb dX11_act_233 rfl (lv_at hl 2 rfl) ?_
              refine lv_iload_n hx hb dX11_act_234 rfl (lv_at hl 1 rfl) ?_
              refine z_mVv (Wn := (fun u_83 => cl_X11 cI cJ a u_83)) (As := [.int r_1]) (rest := []) (wr := []) X (c_X11_wrong l dC dI cI cJ cS a u_80 r_1 _ hf _) zc_X11_wrong q_ml_X11_187 ⟨rfl, rfl⟩ ⟨Nat.le_of_ble_eq_true rfl, Nat.le_of_ble_eq_true rfl⟩ hP hD hS hA [0, 1, 2, 3, 4, 5, 6, 7, 8] [] rfl (by decide) rfl (by decide) (by decide) [0, 1, 2, 3, 4, 5, 6, 7, 8] (by decide) (fun _ => rfl) 10 rfl rfl hl.1 rfl rfl (Nat.le_of_ble_eq_true rfl) ⟨Nat.zero_le _, Nat.zero_le _⟩ dX11_act_235 (fun u_83 H locs hf hP hD hS => ?_)
              refine lv_iload_n hx hb dX11_act_238 rfl (lv_at hl 0 rfl) ?_
              exact z_retMi (Wf := (fun z => cl_X11 cI cJ a z)) (u := u_83) X hf hP hD hS dX11_act_239
        · have hf := hf.2 c_18
          refine lv_aload_n hx hb dX11_act_87 rfl (lv_at hl 2 rfl) ?_
          refine va_get (D := (dC, dI)) (ci := 10) (v := .ref (a 1)) (C := RX11) (T := TX11) (N := 17) hx hb hts inX11 hown hK hP 0 rfl rfl 1 (by decide) (hts _ q_fl_X11_7) (fun _ h9 => h9) rfl dX11_act_88 ?_
          refine lv_bipush (v := 6) hx hb dX11_act_91 (by decide) ?_
          refine lv_aload_n hx hb dX11_act_93 rfl (lv_at hl 2 rfl) ?_
          refine va_get (D := (dC, dI)) (ci := 10) (v := .ref (a 1)) (C := RX11) (T := TX11) (N := 17) hx hb hts inX11 hown hK hP 0 rfl rfl 1 (by decide) (hts _ q_fl_X11_7) (fun _ h9 => h9) rfl dX11_act_94 ?_
          refine lv_iconst (v := 5) hx hb dX11_act_97 (by decide) ?_
          obtain ⟨hg, hf⟩ := hf
          refine va_iald hx hb hK hP 1 0 rfl rfl hg dX11_act_98 ?_
          obtain ⟨hg, hf⟩ := hf
          refine z_iast (Wn := fun f_84 => cl_X11 cI cJ a (u_17.1, f_84, u_17.2.2)) X hP hD hS 1 0 rfl rfl hg (fun _ => rfl) dX11_act_99 (fun f_84 H locs ef_84 hP hD hS => ?_)
          have hf := hf f_84 ef_84
          refine lv_goto (tgt := 229) hx hb dX11_act_100 (by decide) ?_
          refine lv_iload_n hx hb dX11_act_229 rfl (lv_at hl 0 rfl) ?_
          refine lv_if_le (tgt := 238) hx hb dX11_act_230 (by decide) (fun c_85 => ?_) (fun c_85 => ?_)
          · have hf := hf.1 c_85
            refine lv_iload_n hx hb dX11_act_238 rfl (lv_at hl 0 rfl) ?_
            exact z_retMi (Wf := (fun z => cl_X11 cI cJ a z)) (u := (u_17.1, f_84, u_17.2.2)) X hf hP hD hS dX11_act_239
          · have hf := hf.2 c_85
            refine lv_aload_n hx hb dX11_act_233 rfl (lv_at hl 2 rfl) ?_
            refine lv_iload_n hx hb dX11_act_234 rfl (lv_at hl 1 rfl) ?_
            refine z_mVv (Wn := (fun u_87 => cl_X11 cI cJ a u_87)) (As := [.int r_1]) (rest := []) (wr := []) X (c_X11_wrong l dC dI cI cJ cS a (u_17.1, f_84, u_17.2.2) r_1 _ hf _) zc_X11_wrong q_ml_X11_187 ⟨rfl, rfl⟩ ⟨Nat.le_of_ble_eq_true rfl, Nat.le_of_ble_eq_true rfl⟩ hP hD hS hA [0, 1, 2, 3, 4, 5, 6, 7, 8] [] rfl (by decide) rfl (by decide) (by decide) [0, 1, 2, 3, 4, 5, 6, 7, 8] (by decide) (fun _ => rfl) 10 rfl rfl hl.1 rfl rfl (Nat.le_of_ble_eq_true rfl) ⟨Nat.zero_le _, Nat.zero_le _⟩ dX11_act_235 (fun u_87 H locs hf hP hD hS => ?_)
            refine lv_iload_n hx hb dX11_act_238 rfl (lv_at hl 0 rfl) ?_
            exact z_retMi (Wf := (fun z => cl_X11 cI cJ a z)) (u := u_87) X hf hP hD hS dX11_act_239
      · have hf := hf.2 c_14
        refine lv_aload_n hx hb dX11_act_49 rfl (lv_at hl 2 rfl) ?_
        refine lv_iconst (v := 0) hx hb dX11_act_50 (by decide) ?_
        refine lv_bipush (v := 63) hx hb dX11_act_51 (by decide) ?_
        refine z_mVi (Wn := (fun u_89 => cl_X11 cI cJ a u_89)) (As := [.int (0 : Int32), .int (63 : Int32)]) (rest := []) (wr := []) X (c_X11_number l dC dI cI cJ cS a u_13 (0 : Int32) (63 : Int32) _ hf _) zc_X11_number q_ml_X11_190 ⟨rfl, rfl⟩ ⟨Nat.le_of_ble_eq_true rfl, Nat.le_of_ble_eq_true rfl⟩ hP hD hS hA [0, 1, 2, 3, 4, 5, 6, 7, 8] [] rfl (by decide) rfl (by decide) (by decide) [0, 1, 2, 3, 4, 5, 6, 7, 8] (by decide) (fun _ => rfl) 10 rfl rfl hl.1 rfl rfl (Nat.le_of_ble_eq_true rfl) ⟨Nat.zero_le _, Nat.zero_le _⟩ dX11_act_53 (fun r_88 u_89 H locs hf hP hD hS => ?_)
        refine lv_istore_n (lv' := [(3, .int r_88), (2, .int (0 : Int32)), (1, .int r_1), (0, .ref (a 0))]) hx hb dX11_act_56 rfl hl (by decide) rfl (fun ls hl => ?_)
        refine lv_aload_n hx hb dX11_act_57 rfl (lv_at hl 3 rfl) ?_
        refine va_get (D := (dC, dI)) (ci := 10) (v := .int u_89.2.2.2.2.2.2.2.2.2.2.2.2.2.1) (C := RX11) (T := TX11) (N := 17) hx hb hts inX11 hown hK hP 0 rfl rfl 13 (by decide) (hts _ q_fl_X11_29) (fun _ h9 => h9) rfl dX11_act_58 ?_
        refine lv_iconst (v := (-1)) hx hb dX11_act_61 (by decide) ?_
        refine lv_icmp_ne (tgt := 73) hx hb dX11_act_62 (by decide) (fun c_90 => ?_) (fun c_90 => ?_)
        · have hf := hf.1 c_90
          refine lv_iconst (v := 0) hx hb dX11_act_73 (by decide) ?_
          refine lv_istore_n (lv' := [(2, .int (0 : Int32)), (3, .int r_88), (1, .int r_1), (0, .ref (a 0))]) hx hb dX11_act_74 rfl hl (by decide) rfl (fun ls hl => ?_)
          refine lv_goto (tgt := 229) hx hb dX11_act_75 (by decide) ?_
          refine lv_iload_n hx hb dX11_act_229 rfl (lv_at hl 0 rfl) ?_
          refine lv_if_le (tgt := 238) hx hb dX11_act_230 (by decide) (fun c_91 => ?_) (fun c_91 => ?_)
          · have hf := hf.1 c_91
            refine lv_iload_n hx hb dX11_act_238 rfl (lv_at hl 0 rfl) ?_
            exact z_retMi (Wf := (fun z => cl_X11 cI cJ a z)) (u := u_89) X hf hP hD hS dX11_act_239
          · have hf := hf.2 c_91
            refine lv_aload_n hx hb dX11_act_233 rfl (lv_at hl 3 rfl) ?_
            refine lv_iload_n hx hb dX11_act_234 rfl (lv_at hl 2 rfl) ?_
            refine z_mVv (Wn := (fun u_93 => cl_X11 cI cJ a u_93)) (As := [.int r_1]) (rest := []) (wr := []) X (c_X11_wrong l dC dI cI cJ cS a u_89 r_1 _ hf _) zc_X11_wrong q_ml_X11_187 ⟨rfl, rfl⟩ ⟨Nat.le_of_ble_eq_true rfl, Nat.le_of_ble_eq_true rfl⟩ hP hD hS hA [0, 1, 2, 3, 4, 5, 6, 7, 8] [] rfl (by decide) rfl (by decide) (by decide) [0, 1, 2, 3, 4, 5, 6, 7, 8] (by decide) (fun _ => rfl) 10 rfl rfl hl.1 rfl rfl (Nat.le_of_ble_eq_true rfl) ⟨Nat.zero_le _, Nat.zero_le _⟩ dX11_act_235 (fun u_93 H locs hf hP hD hS => ?_)
            refine lv_iload_n hx hb dX11_act_238 rfl (lv_at hl 0 rfl) ?_
            exact z_retMi (Wf := (fun z => cl_X11 cI cJ a z)) (u := u_93) X hf hP hD hS dX11_act_239
        · have hf := hf.2 c_90
          refine lv_aload_n hx hb dX11_act_65 rfl (lv_at hl 3 rfl) ?_
          refine lv_iload_n hx hb dX11_act_66 rfl (lv_at hl 0 rfl) ?_
          refine z_mVi (Wn := (fun u_95 => cl_X11 cI cJ a u_95)) (As := [.int r_88]) (rest := []) (wr := []) X (c_X11_drop0 l dC dI cI cJ cS a u_89 r_88 _ hf _) zc_X11_drop0 q_ml_X11_219 ⟨rfl, rfl⟩ ⟨Nat.le_of_ble_eq_true rfl, Nat.le_of_ble_eq_true rfl⟩ hP hD hS hA [0, 1, 2, 3, 4, 5, 6, 7, 8] [] rfl (by decide) rfl (by decide) (by decide) [0, 1, 2, 3, 4, 5, 6, 7, 8] (by decide) (fun _ => rfl) 10 rfl rfl hl.1 rfl rfl (Nat.le_of_ble_eq_true rfl) ⟨Nat.zero_le _, Nat.zero_le _⟩ dX11_act_67 (fun r_94 u_95 H locs hf hP hD hS => ?_)
          refine lv_goto (tgt := 74) hx hb dX11_act_70 (by decide) ?_
          refine lv_istore_n (lv' := [(2, .int r_94), (3, .int r_88), (1, .int r_1), (0, .ref (a 0))]) hx hb dX11_act_74 rfl hl (by decide) rfl (fun ls hl => ?_)
          refine lv_goto (tgt := 229) hx hb dX11_act_75 (by decide) ?_
          refine lv_iload_n hx hb dX11_act_229 rfl (lv_at hl 0 rfl) ?_
          refine lv_if_le (tgt := 238) hx hb dX11_act_230 (by decide) (fun c_96 => ?_) (fun c_96 => ?_)
          · have hf := hf.1 c_96
            refine lv_iload_n hx hb dX11_act_238 rfl (lv_at hl 0 rfl) ?_
            exact z_retMi (Wf := (fun z => cl_X11 cI cJ a z)) (u := u_95) X hf hP hD hS dX11_act_239
          · have hf := hf.2 c_96
            refine lv_aload_n hx hb dX11_act_233 rfl (lv_at hl 3 rfl) ?_
            refine lv_iload_n hx hb dX11_act_234 rfl (lv_at hl 2 rfl) ?_
            refine z_mVv (Wn := (fun u_98 => cl_X11 cI cJ a u_98)) (As := [.int r_1]) (rest := []) (wr := []) X (c_X11_wrong l dC dI cI cJ cS a u_95 r_1 _ hf _) zc_X11_wrong q_ml_X11_187 ⟨rfl, rfl⟩ ⟨Nat.le_of_ble_eq_true rfl, Nat.le_of_ble_eq_true rfl⟩ hP hD hS hA [0, 1, 2, 3, 4, 5, 6, 7, 8] [] rfl (by decide) rfl (by decide) (by decide) [0, 1, 2, 3, 4, 5, 6, 7, 8] (by decide) (fun _ => rfl) 10 rfl rfl hl.1 rfl rfl (Nat.le_of_ble_eq_true rfl) ⟨Nat.zero_le _, Nat.zero_le _⟩ dX11_act_235 (fun u_98 H locs hf hP hD hS => ?_)
            refine lv_iload_n hx hb dX11_act_238 rfl (lv_at hl 0 rfl) ?_
            exact z_retMi (Wf := (fun z => cl_X11 cI cJ a z)) (u := u_98) X hf hP hD hS dX11_act_239
    · have hf := hf.2 c_10
      refine lv_aload_n hx hb dX11_act_32 rfl (lv_at hl 2 rfl) ?_
      refine z_mVi (Wn := (fun u_100 => cl_X11 cI cJ a u_100)) (As := []) (rest := []) (wr := []) X (c_X11_putText l dC dI cI cJ cS a u_9  _ hf _) zc_X11_putText q_ml_X11_214 ⟨rfl, rfl⟩ ⟨Nat.le_of_ble_eq_true rfl, Nat.le_of_ble_eq_true rfl⟩ hP hD hS hA [0, 1, 2, 3, 4, 5, 6, 7, 8] [] rfl (by decide) rfl (by decide) (by decide) [0, 1, 2, 3, 4, 5, 6, 7, 8] (by decide) (fun _ => rfl) 10 rfl rfl hl.1 rfl rfl (Nat.le_of_ble_eq_true rfl) ⟨Nat.zero_le _, Nat.zero_le _⟩ dX11_act_33 (fun r_99 u_100 H locs hf hP hD hS => ?_)
      refine lv_istore_n (lv' := [(2, .int r_99), (1, .int r_1), (0, .ref (a 0))]) hx hb dX11_act_36 rfl hl (by decide) rfl (fun ls hl => ?_)
      refine lv_goto (tgt := 229) hx hb dX11_act_37 (by decide) ?_
      refine lv_iload_n hx hb dX11_act_229 rfl (lv_at hl 0 rfl) ?_
      refine lv_if_le (tgt := 238) hx hb dX11_act_230 (by decide) (fun c_101 => ?_) (fun c_101 => ?_)
      · have hf := hf.1 c_101
        refine lv_iload_n hx hb dX11_act_238 rfl (lv_at hl 0 rfl) ?_
        exact z_retMi (Wf := (fun z => cl_X11 cI cJ a z)) (u := u_100) X hf hP hD hS dX11_act_239
      · have hf := hf.2 c_101
        refine lv_aload_n hx hb dX11_act_233 rfl (lv_at hl 2 rfl) ?_
        refine lv_iload_n hx hb dX11_act_234 rfl (lv_at hl 1 rfl) ?_
        refine z_mVv (Wn := (fun u_103 => cl_X11 cI cJ a u_103)) (As := [.int r_1]) (rest := []) (wr := []) X (c_X11_wrong l dC dI cI cJ cS a u_100 r_1 _ hf _) zc_X11_wrong q_ml_X11_187 ⟨rfl, rfl⟩ ⟨Nat.le_of_ble_eq_true rfl, Nat.le_of_ble_eq_true rfl⟩ hP hD hS hA [0, 1, 2, 3, 4, 5, 6, 7, 8] [] rfl (by decide) rfl (by decide) (by decide) [0, 1, 2, 3, 4, 5, 6, 7, 8] (by decide) (fun _ => rfl) 10 rfl rfl hl.1 rfl rfl (Nat.le_of_ble_eq_true rfl) ⟨Nat.zero_le _, Nat.zero_le _⟩ dX11_act_235 (fun u_103 H locs hf hP hD hS => ?_)
        refine lv_iload_n hx hb dX11_act_238 rfl (lv_at hl 0 rfl) ?_
        exact z_retMi (Wf := (fun z => cl_X11 cI cJ a z)) (u := u_103) X hf hP hD hS dX11_act_239
  · have hf := hf.2 c_6
    refine lv_aload_n hx hb dX11_act_16 rfl (lv_at hl 2 rfl) ?_
    refine z_mVv (Wn := (fun u_105 => cl_X11 cI cJ a u_105)) (As := []) (rest := []) (wr := []) X (c_X11_storeText l dC dI cI cJ cS a u_5  _ hf _) zc_X11_storeText q_ml_X11_209 ⟨rfl, rfl⟩ ⟨Nat.le_of_ble_eq_true rfl, Nat.le_of_ble_eq_true rfl⟩ hP hD hS hA [0, 1, 2, 3, 4, 5, 6, 7, 8] [] rfl (by decide) rfl (by decide) (by decide) [0, 1, 2, 3, 4, 5, 6, 7, 8] (by decide) (fun _ => rfl) 10 rfl rfl hl.1 rfl rfl (Nat.le_of_ble_eq_true rfl) ⟨Nat.zero_le _, Nat.zero_le _⟩ dX11_act_17 (fun u_105 H locs hf hP hD hS => ?_)
    refine lv_goto (tgt := 229) hx hb dX11_act_20 (by decide) ?_
    refine lv_iload_n hx hb dX11_act_229 rfl (lv_at hl 0 rfl) ?_
    refine lv_if_le (tgt := 238) hx hb dX11_act_230 (by decide) (fun c_106 => ?_) (fun c_106 => ?_)
    · have hf := hf.1 c_106
      refine lv_iload_n hx hb dX11_act_238 rfl (lv_at hl 0 rfl) ?_
      exact z_retMi (Wf := (fun z => cl_X11 cI cJ a z)) (u := u_105) X hf hP hD hS dX11_act_239
    · have hf := hf.2 c_106
      refine lv_aload_n hx hb dX11_act_233 rfl (lv_at hl 2 rfl) ?_
      refine lv_iload_n hx hb dX11_act_234 rfl (lv_at hl 1 rfl) ?_
      refine z_mVv (Wn := (fun u_108 => cl_X11 cI cJ a u_108)) (As := [.int r_1]) (rest := []) (wr := []) X (c_X11_wrong l dC dI cI cJ cS a u_105 r_1 _ hf _) zc_X11_wrong q_ml_X11_187 ⟨rfl, rfl⟩ ⟨Nat.le_of_ble_eq_true rfl, Nat.le_of_ble_eq_true rfl⟩ hP hD hS hA [0, 1, 2, 3, 4, 5, 6, 7, 8] [] rfl (by decide) rfl (by decide) (by decide) [0, 1, 2, 3, 4, 5, 6, 7, 8] (by decide) (fun _ => rfl) 10 rfl rfl hl.1 rfl rfl (Nat.le_of_ble_eq_true rfl) ⟨Nat.zero_le _, Nat.zero_le _⟩ dX11_act_235 (fun u_108 H locs hf hP hD hS => ?_)
      refine lv_iload_n hx hb dX11_act_238 rfl (lv_at hl 0 rfl) ?_
      exact z_retMi (Wf := (fun z => cl_X11 cI cJ a z)) (u := u_108) X hf hP hD hS dX11_act_239
/-- a text's row of fields behind an ACT -/
def mA (u : zModel) (m' : Nat → Int32) (a : Nat) (x : Int32) : zModel := (u.1, m', u.2.2.1, u.2.2.2.1, u.2.2.2.2.1, u.2.2.2.2.2.1, u.2.2.2.2.2.2.1, u.2.2.2.2.2.2.2.1, u.2.2.2.2.2.2.2.2.1, u.2.2.2.2.2.2.2.2.2.1, u.2.2.2.2.2.2.2.2.2.2.1, u.2.2.2.2.2.2.2.2.2.2.2.1, nI a, u.2.2.2.2.2.2.2.2.2.2.2.2.2.1, u.2.2.2.2.2.2.2.2.2.2.2.2.2.2.1, u.2.2.2.2.2.2.2.2.2.2.2.2.2.2.2.1, x)
abbrev mLs (u : zModel) : Int32 := u.2.2.2.2.2.2.2.2.2.2.2.2.2.2.2.2
theorem has_i {u : zModel} {N q i : Nat} {Q : Int32 → zModel → Prop} (ht : mTx (mAt u (nI q)) N q) (hs : pSk (mTp u) N q = q) (hf : u.2.2.2.2.2.2.2.2.2.2.2.2.2.1 = -1) (h1 : isWd (mTp u) q (wdE (mTp u) N q) i = true → Q 1 (mAt u (nI (wdE (mTp u) N q)))) (h0 : isWd (mTp u) q (wdE (mTp u) N q) i = false → Q 0 (mAt u (nI q))) : s_X11_has (mAt u (nI q)) (wdL i) Q := by
  refine ⟨N, q, ht, wdL_txt i, hf, ?_, ?_⟩
  · show isBs (mTp u) (pSk (mTp u) N q) (wdE (mTp u) N (pSk (mTp u) N q)) (wdL i) = true → Q 1 (mAt u (nI (wdE (mTp u) N (pSk (mTp u) N q))))
    rw [hs]; exact h1
  · show isBs (mTp u) (pSk (mTp u) N q) (wdE (mTp u) N (pSk (mTp u) N q)) (wdL i) = false → Q 0 (mAt u (nI (pSk (mTp u) N q)))
    rw [hs]; exact h0
theorem aWr_ok {t : Nat → Int32} {N q k : Nat} (hk : wdK t N q = k) (h10 : ¬ k = 10) (h6 : ¬ k = 6) (h : ¬ nBad t N k (wdE t N q) < nN k) : aWr t N q = 0 := by
  unfold aWr
  rw [hk, if_neg h10, if_neg (fun z => h6 z.1), if_neg h]
theorem aWr_bad {t : Nat → Int32} {N q k : Nat} (hk : wdK t N q = k) (h10 : ¬ k = 10) (h6 : ¬ (k = 6 ∧ pkNo t N (wdE t N q) = true)) (h : nBad t N k (wdE t N q) < nN k) : aWr t N q = nmB t N (nPos t N (wdE t N q) (nBad t N k (wdE t N q))) + 1 := by
  unfold aWr
  rw [hk, if_neg h10, if_neg h6, if_pos h]
theorem aWr_6 {t : Nat → Int32} {N q : Nat} (hk : wdK t N q = 6) (h : pkNo t N (wdE t N q) = true ∨ nBad t N 6 (wdE t N q) = 1) : aWr t N q = 0 := by
  unfold aWr
  rw [hk, if_neg (by decide)]
  rcases h with h | h
  · rw [if_pos ⟨rfl, h⟩]
  · by_cases c : pkNo t N (wdE t N q) = true
    · rw [if_pos ⟨rfl, c⟩]
    · rw [if_neg (fun z => c z.2), h, if_neg (by decide)]
theorem i0_of {c : Int32} (h : ¬ c = 0) (hn : ¬ c < 0) : ¬ c ≤ 0 := fun z => h (by
  have h1 : c.toInt ≤ 0 := Int32.le_iff_toInt_le.mp z
  have h2 : ¬ c.toInt < 0 := fun q => hn (Int32.lt_iff_toInt_lt.mpr q)
  exact Int32.toInt_inj.mp (show c.toInt = (0 : Int32).toInt by rw [show (0 : Int32).toInt = 0 by decide]; omega))
theorem doAe_1 (v : zState) (a b c d : Int32) : doA v 1 a b c d = (if uFits v (4 + b) then ((0 : Int32), uPut v a.toNatClampNeg b.toNatClampNeg c.toNatClampNeg) else (1, v)) := rfl
theorem doAe_2 (v : zState) (a b c d : Int32) : doA v 2 a b c d = (if uFits v 4 then (if uVal v a.toNatClampNeg then ((0 : Int32), uDrop v a.toNatClampNeg) else (2, v)) else (1, v)) := rfl
theorem doAe_6 (v : zState) (a b c d : Int32) : doA v 6 a b c d = (if uRp v (uSel v a) = 0 then ((0 : Int32), uNote v (uSel v a).toNatClampNeg) else (uRp v (uSel v a), v)) := rfl
theorem doAe_7 (v : zState) (a b c d : Int32) : doA v 7 a b c d = (if uRst v a.toNatClampNeg = 0 then ((0 : Int32), (uCol a.toNatClampNeg v).2) else (uRst v a.toNatClampNeg, v)) := rfl
theorem doAe_8 (v : zState) (a b c d : Int32) : doA v 8 a b c d = (if v.2.2.2.2.1.2.1 = -1 then ((5 : Int32), v) else (0, uQuit v)) := rfl
theorem doA_1 (v : zState) (a b c d : Int32) : doA v 1 a b c 0 = doA v 1 a b c d := (doAe_1 v a b c 0).trans (doAe_1 v a b c d).symm
theorem doA_2 (v : zState) (a b c d : Int32) : doA v 2 a 0 0 0 = doA v 2 a b c d := (doAe_2 v a 0 0 0).trans (doAe_2 v a b c d).symm
theorem doA_6 (v : zState) (a b c d : Int32) : doA v 6 a b c d = doA v 6 a 0 0 0 := (doAe_6 v a b c d).trans (doAe_6 v a 0 0 0).symm
theorem doA_7 (v : zState) (a b c d : Int32) : doA v 7 a 0 0 0 = doA v 7 a b c d := (doAe_7 v a 0 0 0).trans (doAe_7 v a b c d).symm
theorem doA1_pos (v : zState) (a b c d : Int32) : ¬ (doA v 1 a b c d).1 < 0 := by
  rw [doAe_1]
  split
  · show ¬ (0 : Int32) < 0; decide
  · show ¬ (1 : Int32) < 0; decide
theorem doA6_pos (v : zState) (a b c d : Int32) : ¬ (doA v 6 a b c d).1 < 0 := by
  rw [doAe_6]
  split
  · show ¬ (0 : Int32) < 0; decide
  · exact uRp_pos _ _
theorem doA2_y {v : zState} {a : Int32} {k : Nat} (e : a.toNatClampNeg = k) (h1 : uFits v 4 = true) (h2 : uVal v k = true) : doA v 2 a 0 0 0 = (0, uDrop v k) := by
  rw [doAe_2]
  rw [e, if_pos h1, if_pos h2]
theorem doA2_n {v : zState} {a : Int32} {k : Nat} (e : a.toNatClampNeg = k) (h1 : uFits v 4 = true) (h2 : uVal v k = false) : doA v 2 a 0 0 0 = (2, v) := by
  rw [doAe_2]
  rw [e, if_pos h1, if_neg (by rw [h2]; decide)]
theorem doA2_f {v : zState} {a : Int32} (h1 : uFits v 4 = false) : doA v 2 a 0 0 0 = (1, v) := by
  rw [doAe_2]
  rw [if_neg (by rw [h1]; decide)]
theorem doA7_y {v : zState} {a : Int32} {n : Nat} (e : a.toNatClampNeg = n) (h : uRst v n = 0) : doA v 7 a 0 0 0 = (0, (uCol n v).2) := by
  rw [doAe_7]
  rw [e, if_pos h]
theorem doA7_n {v : zState} {a : Int32} {n : Nat} (e : a.toNatClampNeg = n) (h : ¬ uRst v n = 0) : doA v 7 a 0 0 0 = (uRst v n, v) := by
  rw [doAe_7]
  rw [e, if_neg h]
theorem doA8_y {v : zState} (a b c d : Int32) (h : ¬ v.2.2.2.2.1.2.1 = -1) : doA v 8 a b c d = (0, uQuit v) := by
  rw [doAe_8]
  rw [if_neg h]
theorem doA8_n {v : zState} (a b c d : Int32) (h : v.2.2.2.2.1.2.1 = -1) : doA v 8 a b c d = (5, v) := by
  rw [doAe_8]
  rw [if_pos h]
def s_X11_act (u : zModel) (Q : Int32 → zModel → Prop) : Prop := ∃ (B : Nat) (v : zState) (N p : Nat), okB B v ∧ B + 20 ≤ 400000 ∧ mRel v u.2.1 ∧ mTx u N p ∧ u.2.2.2.2.2.2.2.2.2.2.2.2.2.1 = -1 ∧
  (aWr (mTp u) N (pSk (mTp u) N p) = 0 → ((doT (mTp u) N (pSk (mTp u) N p) v).1 = 0 → ∀ (m' : Nat → Int32) (x : Int32), mRel (doT (mTp u) N (pSk (mTp u) N p) v).2 m' → Q 0 (mA u m' (nEnd (mTp u) N (wdK (mTp u) N (pSk (mTp u) N p)) (wdE (mTp u) N (pSk (mTp u) N p))) x)) ∧ (¬ (doT (mTp u) N (pSk (mTp u) N p) v).1 = 0 → ∀ (m' : Nat → Int32) (a : Nat) (x : Int32), a ≤ N → Q (doT (mTp u) N (pSk (mTp u) N p) v).1 (mFt (mA u m' a x) (nI (pSk (mTp u) N p))))) ∧
  (0 < aWr (mTp u) N (pSk (mTp u) N p) → ∀ (m' : Nat → Int32) (a : Nat) (x : Int32), a ≤ N → Q 0 (mFt (mA u m' a x) (nI (aWr (mTp u) N (pSk (mTp u) N p) - 1))))
set_option maxHeartbeats 4000000 in
theorem st_X11_act {u : zModel} {Q : Int32 → zModel → Prop} (h : s_X11_act u Q) : t_X11_act u Q := by
  obtain ⟨B, v, N, p, hv, hB, hr, ht, hf, hok, hbad⟩ := h
  have hq := pSk_le (mTp u) ht.2.1
  have hs := pSk_idem (mTp u) N p
  refine ⟨N, p, ht, ?_⟩
  generalize pSk (mTp u) N p = q at hok hbad hq hs ⊢
  have htq : mTx (mAt u (nI q)) N q := ht.at hq
  have heN : wdE (mTp u) N q ≤ N := pRun_le _ hq
  have hte : mTx (mAt u (nI (wdE (mTp u) N q))) N (wdE (mTp u) N q) := ht.at heN
  have hN4 : N ≤ 400 := ht.1
  obtain ⟨ρ, β, mo, lm, L, S, M, hP⟩ := id hv
  -- what follows, ACT by ACT
  have fz : ∀ w : zModel, Q 0 w → (((0 : Int32) ≤ 0 → Q (0 : Int32) w) ∧ (¬ (0 : Int32) ≤ 0 → s_X11_wrong w (nI q) (fun (u' : zModel) => Q (0 : Int32) u'))) := fun w h => ⟨fun _ => h, fun z => absurd (by decide) z⟩
  have fc : ∀ (c : Int32) (w : zModel), ¬ c = 0 → ¬ c < 0 → w.2.2.2.2.2.2.2.2.2.2.2.2.2.1 = -1 → Q c (mFt w (nI q)) → ((c ≤ 0 → Q c w) ∧ (¬ c ≤ 0 → s_X11_wrong w (nI q) (fun (u' : zModel) => Q c u'))) := fun c w h1 h2 h3 h4 => ⟨fun z => absurd z (i0_of h1 h2), fun _ => ⟨fun z => absurd h3 z, fun _ => h4⟩⟩
  have gen : ∀ k, k < 10 → ¬ k = 6 → wdK (mTp u) N q = k → (¬ nBad (mTp u) N k (wdE (mTp u) N q) < nN k → ∀ r : Int32 × zState, r = doA v k (nmV (mTp u) N (nPos (mTp u) N (wdE (mTp u) N q) 0)) (nmV (mTp u) N (nPos (mTp u) N (wdE (mTp u) N q) 1)) (nmV (mTp u) N (nPos (mTp u) N (wdE (mTp u) N q) 2)) (nmV (mTp u) N (nPos (mTp u) N (wdE (mTp u) N q) 3)) → (r.1 = 0 → ∀ (m' : Nat → Int32) (x : Int32), mRel r.2 m' → Q 0 (mA u m' (nPos (mTp u) N (wdE (mTp u) N q) (nN k)) x)) ∧ (¬ r.1 = 0 → ∀ (m' : Nat → Int32) (a : Nat) (x : Int32), a ≤ N → Q r.1 (mFt (mA u m' a x) (nI q)))) ∧ (nBad (mTp u) N k (wdE (mTp u) N q) < nN k → ∀ (m' : Nat → Int32) (a : Nat) (x : Int32), a ≤ N → Q 0 (mFt (mA u m' a x) (nI (nmB (mTp u) N (nPos (mTp u) N (wdE (mTp u) N q) (nBad (mTp u) N k (wdE (mTp u) N q))))))) := by
    intro k hk h6 hK
    refine ⟨fun hb r er => ?_, fun hb => ?_⟩
    · have e := hok (aWr_ok hK (by omega) h6 hb)
      unfold doT at e
      rw [hK, nAr_n h6, nAr_n h6, nAr_n h6, nAr_n h6, ← er] at e
      have en : nEnd (mTp u) N k (wdE (mTp u) N q) = nPos (mTp u) N (wdE (mTp u) N q) (nN k) := if_neg (fun z => h6 z.1)
      rw [en] at e
      exact e
    · have e := aWr_bad hK (by omega) (fun z => h6 z.1) hb
      rw [e] at hbad
      exact hbad (by omega)
  have fi : ∀ k, k < 10 → (∀ i, i < k → isWd (mTp u) q (wdE (mTp u) N q) i = false) → isWd (mTp u) q (wdE (mTp u) N q) k = true → wdK (mTp u) N q = k := fun k hk h1 h2 => first_at h1 h2 hk
  refine has_i htq hs hf (fun c0 => ⟨fun z => absurd z (by decide), fun _ => ?_⟩) (fun n0 => ⟨fun _ => ?_, fun z => absurd rfl z⟩)
  · -- store
    obtain ⟨g1, g2⟩ := gen 0 (by decide) (by decide) (fi 0 (by decide) lt0p c0)
    refine ⟨v, N, wdE (mTp u) N q, hte, hf, fun hb m' hm' => fz _ ?_, fun hb a ha => fz _ (g2 hb u.2.1 a (mLs u) ha)⟩
    have hb : nBad (mTp u) N 0 (wdE (mTp u) N q) = 4 := hb
    exact (g1 (by rw [hb]; decide) _ rfl).1 rfl m' (mLs u) hm'
  refine has_i htq hs hf (fun c1 => ⟨fun z => absurd z (by decide), fun _ => ?_⟩) (fun n1 => ⟨fun _ => ?_, fun z => absurd rfl z⟩)
  · -- put
    obtain ⟨g1, g2⟩ := gen 1 (by decide) (by decide) (fi 1 (by decide) (lt1p n0) c1)
    refine ⟨B, v, N, wdE (mTp u) N q, hv, by omega, hr, hte, hf, fun hb => ?_, fun hb a ha => fz _ (g2 hb u.2.1 a (mLs u) ha)⟩
    have hb : nBad (mTp u) N 1 (wdE (mTp u) N q) = 3 := hb
    have g := g1 (by rw [hb]; decide) _ (doA_1 v _ _ _ _)
    exact ⟨fun z m' hm' => fz _ (g.1 z m' (mLs u) hm'), fun z => fc _ _ z (doA1_pos _ _ _ _ _) hf (g.2 z u.2.1 _ (mLs u) (nPos_le _ heN 3))⟩
  refine has_i htq hs hf (fun c2 => ⟨fun z => absurd z (by decide), fun _ => ?_⟩) (fun n2 => ⟨fun _ => ?_, fun z => absurd rfl z⟩)
  · -- drop
    obtain ⟨g1, g2⟩ := gen 2 (by decide) (by decide) (fi 2 (by decide) (lt2p n0 n1) c2)
    refine num_go hte hf (fun o => ⟨fun z => absurd hf z, fun _ => ?_⟩) (fun o x a ha => ⟨fun _ => fz _ ?_, fun z => absurd z (n_neg (by have q9 : nmB (mTp (mAt u (nI (wdE (mTp u) N q)))) N (wdE (mTp u) N q) ≤ N := nmB_le (mTp u) heN; omega))⟩)
    · have hb : nBad (mTp u) N 2 (wdE (mTp u) N q) = 1 := nBad_none (lt1p o)
      have g := g1 (by rw [hb]; decide) (doA v 2 (nmV (mTp u) N (wdE (mTp u) N q)) 0 0 0) (doA_2 v _ _ _ _)
      obtain ⟨k, hk, ek, ec⟩ := key_n (nmOk_in o)
      have ek : nmV (mTp u) N (wdE (mTp u) N q) = nI k := ek
      have ec : (nmV (mTp u) N (wdE (mTp u) N q)).toNatClampNeg = k := ec
      refine ⟨v, ρ, β, mo, lm, L, S, M, B, k, hP, by omega, hk, ek, hr, fun f1 f2 m' hm' => ?_, fun f1 f2 => ?_, fun f1 => ?_⟩
      · rw [doA2_y ec f1 f2] at g
        exact fz _ (g.1 rfl m' (mLs u) hm')
      · rw [doA2_n ec f1 f2] at g
        exact fc 2 _ (by decide) (by decide) hf (g.2 (show ¬ (2 : Int32) = 0 from by decide) u.2.1 _ (mLs u) (nmE_le _ heN))
      · rw [doA2_f f1] at g
        exact fc 1 _ (by decide) (by decide) hf (g.2 (show ¬ (1 : Int32) = 0 from by decide) u.2.1 _ (mLs u) (nmE_le _ heN))
    · have hb : nBad (mTp u) N 2 (wdE (mTp u) N q) = 0 := nBad_at (fun i hi => absurd hi (Nat.not_lt_zero i)) o (by decide)
      rw [hb] at g2
      exact g2 (by decide) u.2.1 a (mLs u) ha
  refine has_i htq hs hf (fun c3 => ⟨fun z => absurd z (by decide), fun _ => ?_⟩) (fun n3 => ⟨fun _ => ?_, fun z => absurd rfl z⟩)
  · -- sync
    obtain ⟨g1, -⟩ := gen 3 (by decide) (by decide) (fi 3 (by decide) (lt3p n0 n1 n2) c3)
    refine ⟨vp_in_nI (n := 5) (by decide) (by decide), vp_in_nI (n := 6) (by decide) (by decide), fun f ef => fz _ ?_⟩
    have ef : f = upd u.2.1 6 (u.2.1 5) := ef
    exact (g1 (Nat.not_lt_zero _) _ rfl).1 rfl f (mLs u) (by rw [ef]; exact hr.sync)
  refine has_i htq hs hf (fun c4 => ⟨fun z => absurd z (by decide), fun _ => ?_⟩) (fun n4 => ⟨fun _ => ?_, fun z => absurd rfl z⟩)
  · -- flush
    obtain ⟨g1, -⟩ := gen 4 (by decide) (by decide) (fi 4 (by decide) (lt4p n0 n1 n2 n3) c4)
    exact ⟨v, ρ, β, mo, lm, L, S, M, B, hP, hr, fun m' hm' => fz _ ((g1 (Nat.not_lt_zero _) _ rfl).1 rfl m' (mLs u) hm')⟩
  have l5 : ∀ i, i < 5 → isWd (mTp u) q (wdE (mTp u) N q) i = false := fun i hi => by
    by_cases q2 : i = 4
    · rw [q2]; exact n4
    · exact lt4p (P := fun i => isWd (mTp u) q (wdE (mTp u) N q) i = false) n0 n1 n2 n3 i (by omega)
  refine has_i htq hs hf (fun c5 => ⟨fun z => absurd z (by decide), fun _ => ?_⟩) (fun n5 => ⟨fun _ => ?_, fun z => absurd rfl z⟩)
  · -- crash
    obtain ⟨g1, -⟩ := gen 5 (by decide) (by decide) (fi 5 (by decide) l5 c5)
    exact ⟨v, ρ, β, mo, lm, L, S, M, B, hP, hr, fun m' hm' => fz _ ((g1 (Nat.not_lt_zero _) _ rfl).1 rfl m' (mLs u) hm')⟩
  have l6 : ∀ i, i < 6 → isWd (mTp u) q (wdE (mTp u) N q) i = false := fun i hi => by
    by_cases q2 : i = 5
    · rw [q2]; exact n5
    · exact l5 i (by omega)
  refine has_i htq hs hf (fun c6 => ⟨fun z => absurd z (by decide), fun _ => ?_⟩) (fun n6 => ⟨fun _ => ?_, fun z => absurd rfl z⟩)
  · -- pick
    have hK := fi 6 (by decide) l6 c6
    refine ⟨B, v, N, wdE (mTp u) N q, hv, hr, hte, hf, fun hb => ?_, fun hb hl a ha => fz _ ?_⟩
    · have e := hok (aWr_6 hK hb)
      unfold doT at e
      rw [hK, doA_6] at e
      refine ⟨fun z m' hm' => fz _ (e.1 z m' (mLs u) hm'), fun z => fc _ _ z (doA6_pos _ _ _ _ _) hf (e.2 z u.2.1 _ (mLs u) ?_)⟩
      unfold nEnd
      split
      · exact pSk_le _ heN
      · exact nPos_le _ heN _
    · have hb : pkNo (mTp u) N (wdE (mTp u) N q) = false := hb
      have e := aWr_bad hK (by decide) (fun z => by rw [hb] at z; exact absurd z.2 (by decide)) hl
      rw [e] at hbad
      exact hbad (by omega) u.2.1 a (mLs u) ha
  have l7 : ∀ i, i < 7 → isWd (mTp u) q (wdE (mTp u) N q) i = false := fun i hi => by
    by_cases q2 : i = 6
    · rw [q2]; exact n6
    · exact l6 i (by omega)
  refine has_i htq hs hf (fun c7 => ⟨fun z => absurd z (by decide), fun _ => ?_⟩) (fun n7 => ⟨fun _ => ?_, fun z => absurd rfl z⟩)
  · -- step
    obtain ⟨g1, g2⟩ := gen 7 (by decide) (by decide) (fi 7 (by decide) l7 c7)
    refine num_go hte hf (fun o => ⟨fun z => absurd hf z, fun _ => ?_⟩) (fun o x a ha => ⟨fun _ => fz _ ?_, fun z => absurd z (n_neg (by have q9 : nmB (mTp (mAt u (nI (wdE (mTp u) N q)))) N (wdE (mTp u) N q) ≤ N := nmB_le (mTp u) heN; omega))⟩)
    · have hb : nBad (mTp u) N 7 (wdE (mTp u) N q) = 1 := nBad_none (lt1p o)
      have g := g1 (by rw [hb]; decide) (doA v 7 (nmV (mTp u) N (wdE (mTp u) N q)) 0 0 0) (doA_7 v _ _ _ _)
      obtain ⟨n, hn1, hn2, ek, ec⟩ := inR_n (a := 1) (b := 20) (by decide) (by decide) (nmOk_in o)
      have ek : nmV (mTp u) N (wdE (mTp u) N q) = nI n := ek
      have ec : (nmV (mTp u) N (wdE (mTp u) N q)).toNatClampNeg = n := ec
      refine ⟨v, ρ, β, mo, lm, L, S, M, B, n, hP, by omega, by omega, ek, hr, fun hoff => ?_, fun hon m' hm' => ?_⟩
      · have e5 : uRst v n = 5 := if_pos hoff
        rw [doA7_n ec (by rw [e5]; decide), e5] at g
        exact fc 5 _ (by decide) (by decide) hf (g.2 (show ¬ (5 : Int32) = 0 from by decide) u.2.1 _ 0 (nmE_le _ heN))
      · have ecd : uCode n 0 v = uRst v n := by
          rw [uCode_eq n hP (by omega) hon]
          exact (if_neg hon).symm
        have hpos : ¬ uRst v n < 0 := by
          rw [← ecd, uCode_eq n hP (by omega) hon]; exact uRs_pos _ _ _
        rw [ecd]
        by_cases h0 : uRst v n = 0
        · rw [doA7_y ec h0] at g
          rw [h0]
          exact fz _ (g.1 rfl m' _ hm')
        · rw [doA7_n ec h0] at g
          exact fc _ _ h0 hpos hf (g.2 h0 m' _ _ (nmE_le _ heN))
    · have hb : nBad (mTp u) N 7 (wdE (mTp u) N q) = 0 := nBad_at (fun i hi => absurd hi (Nat.not_lt_zero i)) o (by decide)
      rw [hb] at g2
      exact g2 (by decide) u.2.1 a (mLs u) ha
  have l8 : ∀ i, i < 8 → isWd (mTp u) q (wdE (mTp u) N q) i = false := fun i hi => by
    by_cases q2 : i = 7
    · rw [q2]; exact n7
    · exact l7 i (by omega)
  refine has_i htq hs hf (fun c8 => ⟨fun z => absurd z (by decide), fun _ => ?_⟩) (fun n8 => ⟨fun _ => ?_, fun z => absurd rfl z⟩)
  · -- quit
    obtain ⟨g1, -⟩ := gen 8 (by decide) (by decide) (fi 8 (by decide) l8 c8)
    refine ⟨v, hr, fun hon m' hm' => ?_, fun hoff => ?_⟩
    · exact fz _ ((g1 (Nat.not_lt_zero _) (0, uQuit v) (doA8_y _ _ _ _ hon).symm).1 rfl m' (mLs u) hm')
    · exact fc 5 _ (by decide) (by decide) hf ((g1 (Nat.not_lt_zero _) (5, v) (doA8_n _ _ _ _ hoff).symm).2 (show ¬ (5 : Int32) = 0 from by decide) u.2.1 _ (mLs u) heN)
  have l9 : ∀ i, i < 9 → isWd (mTp u) q (wdE (mTp u) N q) i = false := fun i hi => by
    by_cases q2 : i = 8
    · rw [q2]; exact n8
    · exact l8 i (by omega)
  refine has_i htq hs hf (fun c9 => ⟨fun z => absurd z (by decide), fun _ => ?_⟩) (fun n9 => ⟨fun _ => ?_, fun z => absurd rfl z⟩)
  · -- merge
    obtain ⟨g1, -⟩ := gen 9 (by decide) (by decide) (fi 9 (by decide) l9 c9)
    exact ⟨v, hP.ok, hP.2.2.2.2.2.2.2.2.2.2.1, hP.2.2.2.2.2.2.2.2.2.1.1.2, hr, fun m' hm' => fz _ ((g1 (Nat.not_lt_zero _) _ rfl).1 rfl m' (mLs u) hm')⟩
  · -- none
    have hK : wdK (mTp u) N q = 10 := first_none (fun i hi => by
      by_cases q2 : i = 9
      · rw [q2]; exact n9
      · exact l9 i (by omega))
    have e : aWr (mTp u) N q = q + 1 := if_pos hK
    rw [e] at hbad
    exact ⟨fun z => absurd hf z, fun _ => fz _ (hbad (by omega) u.2.1 q (mLs u) hq)⟩
theorem c_X11_act (l : Launch) (dC : Nat → ClassId) (dI : Nat → Nat → Nat) (cI cJ cS : ClassId) (a : Nat → Nat) (u : zModel) (Q : Int32 → zModel → Prop) (hf : s_X11_act u Q) : ∀ sz : Nat, Met l yX11_act (Cond.code yX11_act cX11_act 4 (some .int) :: zT) rm_X11_act (zPmF zFz dC dI cI cJ cS (cl_X11 cI cJ a u) [.ref (a 0)] sz) (va_Qi Q (zB dC dI cI cJ cS (va_A (cl_X11 cI cJ a u) sz) (fun z => cl_X11 cI cJ a z)) (va_A (cl_X11 cI cJ a u) sz)) 0 0 (va_A (cl_X11 cI cJ a u) sz) := L_X11_act l dC dI cI cJ cS a u Q (st_X11_act hf)
