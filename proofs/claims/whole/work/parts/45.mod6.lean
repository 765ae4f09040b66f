def t_X11_appends (u : zModel) (x1 : Int32) (x2 : Int32) (x3 : Int32) (Q : zModel → Prop) : Prop := s_X11_openOne u (fun r_1 : Int32 => s_X11_sizeOf x2 (fun r_2 : Int32 => s_X11_segmentAt u r_1 (2 : Int32) (fun r_3 : Int32 => vp_in (0 : Int32) 5497 ∧ (((r_3 + r_2) ≤ (u.2.1 (0 : Int32).toNatClampNeg) → s_X11_segmentAt u r_1 (1 : Int32) (fun r_5 : Int32 => s_X11_recordAt r_1 r_5 (fun r_6 : Int32 => vp_in (5 : Int32) 5497 ∧ vp_in (5 : Int32) 5497 ∧ ∀ f_7 : Nat → Int32, f_7 = upd u.2.1 (5 : Int32).toNatClampNeg ((u.2.1 (5 : Int32).toNatClampNeg) + (1 : Int32)) → vp_in (r_6 + (0 : Int32)) 5497 ∧ ∀ f_8 : Nat → Int32, f_8 = upd f_7 (r_6 + (0 : Int32)).toNatClampNeg x1 → vp_in (r_6 + (1 : Int32)) 5497 ∧ ∀ f_9 : Nat → Int32, f_9 = upd f_8 (r_6 + (1 : Int32)).toNatClampNeg x2 → vp_in (r_6 + (2 : Int32)) 5497 ∧ ∀ f_10 : Nat → Int32, f_10 = upd f_9 (r_6 + (2 : Int32)).toNatClampNeg x3 → vp_in (5 : Int32) 5497 ∧ vp_in (r_6 + (3 : Int32)) 5497 ∧ ∀ f_11 : Nat → Int32, f_11 = upd f_10 (r_6 + (3 : Int32)).toNatClampNeg (f_10 (5 : Int32).toNatClampNeg) → s_X11_segmentAt (u.1, f_11, u.2.2) r_1 (2 : Int32) (fun r_12 : Int32 => vp_in (r_6 + (4 : Int32)) 5497 ∧ ∀ f_13 : Nat → Int32, f_13 = upd f_11 (r_6 + (4 : Int32)).toNatClampNeg r_12 → vp_in (((66 : Int32) + ((3 : Int32) * r_1)) + (1 : Int32)) 5497 ∧ vp_in (((66 : Int32) + ((3 : Int32) * r_1)) + (1 : Int32)) 5497 ∧ ∀ f_14 : Nat → Int32, f_14 = upd f_13 (((66 : Int32) + ((3 : Int32) * r_1)) + (1 : Int32)).toNatClampNeg ((f_13 (((66 : Int32) + ((3 : Int32) * r_1)) + (1 : Int32)).toNatClampNeg) + (1 : Int32)) → vp_in (((66 : Int32) + ((3 : Int32) * r_1)) + (2 : Int32)) 5497 ∧ vp_in (((66 : Int32) + ((3 : Int32) * r_1)) + (2 : Int32)) 5497 ∧ ∀ f_15 : Nat → Int32, f_15 = upd f_14 (((66 : Int32) + ((3 : Int32) * r_1)) + (2 : Int32)).toNatClampNeg ((f_14 (((66 : Int32) + ((3 : Int32) * r_1)) + (2 : Int32)).toNatClampNeg) + r_2) → vp_in (13 : Int32) 5497 ∧ vp_in (13 : Int32) 5497 ∧ ∀ f_16 : Nat → Int32, f_16 = upd f_15 (13 : Int32).toNatClampNeg ((f_15 (13 : Int32).toNatClampNeg) + r_2) → s_X11_enters (u.1, f_16, u.2.2) r_1 r_5 (fun (u_18 : zModel) => Q u_18))))) ∧ (¬ (r_3 + r_2) ≤ (u.2.1 (0 : Int32).toNatClampNeg) → vp_in (((66 : Int32) + ((3 : Int32) * r_1)) + (0 : Int32)) 5497 ∧ ∀ f_19 : Nat → Int32, f_19 = upd u.2.1 (((66 : Int32) + ((3 : Int32) * r_1)) + (0 : Int32)).toNatClampNeg (2 : Int32) → s_X11_logs (u.1, f_19, u.2.2) (4 : Int32) r_1 (fun (u_21 : zModel) => s_X11_leastFree u_21 (fun r_22 : Int32 => vp_in (((66 : Int32) + ((3 : Int32) * r_22)) + (0 : Int32)) 5497 ∧ ∀ f_23 : Nat → Int32, f_23 = upd u_21.2.1 (((66 : Int32) + ((3 : Int32) * r_22)) + (0 : Int32)).toNatClampNeg (1 : Int32) → s_X11_segmentAt (u_21.1, f_23, u_21.2.2) r_22 (1 : Int32) (fun r_24 : Int32 => s_X11_recordAt r_22 r_24 (fun r_25 : Int32 => vp_in (5 : Int32) 5497 ∧ vp_in (5 : Int32) 5497 ∧ ∀ f_26 : Nat → Int32, f_26 = upd f_23 (5 : Int32).toNatClampNeg ((f_23 (5 : Int32).toNatClampNeg) + (1 : Int32)) → vp_in (r_25 + (0 : Int32)) 5497 ∧ ∀ f_27 : Nat → Int32, f_27 = upd f_26 (r_25 + (0 : Int32)).toNatClampNeg x1 → vp_in (r_25 + (1 : Int32)) 5497 ∧ ∀ f_28 : Nat → Int32, f_28 = upd f_27 (r_25 + (1 : Int32)).toNatClampNeg x2 → vp_in (r_25 + (2 : Int32)) 5497 ∧ ∀ f_29 : Nat → Int32, f_29 = upd f_28 (r_25 + (2 : Int32)).toNatClampNeg x3 → vp_in (5 : Int32) 5497 ∧ vp_in (r_25 + (3 : Int32)) 5497 ∧ ∀ f_30 : Nat → Int32, f_30 = upd f_29 (r_25 + (3 : Int32)).toNatClampNeg (f_29 (5 : Int32).toNatClampNeg) → s_X11_segmentAt (u_21.1, f_30, u_21.2.2) r_22 (2 : Int32) (fun r_31 : Int32 => vp_in (r_25 + (4 : Int32)) 5497 ∧ ∀ f_32 : Nat → Int32, f_32 = upd f_30 (r_25 + (4 : Int32)).toNatClampNeg r_31 → vp_in (((66 : Int32) + ((3 : Int32) * r_22)) + (1 : Int32)) 5497 ∧ vp_in (((66 : Int32) + ((3 : Int32) * r_22)) + (1 : Int32)) 5497 ∧ ∀ f_33 : Nat → Int32, f_33 = upd f_32 (((66 : Int32) + ((3 : Int32) * r_22)) + (1 : Int32)).toNatClampNeg ((f_32 (((66 : Int32) + ((3 : Int32) * r_22)) + (1 : Int32)).toNatClampNeg) + (1 : Int32)) → vp_in (((66 : Int32) + ((3 : Int32) * r_22)) + (2 : Int32)) 5497 ∧ vp_in (((66 : Int32) + ((3 : Int32) * r_22)) + (2 : Int32)) 5497 ∧ ∀ f_34 : Nat → Int32, f_34 = upd f_33 (((66 : Int32) + ((3 : Int32) * r_22)) + (2 : Int32)).toNatClampNeg ((f_33 (((66 : Int32) + ((3 : Int32) * r_22)) + (2 : Int32)).toNatClampNeg) + r_2) → vp_in (13 : Int32) 5497 ∧ vp_in (13 : Int32) 5497 ∧ ∀ f_35 : Nat → Int32, f_35 = upd f_34 (13 : Int32).toNatClampNeg ((f_34 (13 : Int32).toNatClampNeg) + r_2) → s_X11_enters (u_21.1, f_35, u_21.2.2) r_22 r_24 (fun (u_37 : zModel) => Q u_37)))))))))))
theorem zc_X11_appends : zCalV RX11 yX11_appends cX11_appends 8 none 3 := ⟨q_im_X11_appends, q_se_X11_appends, q_in_X11, q_cd_X11_appends, ⟨by decide, by decide, by decide +kernel⟩, rfl⟩
abbrev rm_X11_appends : Room := { frames := 2, cells := 0, slots := 0, locals := 46 }
set_option maxHeartbeats 4000000 in
set_option maxRecDepth 100000 in
theorem L_X11_appends (l : Launch) (dC : Nat → ClassId) (dI : Nat → Nat → Nat) (cI cJ cS : ClassId) (a : Nat → Nat) (u : zModel) (x1 : Int32) (x2 : Int32) (x3 : Int32) (Q : zModel → Prop) (hf : t_X11_appends u x1 x2 x3 Q) : ∀ sz : Nat, Met l yX11_appends (Cond.code yX11_appends cX11_appends 8 none :: zT) rm_X11_appends (zPm dC dI cI cJ cS (cl_X11 cI cJ a u) [.ref (a 0), .int x1, .int x2, .int x3] sz) (va_Qv Q (zB dC dI cI cJ cS (va_A (cl_X11 cI cJ a u) sz) (fun z => cl_X11 cI cJ a z)) (va_A (cl_X11 cI cJ a u) sz)) 0 0 (va_A (cl_X11 cI cJ a u) sz) := by
  intro sz
  refine z_enterM (Qc := fun A => va_Qv Q (zB dC dI cI cJ cS A (fun z => cl_X11 cI cJ a z)) A) (cc := cX11_appends) (maxL := 8) (ret := none) (by decide) (Nat.le_of_ble_eq_true rfl) ?_
  intro p e s m below meth c ls A X hP hD hS hA hl
  obtain ⟨⟨hx, hb, hml, hown, hts⟩, hr, hlk, hK⟩ := id X
  have hl : lv_has ls 8 [(0, .ref (a 0)), (1, .int x1), (2, .int x2), (3, .int x3)] := hl
  unfold t_X11_appends at hf
  refine lv_aload_n hx hb dX11_appends_0 rfl (lv_at hl 0 rfl) ?_
  refine z_cVi (As := []) (rest := []) X (c_X11_openOne l dC dI cI cJ cS a u  _ hf) zc_X11_openOne q_ml_X11_56 ⟨rfl, rfl⟩ ⟨Nat.le_of_ble_eq_true rfl, Nat.le_of_ble_eq_true rfl⟩ hP [0, 1, 2, 3, 4, 5, 6, 7, 8] rfl 10 rfl rfl hl.1 rfl rfl (Nat.le_of_ble_eq_true rfl) ⟨Nat.zero_le _, Nat.zero_le _⟩ dX11_appends_1 (fun r_1 hf => ?_)
  refine lv_istore (lv' := [(4, .int r_1), (0, .ref (a 0)), (1, .int x1), (2, .int x2), (3, .int x3)]) hx hb dX11_appends_4 hl (by decide) rfl (fun ls hl => ?_)
  refine lv_iload_n hx hb dX11_appends_6 rfl (lv_at hl 3 rfl) ?_
  refine z_cSi (As := [.int x2]) (rest := []) X (c_X11_sizeOf l dC dI cI cJ cS   x2 _ hf) zc_X11_sizeOf q_ml_X11_91 ⟨rfl, rfl⟩ ⟨Nat.le_of_ble_eq_true rfl, Nat.le_of_ble_eq_true rfl⟩ hP [] rfl hl.1 rfl rfl (Nat.le_of_ble_eq_true rfl) ⟨Nat.zero_le _, Nat.zero_le _⟩ dX11_appends_7 (fun r_2 hf => ?_)
  refine lv_istore (lv' := [(5, .int r_2), (4, .int r_1), (0, .ref (a 0)), (1, .int x1), (2, .int x2), (3, .int x3)]) hx hb dX11_appends_10 hl (by decide) rfl (fun ls hl => ?_)
  refine lv_aload_n hx hb dX11_appends_12 rfl (lv_at hl 2 rfl) ?_
  refine lv_iload hx hb dX11_appends_13 (lv_at hl 1 rfl) ?_
  refine lv_iconst (v := 2) hx hb dX11_appends_15 (by decide) ?_
  refine z_cVi (As := [.int r_1, .int (2 : Int32)]) (rest := []) X (c_X11_segmentAt l dC dI cI cJ cS a u r_1 (2 : Int32) _ hf) zc_X11_segmentAt q_ml_X11_53 ⟨rfl, rfl⟩ ⟨Nat.le_of_ble_eq_true rfl, Nat.le_of_ble_eq_true rfl⟩ hP [0, 1, 2, 3, 4, 5, 6, 7, 8] rfl 10 rfl rfl hl.1 rfl rfl (Nat.le_of_ble_eq_true rfl) ⟨Nat.zero_le _, Nat.zero_le _⟩ dX11_appends_16 (fun r_3 hf => ?_)
  refine lv_iload hx hb dX11_appends_19 (lv_at hl 0 rfl) ?_
  refine lv_iadd hx hb dX11_appends_21 ?_
  refine lv_aload_n hx hb dX11_appends_22 rfl (lv_at hl 2 rfl) ?_
  refine va_get (D := (dC, dI)) (ci := 10) (v := .ref (a 1)) (C := RX11) (T := TX11) (N := 17) hx hb hts inX11 hown hK hP 0 rfl rfl 1 (by decide) (hts _ q_fl_X11_7) (fun _ h9 => h9) rfl dX11_appends_23 ?_
  refine lv_iconst (v := 0) hx hb dX11_appends_26 (by decide) ?_
  obtain ⟨hg, hf⟩ := hf
  refine va_iald hx hb hK hP 1 0 rfl rfl hg dX11_appends_27 ?_
  refine lv_icmp_le (tgt := 74) hx hb dX11_appends_28 (by decide) (fun c_4 => ?_) (fun c_4 => ?_)
  · have hf := hf.1 c_4
    refine lv_aload_n hx hb dX11_appends_74 rfl (lv_at hl 2 rfl) ?_
    refine lv_iload hx hb dX11_appends_75 (lv_at hl 1 rfl) ?_
    refine lv_iconst (v := 1) hx hb dX11_appends_77 (by decide) ?_
    refine z_cVi (As := [.int r_1, .int (1 : Int32)]) (rest := []) X (c_X11_segmentAt l dC dI cI cJ cS a u r_1 (1 : Int32) _ hf) zc_X11_segmentAt q_ml_X11_53 ⟨rfl, rfl⟩ ⟨Nat.le_of_ble_eq_true rfl, Nat.le_of_ble_eq_true rfl⟩ hP [0, 1, 2, 3, 4, 5, 6, 7, 8] rfl 10 rfl rfl hl.1 rfl rfl (Nat.le_of_ble_eq_true rfl) ⟨Nat.zero_le _, Nat.zero_le _⟩ dX11_appends_78 (fun r_5 hf => ?_)
    refine lv_istore (lv' := [(6, .int r_5), (5, .int r_2), (4, .int r_1), (0, .ref (a 0)), (1, .int x1), (2, .int x2), (3, .int x3)]) hx hb dX11_appends_81 hl (by decide) rfl (fun ls hl => ?_)
    refine lv_iload hx hb dX11_appends_83 (lv_at hl 2 rfl) ?_
    refine lv_iload hx hb dX11_appends_85 (lv_at hl 0 rfl) ?_
    refine z_cSi (As := [.int r_1, .int r_5]) (rest := []) X (c_X11_recordAt l dC dI cI cJ cS   r_1 r_5 _ hf) zc_X11_recordAt q_ml_X11_46 ⟨rfl, rfl⟩ ⟨Nat.le_of_ble_eq_true rfl, Nat.le_of_ble_eq_true rfl⟩ hP [] rfl hl.1 rfl rfl (Nat.le_of_ble_eq_true rfl) ⟨Nat.zero_le _, Nat.zero_le _⟩ dX11_appends_87 (fun r_6 hf => ?_)
    refine lv_istore (lv' := [(7, .int r_6), (6, .int r_5), (5, .int r_2), (4, .int r_1), (0, .ref (a 0)), (1, .int x1), (2, .int x2), (3, .int x3)]) hx hb dX11_appends_90 hl (by decide) rfl (fun ls hl => ?_)
    refine lv_aload_n hx hb dX11_appends_92 rfl (lv_at hl 4 rfl) ?_
    refine va_get (D := (dC, dI)) (ci := 10) (v := .ref (a 1)) (C := RX11) (T := TX11) (N := 17) hx hb hts inX11 hown hK hP 0 rfl rfl 1 (by decide) (hts _ q_fl_X11_7) (fun _ h9 => h9) rfl dX11_appends_93 ?_
    refine lv_iconst (v := 5) hx hb dX11_appends_96 (by decide) ?_
    refine lv_dup2_11 hx hb dX11_appends_97 rfl rfl ?_
    obtain ⟨hg, hf⟩ := hf
    refine va_iald hx hb hK hP 1 0 rfl rfl hg dX11_appends_98 ?_
    refine lv_iconst (v := 1) hx hb dX11_appends_99 (by decide) ?_
    refine lv_iadd hx hb dX11_appends_100 ?_
    obtain ⟨hg, hf⟩ := hf
    refine z_iast (Wn := fun f_7 => cl_X11 cI cJ a (u.1, f_7, u.2.2)) X hP hD hS 1 0 rfl rfl hg (fun _ => rfl) dX11_appends_101 (fun f_7 H locs ef_7 hP hD hS => ?_)
    have hf := hf f_7 ef_7
    refine lv_aload_n hx hb dX11_appends_102 rfl (lv_at hl 4 rfl) ?_
    refine va_get (D := (dC, dI)) (ci := 10) (v := .ref (a 1)) (C := RX11) (T := TX11) (N := 17) hx hb hts inX11 hown hK hP 0 rfl rfl 1 (by decide) (hts _ q_fl_X11_7) (fun _ h9 => h9) rfl dX11_appends_103 ?_
    refine lv_iload hx hb dX11_appends_106 (lv_at hl 0 rfl) ?_
    refine lv_iconst (v := 0) hx hb dX11_appends_108 (by decide) ?_
    refine lv_iadd hx hb dX11_appends_109 ?_
    refine lv_iload_n hx hb dX11_appends_110 rfl (lv_at hl 5 rfl) ?_
    obtain ⟨hg, hf⟩ := hf
    refine z_iast (Wn := fun f_8 => cl_X11 cI cJ a (u.1, f_8, u.2.2)) X hP hD hS 1 0 rfl rfl hg (fun _ => rfl) dX11_appends_111 (fun f_8 H locs ef_8 hP hD hS => ?_)
    have hf := hf f_8 ef_8
    refine lv_aload_n hx hb dX11_appends_112 rfl (lv_at hl 4 rfl) ?_
    refine va_get (D := (dC, dI)) (ci := 10) (v := .ref (a 1)) (C := RX11) (T := TX11) (N := 17) hx hb hts inX11 hown hK hP 0 rfl rfl 1 (by decide) (hts _ q_fl_X11_7) (fun _ h9 => h9) rfl dX11_appends_113 ?_
    refine lv_iload hx hb dX11_appends_116 (lv_at hl 0 rfl) ?_
    refine lv_iconst (v := 1) hx hb dX11_appends_118 (by decide) ?_
    refine lv_iadd hx hb dX11_appends_119 ?_
    refine lv_iload_n hx hb dX11_appends_120 rfl (lv_at hl 6 rfl) ?_
    obtain ⟨hg, hf⟩ := hf
    refine z_iast (Wn := fun f_9 => cl_X11 cI cJ a (u.1, f_9, u.2.2)) X hP hD hS 1 0 rfl rfl hg (fun _ => rfl) dX11_appends_121 (fun f_9 H locs ef_9 hP hD hS => ?_)
    have hf := hf f_9 ef_9
    refine lv_aload_n hx hb dX11_appends_122 rfl (lv_at hl 4 rfl) ?_
    refine va_get (D := (dC, dI)) (ci := 10) (v := .ref (a 1)) (C := RX11) (T := TX11) (N := 17) hx hb hts inX11 hown hK hP 0 rfl rfl 1 (by decide) (hts _ q_fl_X11_7) (fun _ h9 => h9) rfl dX11_appends_123 ?_
    refine lv_iload hx hb dX11_appends_126 (lv_at hl 0 rfl) ?_
    refine lv_iconst (v := 2) hx hb dX11_appends_128 (by decide) ?_
    refine lv_iadd hx hb dX11_appends_129 ?_
    refine lv_iload_n hx hb dX11_appends_130 rfl (lv_at hl 7 rfl) ?_
    obtain ⟨hg, hf⟩ := hf
    refine z_iast (Wn := fun f_10 => cl_X11 cI cJ a (u.1, f_10, u.2.2)) X hP hD hS 1 0 rfl rfl hg (fun _ => rfl) dX11_appends_131 (fun f_10 H locs ef_10 hP hD hS => ?_)
    have hf := hf f_10 ef_10
    refine lv_aload_n hx hb dX11_appends_132 rfl (lv_at hl 4 rfl) ?_
    refine va_get (D := (dC, dI)) (ci := 10) (v := .ref (a 1)) (C := RX11) (T := TX11) (N := 17) hx hb hts inX11 hown hK hP 0 rfl rfl 1 (by decide) (hts _ q_fl_X11_7) (fun _ h9 => h9) rfl dX11_appends_133 ?_
    refine lv_iload hx hb dX11_appends_136 (lv_at hl 0 rfl) ?_
    refine lv_iconst (v := 3) hx hb dX11_appends_138 (by decide) ?_
    refine lv_iadd hx hb dX11_appends_139 ?_
    refine lv_aload_n hx hb dX11_appends_140 rfl (lv_at hl 4 rfl) ?_
    refine va_get (D := (dC, dI)) (ci := 10) (v := .ref (a 1)) (C := RX11) (T := TX11) (N := 17) hx hb hts inX11 hown hK hP 0 rfl rfl 1 (by decide) (hts _ q_fl_X11_7) (fun _ h9 => h9) rfl dX11_appends_141 ?_
    refine lv_iconst (v := 5) hx hb dX11_appends_144 (by decide) ?_
    obtain ⟨hg, hf⟩ := hf
    refine va_iald hx hb hK hP 1 0 rfl rfl hg dX11_appends_145 ?_
    obtain ⟨hg, hf⟩ := hf
    refine z_iast (Wn := fun f_11 => cl_X11 cI cJ a (u.1, f_11, u.2.2)) X hP hD hS 1 0 rfl rfl hg (fun _ => rfl) dX11_appends_146 (fun f_11 H locs ef_11 hP hD hS => ?_)
    have hf := hf f_11 ef_11
    refine lv_aload_n hx hb dX11_appends_147 rfl (lv_at hl 4 rfl) ?_
    refine va_get (D := (dC, dI)) (ci := 10) (v := .ref (a 1)) (C := RX11) (T := TX11) (N := 17) hx hb hts inX11 hown hK hP 0 rfl rfl 1 (by decide) (hts _ q_fl_X11_7) (fun _ h9 => h9) rfl dX11_appends_148 ?_
    refine lv_iload hx hb dX11_appends_151 (lv_at hl 0 rfl) ?_
    refine lv_iconst (v := 4) hx hb dX11_appends_153 (by decide) ?_
    refine lv_iadd hx hb dX11_appends_154 ?_
    refine lv_aload_n hx hb dX11_appends_155 rfl (lv_at hl 4 rfl) ?_
    refine lv_iload hx hb dX11_appends_156 (lv_at hl 3 rfl) ?_
    refine lv_iconst (v := 2) hx hb dX11_appends_158 (by decide) ?_
    refine z_cVi (As := [.int r_1, .int (2 : Int32)]) (rest := [.int (r_6 + (4 : Int32)), .ref (a 1)]) X (c_X11_segmentAt l dC dI cI cJ cS a (u.1, f_11, u.2.2) r_1 (2 : Int32) _ hf) zc_X11_segmentAt q_ml_X11_53 ⟨rfl, rfl⟩ ⟨Nat.le_of_ble_eq_true rfl, Nat.le_of_ble_eq_true rfl⟩ hP [0, 1, 2, 3, 4, 5, 6, 7, 8] rfl 10 rfl rfl hl.1 rfl rfl (Nat.le_of_ble_eq_true rfl) ⟨Nat.zero_le _, Nat.zero_le _⟩ dX11_appends_159 (fun r_12 hf => ?_)
    obtain ⟨hg, hf⟩ := hf
    refine z_iast (Wn := fun f_13 => cl_X11 cI cJ a (u.1, f_13, u.2.2)) X hP hD hS 1 0 rfl rfl hg (fun _ => rfl) dX11_appends_162 (fun f_13 H locs ef_13 hP hD hS => ?_)
    have hf := hf f_13 ef_13
    refine lv_aload_n hx hb dX11_appends_163 rfl (lv_at hl 4 rfl) ?_
    refine va_get (D := (dC, dI)) (ci := 10) (v := .ref (a 1)) (C := RX11) (T := TX11) (N := 17) hx hb hts inX11 hown hK hP 0 rfl rfl 1 (by decide) (hts _ q_fl_X11_7) (fun _ h9 => h9) rfl dX11_appends_164 ?_
    refine lv_bipush (v := 66) hx hb dX11_appends_167 (by decide) ?_
    refine lv_iconst (v := 3) hx hb dX11_appends_169 (by decide) ?_
    refine lv_iload hx hb dX11_appends_170 (lv_at hl 3 rfl) ?_
    refine lv_imul hx hb dX11_appends_172 ?_
    refine lv_iadd hx hb dX11_appends_173 ?_
    refine lv_iconst (v := 1) hx hb dX11_appends_174 (by decide) ?_
    refine lv_iadd hx hb dX11_appends_175 ?_
    refine lv_dup2_11 hx hb dX11_appends_176 rfl rfl ?_
    obtain ⟨hg, hf⟩ := hf
    refine va_iald hx hb hK hP 1 0 rfl rfl hg dX11_appends_177 ?_
    refine lv_iconst (v := 1) hx hb dX11_appends_178 (by decide) ?_
    refine lv_iadd hx hb dX11_appends_179 ?_
    obtain ⟨hg, hf⟩ := hf
    refine z_iast (Wn := fun f_14 => cl_X11 cI cJ a (u.1, f_14, u.2.2)) X hP hD hS 1 0 rfl rfl hg (fun _ => rfl) dX11_appends_180 (fun f_14 H locs ef_14 hP hD hS => ?_)
    have hf := hf f_14 ef_14
    refine lv_aload_n hx hb dX11_appends_181 rfl (lv_at hl 4 rfl) ?_
    refine va_get (D := (dC, dI)) (ci := 10) (v := .ref (a 1)) (C := RX11) (T := TX11) (N := 17) hx hb hts inX11 hown hK hP 0 rfl rfl 1 (by decide) (hts _ q_fl_X11_7) (fun _ h9 => h9) rfl dX11_appends_182 ?_
    refine lv_bipush (v := 66) hx hb dX11_appends_185 (by decide) ?_
    refine lv_iconst (v := 3) hx hb dX11_appends_187 (by decide) ?_
    refine lv_iload hx hb dX11_appends_188 (lv_at hl 3 rfl) ?_
    refine lv_imul hx hb dX11_appends_190 ?_
    refine lv_iadd hx hb dX11_appends_191 ?_
    refine lv_iconst (v := 2) hx hb dX11_appends_192 (by decide) ?_
    refine lv_iadd hx hb dX11_appends_193 ?_
    refine lv_dup2_11 hx hb dX11_appends_194 rfl rfl ?_
    obtain ⟨hg, hf⟩ := hf
    refine va_iald hx hb hK hP 1 0 rfl rfl hg dX11_appends_195 ?_
    refine lv_iload hx hb dX11_appends_196 (lv_at hl 2 rfl) ?_
    refine lv_iadd hx hb dX11_appends_198 ?_
    obtain ⟨hg, hf⟩ := hf
    refine z_iast (Wn := fun f_15 => cl_X11 cI cJ a (u.1, f_15, u.2.2)) X hP hD hS 1 0 rfl rfl hg (fun _ => rfl) dX11_appends_199 (fun f_15 H locs ef_15 hP hD hS => ?_)
    have hf := hf f_15 ef_15
    refine lv_aload_n hx hb dX11_appends_200 rfl (lv_at hl 4 rfl) ?_
    refine va_get (D := (dC, dI)) (ci := 10) (v := .ref (a 1)) (C := RX11) (T := TX11) (N := 17) hx hb hts inX11 hown hK hP 0 rfl rfl 1 (by decide) (hts _ q_fl_X11_7) (fun _ h9 => h9) rfl dX11_appends_201 ?_
    refine lv_bipush (v := 13) hx hb dX11_appends_204 (by decide) ?_
    refine lv_dup2_11 hx hb dX11_appends_206 rfl rfl ?_
    obtain ⟨hg, hf⟩ := hf
    refine va_iald hx hb hK hP 1 0 rfl rfl hg dX11_appends_207 ?_
    refine lv_iload hx hb dX11_appends_208 (lv_at hl 2 rfl) ?_
    refine lv_iadd hx hb dX11_appends_210 ?_
    obtain ⟨hg, hf⟩ := hf
    refine z_iast (Wn := fun f_16 => cl_X11 cI cJ a (u.1, f_16, u.2.2)) X hP hD hS 1 0 rfl rfl hg (fun _ => rfl) dX11_appends_211 (fun f_16 H locs ef_16 hP hD hS => ?_)
    have hf := hf f_16 ef_16
    refine lv_aload_n hx hb dX11_appends_212 rfl (lv_at hl 4 rfl) ?_
    refine lv_iload hx hb dX11_appends_213 (lv_at hl 3 rfl) ?_
    refine lv_iload hx hb dX11_appends_215 (lv_at hl 1 rfl) ?_
    refine z_mVv (Wn := (fun u_18 => cl_X11 cI cJ a u_18)) (As := [.int r_1, .int r_5]) (rest := []) (wr := []) X (c_X11_enters l dC dI cI cJ cS a (u.1, f_16, u.2.2) r_1 r_5 _ hf _) zc_X11_enters q_ml_X11_101 ⟨rfl, rfl⟩ ⟨Nat.le_of_ble_eq_true rfl, Nat.le_of_ble_eq_true rfl⟩ hP hD hS hA [0, 1, 2, 3, 4, 5, 6, 7, 8] [] rfl (by decide) rfl (by decide) (by decide) [0, 1, 2, 3, 4, 5, 6, 7, 8] (by decide) (fun _ => rfl) 10 rfl rfl hl.1 rfl rfl (Nat.le_of_ble_eq_true rfl) ⟨Nat.zero_le _, Nat.zero_le _⟩ dX11_appends_217 (fun u_18 H locs hf hP hD hS => ?_)
    exact z_retMv (Wf := (fun z => cl_X11 cI cJ a z)) (u := u_18) X hf hP hD hS dX11_appends_220
  · have hf := hf.2 c_4
    refine lv_aload_n hx hb dX11_appends_31 rfl (lv_at hl 2 rfl) ?_
    refine va_get (D := (dC, dI)) (ci := 10) (v := .ref (a 1)) (C := RX11) (T := TX11) (N := 17) hx hb hts inX11 hown hK hP 0 rfl rfl 1 (by decide) (hts _ q_fl_X11_7) (fun _ h9 => h9) rfl dX11_appends_32 ?_
    refine lv_bipush (v := 66) hx hb dX11_appends_35 (by decide) ?_
    refine lv_iconst (v := 3) hx hb dX11_appends_37 (by decide) ?_
    refine lv_iload hx hb dX11_appends_38 (lv_at hl 1 rfl) ?_
    refine lv_imul hx hb dX11_appends_40 ?_
    refine lv_iadd hx hb dX11_appends_41 ?_
    refine lv_iconst (v := 0) hx hb dX11_appends_42 (by decide) ?_
    refine lv_iadd hx hb dX11_appends_43 ?_
    refine lv_iconst (v := 2) hx hb dX11_appends_44 (by decide) ?_
    obtain ⟨hg, hf⟩ := hf
    refine z_iast (Wn := fun f_19 => cl_X11 cI cJ a (u.1, f_19, u.2.2)) X hP hD hS 1 0 rfl rfl hg (fun _ => rfl) dX11_appends_45 (fun f_19 H locs ef_19 hP hD hS => ?_)
    have hf := hf f_19 ef_19
    refine lv_aload_n hx hb dX11_appends_46 rfl (lv_at hl 2 rfl) ?_
    refine lv_iconst (v := 4) hx hb dX11_appends_47 (by decide) ?_
    refine lv_iload hx hb dX11_appends_48 (lv_at hl 1 rfl) ?_
    refine z_mVv (Wn := (fun u_21 => cl_X11 cI cJ a u_21)) (As := [.int (4 : Int32), .int r_1]) (rest := []) (wr := []) X (c_X11_logs l dC dI cI cJ cS a (u.1, f_19, u.2.2) (4 : Int32) r_1 _ hf _) zc_X11_logs q_ml_X11_94 ⟨rfl, rfl⟩ ⟨Nat.le_of_ble_eq_true rfl, Nat.le_of_ble_eq_true rfl⟩ hP hD hS hA [0, 1, 2, 3, 4, 5, 6, 7, 8] [] rfl (by decide) rfl (by decide) (by decide) [0, 1, 2, 3, 4, 5, 6, 7, 8] (by decide) (fun _ => rfl) 10 rfl rfl hl.1 rfl rfl (Nat.le_of_ble_eq_true rfl) ⟨Nat.zero_le _, Nat.zero_le _⟩ dX11_appends_50 (fun u_21 H locs hf hP hD hS => ?_)
    refine lv_aload_n hx hb dX11_appends_53 rfl (lv_at hl 2 rfl) ?_
    refine z_cVi (As := []) (rest := []) X (c_X11_leastFree l dC dI cI cJ cS a u_21  _ hf) zc_X11_leastFree q_ml_X11_98 ⟨rfl, rfl⟩ ⟨Nat.le_of_ble_eq_true rfl, Nat.le_of_ble_eq_true rfl⟩ hP [0, 1, 2, 3, 4, 5, 6, 7, 8] rfl 10 rfl rfl hl.1 rfl rfl (Nat.le_of_ble_eq_true rfl) ⟨Nat.zero_le _, Nat.zero_le _⟩ dX11_appends_54 (fun r_22 hf => ?_)
    refine lv_istore (lv' := [(4, .int r_22), (5, .int r_2), (0, .ref (a 0)), (1, .int x1), (2, .int x2), (3, .int x3)]) hx hb dX11_appends_57 hl (by decide) rfl (fun ls hl => ?_)
    refine lv_aload_n hx hb dX11_appends_59 rfl (lv_at hl 2 rfl) ?_
    refine va_get (D := (dC, dI)) (ci := 10) (v := .ref (a 1)) (C := RX11) (T := TX11) (N := 17) hx hb hts inX11 hown hK hP 0 rfl rfl 1 (by decide) (hts _ q_fl_X11_7) (fun _ h9 => h9) rfl dX11_appends_60 ?_
    refine lv_bipush (v := 66) hx hb dX11_appends_63 (by decide) ?_
    refine lv_iconst (v := 3) hx hb dX11_appends_65 (by decide) ?_
    refine lv_iload hx hb dX11_appends_66 (lv_at hl 0 rfl) ?_
    refine lv_imul hx hb dX11_appends_68 ?_
    refine lv_iadd hx hb dX11_appends_69 ?_
    refine lv_iconst (v := 0) hx hb dX11_appends_70 (by decide) ?_
    refine lv_iadd hx hb dX11_appends_71 ?_
    refine lv_iconst (v := 1) hx hb dX11_appends_72 (by decide) ?_
    obtain ⟨hg, hf⟩ := hf
    refine z_iast (Wn := fun f_23 => cl_X11 cI cJ a (u_21.1, f_23, u_21.2.2)) X hP hD hS 1 0 rfl rfl hg (fun _ => rfl) dX11_appends_73 (fun f_23 H locs ef_23 hP hD hS => ?_)
    have hf := hf f_23 ef_23
    refine lv_aload_n hx hb dX11_appends_74 rfl (lv_at hl 2 rfl) ?_
    refine lv_iload hx hb dX11_appends_75 (lv_at hl 0 rfl) ?_
    refine lv_iconst (v := 1) hx hb dX11_appends_77 (by decide) ?_
    refine z_cVi (As := [.int r_22, .int (1 : Int32)]) (rest := []) X (c_X11_segmentAt l dC dI cI cJ cS a (u_21.1, f_23, u_21.2.2) r_22 (1 : Int32) _ hf) zc_X11_segmentAt q_ml_X11_53 ⟨rfl, rfl⟩ ⟨Nat.le_of_ble_eq_true rfl, Nat.le_of_ble_eq_true rfl⟩ hP [0, 1, 2, 3, 4, 5, 6, 7, 8] rfl 10 rfl rfl hl.1 rfl rfl (Nat.le_of_ble_eq_true rfl) ⟨Nat.zero_le _, Nat.zero_le _⟩ dX11_appends_78 (fun r_24 hf => ?_)
    refine lv_istore (lv' := [(6, .int r_24), (4, .int r_22), (5, .int r_2), (0, .ref (a 0)), (1, .int x1), (2, .int x2), (3, .int x3)]) hx hb dX11_appends_81 hl (by decide) rfl (fun ls hl => ?_)
    refine lv_iload hx hb dX11_appends_83 (lv_at hl 1 rfl) ?_
    refine lv_iload hx hb dX11_appends_85 (lv_at hl 0 rfl) ?_
    refine z_cSi (As := [.int r_22, .int r_24]) (rest := []) X (c_X11_recordAt l dC dI cI cJ cS   r_22 r_24 _ hf) zc_X11_recordAt q_ml_X11_46 ⟨rfl, rfl⟩ ⟨Nat.le_of_ble_eq_true rfl, Nat.le_of_ble_eq_true rfl⟩ hP [] rfl hl.1 rfl rfl (Nat.le_of_ble_eq_true rfl) ⟨Nat.zero_le _, Nat.zero_le _⟩ dX11_appends_87 (fun r_25 hf => ?_)
    refine lv_istore (lv' := [(7, .int r_25), (6, .int r_24), (4, .int r_22), (5, .int r_2), (0, .ref (a 0)), (1, .int x1), (2, .int x2), (3, .int x3)]) hx hb dX11_appends_90 hl (by decide) rfl (fun ls hl => ?_)
    refine lv_aload_n hx hb dX11_appends_92 rfl (lv_at hl 4 rfl) ?_
    refine va_get (D := (dC, dI)) (ci := 10) (v := .ref (a 1)) (C := RX11) (T := TX11) (N := 17) hx hb hts inX11 hown hK hP 0 rfl rfl 1 (by decide) (hts _ q_fl_X11_7) (fun _ h9 => h9) rfl dX11_appends_93 ?_
    refine lv_iconst (v := 5) hx hb dX11_appends_96 (by decide) ?_
    refine lv_dup2_11 hx hb dX11_appends_97 rfl rfl ?_
    obtain ⟨hg, hf⟩ := hf
    refine va_iald hx hb hK hP 1 0 rfl rfl hg dX11_appends_98 ?_
    refine lv_iconst (v := 1) hx hb dX11_appends_99 (by decide) ?_
    refine lv_iadd hx hb dX11_appends_100 ?_
    obtain ⟨hg, hf⟩ := hf
    refine z_iast (Wn := fun f_26 => cl_X11 cI cJ a (u_21.1, f_26, u_21.2.2)) X hP hD hS 1 0 rfl rfl hg (fun _ => rfl) dX11_appends_101 (fun f_26 H locs ef_26 hP hD hS => ?_)
    have hf := hf f_26 ef_26
    refine lv_aload_n hx hb dX11_appends_102 rfl (lv_at hl 4 rfl) ?_
    refine va_get (D := (dC, dI)) (ci := 10) (v := .ref (a 1)) (C := RX11) (T := TX11) (N := 17) hx hb hts inX11 hown hK hP 0 rfl rfl 1 (by decide) (hts _ q_fl_X11_7) (fun _ h9 => h9) rfl dX11_appends_103 ?_
    refine lv_iload hx hb dX11_appends_106 (lv_at hl 0 rfl) ?_
    refine lv_iconst (v := 0) hx hb dX11_appends_108 (by decide) ?_
    refine lv_iadd hx hb dX11_appends_109 ?_
    refine lv_iload_n hx hb dX11_appends_110 rfl (lv_at hl 5 rfl) ?_
    obtain ⟨hg, hf⟩ := hf
    refine z_iast (Wn := fun f_27 => cl_X11 cI cJ a (u_21.1, f_27, u_21.2.2)) X hP hD hS 1 0 rfl rfl hg (fun _ => rfl) dX11_appends_111 (fun f_27 H locs ef_27 hP hD hS => ?_)
    have hf := hf f_27 ef_27
    refine lv_aload_n hx hb dX11_appends_112 rfl (lv_at hl 4 rfl) ?_
    refine va_get (D := (dC, dI)) (ci := 10) (v := .ref (a 1)) (C := RX11) (T := TX11) (N := 17) hx hb hts inX11 hown hK hP 0 rfl rfl 1 (by decide) (hts _ q_fl_X11_7) (fun _ h9 => h9) rfl dX11_appends_113 ?_
    refine lv_iload hx hb dX11_appends_116 (lv_at hl 0 rfl) ?_
    refine lv_iconst (v := 1) hx hb dX11_appends_118 (by decide) ?_
    refine lv_iadd hx hb dX11_appends_119 ?_
    refine lv_iload_n hx hb dX11_appends_120 rfl (lv_at hl 6 rfl) ?_
    obtain ⟨hg, hf⟩ := hf
    refine z_iast (Wn := fun f_28 => cl_X11 cI cJ a (u_21.1, f_28, u_21.2.2)) X hP hD hS 1 0 rfl rfl hg (fun _ => rfl) dX11_appends_121 (fun f_28 H locs ef_28 hP hD hS => ?_)
    have hf := hf f_28 ef_28
    refine lv_aload_n hx hb dX11_appends_122 rfl (lv_at hl 4 rfl) ?_
    refine va_get (D := (dC, dI)) (ci := 10) (v := .ref (a 1)) (C := RX11) (T := TX11) (N := 17) hx hb hts inX11 hown hK hP 0 rfl rfl 1 (by decide) (hts _ q_fl_X11_7) (fun _ h9 => h9) rfl dX11_appends_123 ?_
    refine lv_iload hx hb dX11_appends_126 (lv_at hl 0 rfl) ?_
    refine lv_iconst (v := 2) hx hb dX11_appends_128 (by decide) ?_
    refine lv_iadd hx hb dX11_appends_129 ?_
    refine lv_iload_n hx hb dX11_appends_130 rfl (lv_at hl 7 rfl) ?_
    obtain ⟨hg, hf⟩ := hf
    refine z_iast (Wn := fun f_29 => cl_X11 cI cJ a (u_21.1, f_29, u_21.2.2)) X hP hD hS 1 0 rfl rfl hg (fun _ => rfl) dX11_appends_131 (fun f_29 H locs ef_29 hP hD hS => ?_)
    have hf := hf f_29 ef_29
    refine lv_aload_n hx hb dX11_appends_132 rfl (lv_at hl 4 rfl) ?_
    refine va_get (D := (dC, dI)) (ci := 10) (v := .ref (a 1)) (C := RX11) (T := TX11) (N := 17) hx hb hts inX11 hown hK hP 0 rfl rfl 1 (by decide) (hts _ q_fl_X11_7) (fun _ h9 => h9) rfl dX11_appends_133 ?_
    refine lv_iload hx hb dX11_appends_136 (lv_at hl 0 rfl) ?_
    refine lv_iconst (v := 3) hx hb dX11_appends_138 (by decide) ?_
    refine lv_iadd hx hb dX11_appends_139 ?_
    refine lv_aload_n hx hb dX11_appends_140 rfl (lv_at hl 4 rfl) ?_
    refine va_get (D := (dC, dI)) (ci := 10) (v := .ref (a 1)) (C := RX11) (T := TX11) (N := 17) hx hb hts inX11 hown hK hP 0 rfl rfl 1 (by decide) (hts _ q_fl_X11_7) (fun _ h9 => h9) rfl dX11_appends_141 ?_
    refine lv_iconst (v := 5) hx hb dX11_appends_144 (by decide) ?_
    obtain ⟨hg, hf⟩ := hf
    refine va_iald hx hb hK hP 1 0 rfl rfl hg dX11_appends_145 ?_
    obtain ⟨hg, hf⟩ := hf
    refine z_iast (Wn := fun f_30 => cl_X11 cI cJ a (u_21.1, f_30, u_21.2.2)) X hP hD hS 1 0 rfl rfl hg (fun _ => rfl) dX11_appends_146 (fun f_30 H locs ef_30 hP hD hS => ?_)
    have hf := hf f_30 ef_30
    refine lv_aload_n hx hb dX11_appends_147 rfl (lv_at hl 4 rfl) ?_
    refine va_get (D := (dC, dI)) (ci := 10) (v := .ref (a 1)) (C := RX11) (T := TX11) (N := 17) hx hb hts inX11 hown hK hP 0 rfl rfl 1 (by decide) (hts _ q_fl_X11_7) (fun _ h9 => h9) rfl dX11_appends_148 ?_
    refine lv_iload hx hb dX11_appends_151 (lv_at hl 0 rfl) ?_
    refine lv_iconst (v := 4) hx hb dX11_appends_153 (by decide) ?_
    refine lv_iadd hx hb dX11_appends_154 ?_
    refine lv_aload_n hx hb dX11_appends_155 rfl (lv_at hl 4 rfl) ?_
    refine lv_iload hx hb dX11_appends_156 (lv_at hl 2 rfl) ?_
    refine lv_iconst (v := 2) hx hb dX11_appends_158 (by decide) ?_
    refine z_cVi (As := [.int r_22, .int (2 : Int32)]) (rest := [.int (r_25 + (4 : Int32)), .ref (a 1)]) X (c_X11_segmentAt l dC dI cI cJ cS a (u_21.1, f_30, u_21.2.2) r_22 (2 : Int32) _ hf) zc_X11_segmentAt q_ml_X11_53 ⟨rfl, rfl⟩ ⟨Nat.le_of_ble_eq_true rfl, Nat.le_of_ble_eq_true rfl⟩ hP [0, 1, 2, 3, 4, 5, 6, 7, 8] rfl 10 rfl rfl hl.1 rfl rfl (Nat.le_of_ble_eq_true rfl) ⟨Nat.zero_le _, Nat.zero_le _⟩ dX11_appends_159 (fun r_31 hf => ?_)
    obtain ⟨hg, hf⟩ := hf
    refine z_iast (Wn := fun f_32 => cl_X11 cI cJ a (u_21.1, f_32, u_21.2.2)) X hP hD hS 1 0 rfl rfl hg (fun _ => rfl) dX11_appends_162 (fun f_32 H locs ef_32 hP hD hS => ?_)
    have hf := hf f_32 ef_32
    refine lv_aload_n hx hb dX11_appends_163 rfl (lv_at hl 4 rfl) ?_
    refine va_get (D := (dC, dI)) (ci := 10) (v := .ref (a 1)) (C := RX11) (T := TX11) (N := 17) hx hb hts inX11 hown hK hP 0 rfl rfl 1 (by decide) (hts _ q_fl_X11_7) (fun _ h9 => h9) rfl dX11_appends_164 ?_
    refine lv_bipush (v := 66) hx hb dX11_appends_167 (by decide) ?_
    refine lv_iconst (v := 3) hx hb dX11_appends_169 (by decide) ?_
    refine lv_iload hx hb dX11_appends_170 (lv_at hl 2 rfl) ?_
    refine lv_imul hx hb dX11_appends_172 ?_
    refine lv_iadd hx hb dX11_appends_173 ?_
    refine lv_iconst (v := 1) hx hb dX11_appends_174 (by decide) ?_
    refine lv_iadd hx hb dX11_appends_175 ?_
    refine lv_dup2_11 hx hb dX11_appends_176 rfl rfl ?_
    obtain ⟨hg, hf⟩ := hf
    refine va_iald hx hb hK hP 1 0 rfl rfl hg dX11_appends_177 ?_
    refine lv_iconst (v := 1) hx hb dX11_appends_178 (by decide) ?_
    refine lv_iadd hx hb dX11_appends_179 ?_
    obtain ⟨hg, hf⟩ := hf
    refine z_iast (Wn := fun f_33 => cl_X11 cI cJ a (u_21.1, f_33, u_21.2.2)) X hP hD hS 1 0 rfl rfl hg (fun _ => rfl) dX11_appends_180 (fun f_33 H locs ef_33 hP hD hS => ?_)
    have hf := hf f_33 ef_33
    refine lv_aload_n hx hb dX11_appends_181 rfl (lv_at hl 4 rfl) ?_
    refine va_get (D := (dC, dI)) (ci := 10) (v := .ref (a 1)) (C := RX11) (T := TX11) (N := 17) hx hb hts inX11 hown hK hP 0 rfl rfl 1 (by decide) (hts _ q_fl_X11_7) (fun _ h9 => h9) rfl dX11_appends_182 ?_
    refine lv_bipush (v := 66) hx hb dX11_appends_185 (by decide) ?_
    refine lv_iconst (v := 3) hx hb dX11_appends_187 (by decide) ?_
    refine lv_iload hx hb dX11_appends_188 (lv_at hl 2 rfl) ?_
    refine lv_imul hx hb dX11_appends_190 ?_
    refine lv_iadd hx hb dX11_appends_191 ?_
    refine lv_iconst (v := 2) hx hb dX11_appends_192 (by decide) ?_
    refine lv_iadd hx hb dX11_appends_193 ?_
    refine lv_dup2_11 hx hb dX11_appends_194 rfl rfl ?_
    obtain ⟨hg, hf⟩ := hf
    refine va_iald hx hb hK hP 1 0 rfl rfl hg dX11_appends_195 ?_
    refine lv_iload hx hb dX11_appends_196 (lv_at hl 3 rfl) ?_
    refine lv_iadd hx hb dX11_appends_198 ?_
    obtain ⟨hg, hf⟩ := hf
    refine z_iast (Wn := fun f_34 => cl_X11 cI cJ a (u_21.1, f_34, u_21.2.2)) X hP hD hS 1 0 rfl rfl hg (fun _ => rfl) dX11_appends_199 (fun f_34 H locs ef_34 hP hD hS => ?_)
    have hf := hf f_34 ef_34
    refine lv_aload_n hx hb dX11_appends_200 rfl (lv_at hl 4 rfl) ?_
    refine va_get (D := (dC, dI)) (ci := 10) (v := .ref (a 1)) (C := RX11) (T := TX11) (N := 17) hx hb hts inX11 hown hK hP 0 rfl rfl 1 (by decide) (hts _ q_fl_X11_7) (fun _ h9 => h9) rfl dX11_appends_201 ?_
    refine lv_bipush (v := 13) hx hb dX11_appends_204 (by decide) ?_
    refine lv_dup2_11 hx hb dX11_appends_206 rfl rfl ?_
    obtain ⟨hg, hf⟩ := hf
    refine va_iald hx hb hK hP 1 0 rfl rfl hg dX11_appends_207 ?_
    refine lv_iload hx hb dX11_appends_208 (lv_at hl 3 rfl) ?_
    refine lv_iadd hx hb dX11_appends_210 ?_
    obtain ⟨hg, hf⟩ := hf
    refine z_iast (Wn := fun f_35 => cl_X11 cI cJ a (u_21.1, f_35, u_21.2.2)) X hP hD hS 1 0 rfl rfl hg (fun _ => rfl) dX11_appends_211 (fun f_35 H locs ef_35 hP hD hS => ?_)
    have hf := hf f_35 ef_35
    refine lv_aload_n hx hb dX11_appends_212 rfl (lv_at hl 4 rfl) ?_
    refine lv_iload hx hb dX11_appends_213 (lv_at hl 2 rfl) ?_
    refine lv_iload hx hb dX11_appends_215 (lv_at hl 1 rfl) ?_
    refine z_mVv (Wn := (fun u_37 => cl_X11 cI cJ a u_37)) (As := [.int r_22, .int r_24]) (rest := []) (wr := []) X (c_X11_enters l dC dI cI cJ cS a (u_21.1, f_35, u_21.2.2) r_22 r_24 _ hf _) zc_X11_enters q_ml_X11_101 ⟨rfl, rfl⟩ ⟨Nat.le_of_ble_eq_true rfl, Nat.le_of_ble_eq_true rfl⟩ hP hD hS hA [0, 1, 2, 3, 4, 5, 6, 7, 8] [] rfl (by decide) rfl (by decide) (by decide) [0, 1, 2, 3, 4, 5, 6, 7, 8] (by decide) (fun _ => rfl) 10 rfl rfl hl.1 rfl rfl (Nat.le_of_ble_eq_true rfl) ⟨Nat.zero_le _, Nat.zero_le _⟩ dX11_appends_217 (fun u_37 H locs hf hP hD hS => ?_)
    exact z_retMv (Wf := (fun z => cl_X11 cI cJ a z)) (u := u_37) X hf hP hD hS dX11_appends_220
/-- a length as an argument of the reference: -1 of a drop -/
def lnI (ln : Nat) : Int32 := if ln = 0 then -1 else nI ln
theorem lnI_c {c : Int64} {ln : Nat} (h : cLen c = nI ln) (hl : ln ≤ 40) : lenI c = lnI ln := by
  unfold lenI lnI
  rw [h]
  by_cases h0 : ln = 0
  · rw [if_pos h0, if_pos (by rw [h0]; rfl)]
  · rw [if_neg h0, if_neg (nI_ne0 (by omega) (by omega))]
theorem lnI_size {ln : Nat} (hl : ln ≤ 40) {Q : Int32 → Prop} (h : Q (4 + nI ln)) : s_X11_sizeOf (lnI ln) Q := by
  unfold lnI
  by_cases h0 : ln = 0
  · rw [if_pos h0]
    rw [h0] at h
    exact ⟨fun q => absurd q (by decide), fun _ => h⟩
  · rw [if_neg h0]
    exact ⟨fun _ => h, fun q => absurd (nI_pos' (by omega)) q⟩
theorem mNo.seg {c : zColl} {g g' : zSegs} {m : Nat → Int32} (h : mNo c g m) (e : ¬ c.2.1 = -1 → gN g' c.2.1.toNatClampNeg = gN g c.2.1.toNatClampNeg ∧ ∀ j, j < gN g c.2.1.toNatClampNeg → g'.1 (50 * c.2.1.toNatClampNeg + j) = g.1 (50 * c.2.1.toNatClampNeg + j)) : mNo c g' m := fun hc i hi => by
  obtain ⟨j, h1, h2, h3⟩ := h hc i hi
  obtain ⟨e1, e2⟩ := e hc
  exact ⟨j, by rw [e1]; exact h1, h2, by rw [e2 j h1]; exact h3⟩
/-- the segment that is picked is sealed -/
theorem ColOk.pick {g : zSegs} {p : Int64 → Prop} {c : zColl} (h : ColOk g p c) (hc : ¬ c.2.1 = -1) : c.2.1.toNatClampNeg < 12 ∧ c.2.1 = nI c.2.1.toNatClampNeg ∧ g.2.2.2.1 c.2.1.toNatClampNeg = 2 := by
  obtain ⟨-, -, h3⟩ := h
  rcases h3 with h3 | ⟨s, a1, a2, a3, -⟩
  · exact absurd h3 hc
  · have e : c.2.1.toNatClampNeg = s := by rw [a2, nI_clamp (by omega)]
    rw [e]; exact ⟨a1, a2, a3⟩
def appT (u : zModel) (r_1 r_2 x1 x2 x3 : Int32) (Q : zModel → Prop) : Prop := s_X11_segmentAt u r_1 (1 : Int32) (fun r_5 : Int32 => s_X11_recordAt r_1 r_5 (fun r_6 : Int32 => vp_in (5 : Int32) 5497 ∧ vp_in (5 : Int32) 5497 ∧ ∀ f_7 : Nat → Int32, f_7 = upd u.2.1 (5 : Int32).toNatClampNeg ((u.2.1 (5 : Int32).toNatClampNeg) + (1 : Int32)) → vp_in (r_6 + (0 : Int32)) 5497 ∧ ∀ f_8 : Nat → Int32, f_8 = upd f_7 (r_6 + (0 : Int32)).toNatClampNeg x1 → vp_in (r_6 + (1 : Int32)) 5497 ∧ ∀ f_9 : Nat → Int32, f_9 = upd f_8 (r_6 + (1 : Int32)).toNatClampNeg x2 → vp_in (r_6 + (2 : Int32)) 5497 ∧ ∀ f_10 : Nat → Int32, f_10 = upd f_9 (r_6 + (2 : Int32)).toNatClampNeg x3 → vp_in (5 : Int32) 5497 ∧ vp_in (r_6 + (3 : Int32)) 5497 ∧ ∀ f_11 : Nat → Int32, f_11 = upd f_10 (r_6 + (3 : Int32)).toNatClampNeg (f_10 (5 : Int32).toNatClampNeg) → s_X11_segmentAt (u.1, f_11, u.2.2) r_1 (2 : Int32) (fun r_12 : Int32 => vp_in (r_6 + (4 : Int32)) 5497 ∧ ∀ f_13 : Nat → Int32, f_13 = upd f_11 (r_6 + (4 : Int32)).toNatClampNeg r_12 → vp_in (((66 : Int32) + ((3 : Int32) * r_1)) + (1 : Int32)) 5497 ∧ vp_in (((66 : Int32) + ((3 : Int32) * r_1)) + (1 : Int32)) 5497 ∧ ∀ f_14 : Nat → Int32, f_14 = upd f_13 (((66 : Int32) + ((3 : Int32) * r_1)) + (1 : Int32)).toNatClampNeg ((f_13 (((66 : Int32) + ((3 : Int32) * r_1)) + (1 : Int32)).toNatClampNeg) + (1 : Int32)) → vp_in (((66 : Int32) + ((3 : Int32) * r_1)) + (2 : Int32)) 5497 ∧ vp_in (((66 : Int32) + ((3 : Int32) * r_1)) + (2 : Int32)) 5497 ∧ ∀ f_15 : Nat → Int32, f_15 = upd f_14 (((66 : Int32) + ((3 : Int32) * r_1)) + (2 : Int32)).toNatClampNeg ((f_14 (((66 : Int32) + ((3 : Int32) * r_1)) + (2 : Int32)).toNatClampNeg) + r_2) → vp_in (13 : Int32) 5497 ∧ vp_in (13 : Int32) 5497 ∧ ∀ f_16 : Nat → Int32, f_16 = upd f_15 (13 : Int32).toNatClampNeg ((f_15 (13 : Int32).toNatClampNeg) + r_2) → s_X11_enters (u.1, f_16, u.2.2) r_1 r_5 (fun (u_18 : zModel) => Q u_18))))
theorem app_tail {ρ β mo lm L S M B k ln sd : Nat} {w : zState} {u : zModel} (hP : zP ρ β mo lm L S M B w) (hB : B < 400000) (hk : k < 64) (hl : ln ≤ 40) (hsd : sd < 256) (hroom : gB w.2.2.1 (gO w.2.2.1) (gN w.2.2.1 (gO w.2.2.1)) + (4 + ln) ≤ ρ) (hr : mRel w u.2.1) {Q : zModel → Prop} (hQ : ∀ m' : Nat → Int32, mRel (uE3 w k ln sd) m' → Q (u.1, m', u.2.2)) : appT u (nI (gO w.2.2.1)) (4 + nI ln) (nI k) (lnI ln) (nI sd) Q := by
  obtain ⟨c1, c2, c3, c4, c5, c6, c7, c8, c9, c10⟩ := uNew_ok hP hB hk hl hsd
  obtain ⟨h1, h2, h3, h4, h5, hg, ht, hR, hL, hC, hD, hT⟩ := hP
  obtain ⟨rT, rS, rR, rE, rN', rL⟩ := mRel_iff.mp hr
  have hge := gB_ge w.2.2.1 (gO w.2.2.1) (gN w.2.2.1 (gO w.2.2.1))
  have hn50 : gN w.2.2.1 (gO w.2.2.1) < 50 := by omega
  have h50 : ∀ s, s < 12 → gN w.2.2.1 s ≤ 50 := fun s hs => (hg.2.1 s hs).2
  have ho := hg.1.2
  have hpk := hC.pick
  obtain ⟨o, eo⟩ : ∃ o, o = gO w.2.2.1 := ⟨_, rfl⟩
  obtain ⟨c, ec⟩ : ∃ c, c = gN w.2.2.1 (gO w.2.2.1) := ⟨_, rfl⟩
  obtain ⟨r, er⟩ : ∃ r, r = 102 + 5 * (50 * o + c) := ⟨_, rfl⟩
  obtain ⟨q, eq⟩ : ∃ q, q = 66 + 3 * o := ⟨_, rfl⟩
  obtain ⟨cd, ecd⟩ : ∃ cd, cd = uNew w k ln sd := ⟨_, rfl⟩
  have m5 : u.2.1 5 = nI L := (rT 5 (by decide)).trans h5.1
  have mq1 : u.2.1 (q + 1) = nI c := by rw [eq, ec, eo]; exact (rS _ 1 ho (by decide)).trans (hg.2.1 _ ho).1
  have mq2 : u.2.1 (q + 2) = nI (gB w.2.2.1 (gO w.2.2.1) (gN w.2.2.1 (gO w.2.2.1))) := by rw [eq, eo]; exact (rS _ 2 ho (by decide)).trans (hg.2.2.2.1 _ ho).1
  rw [← ecd] at c1 c2 c3 c4 c5 c6 c7 c8 c9 c10
  rw [← eo] at ho ⊢
  rw [← ec] at hn50
  unfold appT
  refine ⟨o, 1, ho, by decide, rfl, rfl, ?_⟩
  unfold s_X11_recordAt
  rw [← eq, mq1]
  dsimp only
  rw [ix_rec, ← er, ix_seg', ← eq]
  rw [n_c5, n_c13, nc_0 (a := r) (by omega), nc_1 (a := r) (by omega), nc_2 (a := r) (by omega), nc_3 (a := r) (by omega), nc_4 (a := r) (by omega), nc_1 (a := q) (by omega), nc_2 (a := q) (by omega)]
  refine ⟨vp_in_nI (n := 5) (by decide) (by decide), vp_in_nI (n := 5) (by decide) (by decide), fun f7 e7 => ⟨vi_0 (by omega) (by decide), fun f8 e8 => ⟨vi_1 (by omega) (by decide), fun f9 e9 => ⟨vi_2 (by omega) (by decide), fun f10 e10 => ⟨vp_in_nI (n := 5) (by decide) (by decide), vi_3 (by omega) (by decide), fun f11 e11 => ⟨o, 2, ho, by decide, rfl, rfl, vi_4 (by omega) (by decide), fun f13 e13 => ⟨vi_1 (by omega) (by decide), vi_1 (by omega) (by decide), fun f14 e14 => ⟨vi_2 (by omega) (by decide), vi_2 (by omega) (by decide), fun f15 e15 => ⟨vp_in_nI (n := 13) (by decide) (by decide), vp_in_nI (n := 13) (by decide) (by decide), fun f16 e16 => ?_⟩⟩⟩⟩⟩⟩⟩⟩⟩
  have e13 : f13 = upd f11 (r + 4) (f11 (q + 2)) := by rw [eq]; exact e13
  have d10 : f10 5 = nI (L + 1) := by rw [e10, up_ne (by omega), e9, up_ne (by omega), e8, up_ne (by omega), e7, up_eq rfl, m5, nI_1]
  rw [d10] at e11
  have d11 : f11 (q + 2) = nI (gB w.2.2.1 (gO w.2.2.1) (gN w.2.2.1 (gO w.2.2.1))) := by rw [e11, up_ne (by omega), e10, up_ne (by omega), e9, up_ne (by omega), e8, up_ne (by omega), e7, up_ne (by omega), mq2]
  rw [d11] at e13
  have d13 : f13 (q + 1) = nI c := by rw [e13, up_ne (by omega), e11, up_ne (by omega), e10, up_ne (by omega), e9, up_ne (by omega), e8, up_ne (by omega), e7, up_ne (by omega), mq1]
  rw [d13, nI_1] at e14
  have d14 : f14 (q + 2) = u.2.1 (q + 2) := by rw [e14, up_ne (by omega), e13, up_ne (by omega), e11, up_ne (by omega), e10, up_ne (by omega), e9, up_ne (by omega), e8, up_ne (by omega), e7, up_ne (by omega)]
  rw [d14] at e15
  have d15 : f15 13 = u.2.1 13 := by rw [e15, up_ne (by omega), e14, up_ne (by omega), e13, up_ne (by omega), e11, up_ne (by omega), e10, up_ne (by omega), e9, up_ne (by omega), e8, up_ne (by omega), e7, up_ne (by omega)]
  rw [d15] at e16
  have x0 : f16 r = nI k := by rw [e16, up_ne (by omega), e15, up_ne (by omega), e14, up_ne (by omega), e13, up_ne (by omega), e11, up_ne (by omega), e10, up_ne (by omega), e9, up_ne (by omega), e8, up_eq rfl]
  have x1 : f16 (r + 1) = lnI ln := by rw [e16, up_ne (by omega), e15, up_ne (by omega), e14, up_ne (by omega), e13, up_ne (by omega), e11, up_ne (by omega), e10, up_ne (by omega), e9, up_eq rfl]
  have x2 : f16 (r + 2) = nI sd := by rw [e16, up_ne (by omega), e15, up_ne (by omega), e14, up_ne (by omega), e13, up_ne (by omega), e11, up_ne (by omega), e10, up_eq rfl]
  have x3 : f16 (r + 3) = nI (L + 1) := by rw [e16, up_ne (by omega), e15, up_ne (by omega), e14, up_ne (by omega), e13, up_ne (by omega), e11, up_eq rfl]
  have x4 : f16 (r + 4) = nI (gB w.2.2.1 (gO w.2.2.1) (gN w.2.2.1 (gO w.2.2.1))) := by rw [e16, up_ne (by omega), e15, up_ne (by omega), e14, up_ne (by omega), e13, up_eq rfl]
  have x5 : f16 5 = nI L + 1 := by rw [e16, up_ne (by omega), e15, up_ne (by omega), e14, up_ne (by omega), e13, up_ne (by omega), e11, up_ne (by omega), d10, nI_1]
  have x13 : f16 13 = u.2.1 13 + (4 + nI ln) := by rw [e16, up_eq rfl]
  have xq1 : f16 (q + 1) = nI (c + 1) := by rw [e16, up_ne (by omega), e15, up_ne (by omega), e14, up_eq rfl]
  have xq2 : f16 (q + 2) = u.2.1 (q + 2) + (4 + nI ln) := by rw [e16, up_ne (by omega), e15, up_eq rfl]
  have xo : ∀ j, ¬ j = 5 → ¬ j = 13 → ¬ j = q + 1 → ¬ j = q + 2 → ¬ (r ≤ j ∧ j < r + 5) → f16 j = u.2.1 j := fun j a1 a2 a3 a4 a5 => by
    rw [e16, up_ne (by omega), e15, up_ne (by omega), e14, up_ne (by omega), e13, up_ne (by omega), e11, up_ne (by omega), e10, up_ne (by omega), e9, up_ne (by omega), e8, up_ne (by omega), e7, up_ne (by omega)]
  clear e7 e8 e9 e10 e11 e13 e14 e15 e16 d10 d11 d13 d14 d15
  have hrow : ∀ w, w < 5 → f16 (r + w) = recF cd w := lt5p (x0.trans c4.symm) (x1.trans (lnI_c c5 hl).symm) (x2.trans c6.symm) (x3.trans c3.symm) (x4.trans c2.symm)
  refine ⟨o, c, k, cd, ho, hn50, hk, rfl, rfl, fun w hw => by rw [← er]; exact hrow w hw, by rw [c1, ← eo], c10, c4, fun m' hE hj => hQ m' ?_⟩
  have hj : ∀ j, ¬ (3102 + 6 * k ≤ j ∧ j < 3102 + 6 * k + 6) → m' j = f16 j := hj
  have hE : mE1 (f16 1) cd m' (3102 + 6 * k) := hE
  have y1 : f16 1 = w.1.2.1 := (xo 1 (by omega) (by omega) (by omega) (by omega) (by omega)).trans (rT 1 (by decide))
  rw [y1] at hE
  refine mRel_iff.mpr ⟨lt16 ?_ ?_ ?_ ?_ ?_ ?_ ?_ ?_ ?_ ?_ ?_ ?_ ?_ ?_ ?_ ?_, ?_, ?_, ?_, ?_, ?_⟩
  all_goals try exact (hj _ (by omega)).trans ((xo _ (by omega) (by omega) (by omega) (by omega) (by omega)).trans (rT _ (by decide)))
  · rw [hj _ (by omega), x5]
    show nI L + 1 = w.2.2.2.2.2.2.1 + 1
    rw [h5.1]
  · rw [hj _ (by omega), x13, rT 13 (by decide)]; rfl
  · intro s z hs hz
    rw [hj _ (by omega)]
    by_cases hso : s = o
    · subst hso
      match z, hz with
      | 0, _ => rw [xo _ (by omega) (by omega) (by omega) (by omega) (by omega)]; exact rS s 0 hs (by decide)
      | 1, _ =>
        rw [← eq, xq1]
        show nI (c + 1) = upd w.2.2.1.2.1 (gO w.2.2.1) (nI (gN w.2.2.1 (gO w.2.2.1) + 1)) s
        rw [up_eq eo, ec]
      | 2, _ =>
        rw [← eq, xq2, eq, rS s 2 hs (by decide)]
        show w.2.2.1.2.2.1 s + (4 + nI ln) = upd w.2.2.1.2.2.1 (gO w.2.2.1) (w.2.2.1.2.2.1 (gO w.2.2.1) + (4 + nI ln)) s
        rw [up_eq eo, ← eo]
      | n + 3, h => exact absurd h (by omega)
    · rw [xo _ (by omega) (by omega) (by omega) (by omega) (by omega), rS s z hs hz]
      match z, hz with
      | 0, _ => rfl
      | 1, _ => exact (up_ne (i := gO w.2.2.1) (j := s) (fun q => hso (q.trans eo.symm))).symm
      | 2, _ => exact (up_ne (i := gO w.2.2.1) (j := s) (fun q => hso (q.trans eo.symm))).symm
      | n + 3, h => exact absurd h (by omega)
  · intro s j z hs hjn hz
    have hjn : j < gN (zApp w.2.2.1 (gO w.2.2.1) (gN w.2.2.1 (gO w.2.2.1)) (nI ln) (uNew w k ln sd)) s := hjn
    show m' _ = recF ((zApp w.2.2.1 (gO w.2.2.1) (gN w.2.2.1 (gO w.2.2.1)) (nI ln) (uNew w k ln sd)).1 (50 * s + j)) z
    rw [← ec, ← eo, ← ecd] at hjn ⊢
    rw [gN_app w.2.2.1 _ _ hn50] at hjn
    have h50s := h50 s hs
    by_cases hso : s = o ∧ j = c
    · obtain ⟨rfl, rfl⟩ := hso
      rw [app_new, hj _ (by omega), ← er]
      exact hrow z hz
    · have hjl : j < gN w.2.2.1 s := by
        by_cases hs' : s = o
        · rw [if_pos hs'] at hjn
          have : ¬ j = c := fun q => hso ⟨hs', q⟩
          rw [hs', eo, ← ec]; omega
        · rw [if_neg hs'] at hjn; exact hjn
      rw [app_old w.2.2.1 _ _ hn50 (by omega) hso, hj _ (by omega), xo _ (by omega) (by omega) (by omega) (by omega) (by omega)]
      exact rR s j z hs hjl hz
  · intro l j hl' hj'
    have hl' : l ≤ tR w.2.2.2.1 := hl'
    have h6 := ht.1.2
    show mE1 w.1.2.1 ((zInto w.2.2.2.1 k (uNew w k ln sd)).1 (64 * l + j)) m' _
    rw [← ecd, into_at w.2.2.2.1 cd hk hj']
    by_cases hx : l = 0 ∧ j = k
    · rw [if_pos hx]
      obtain ⟨rfl, rfl⟩ := hx
      rw [show 64 * 0 + j = j by omega]; exact hE
    · rw [if_neg hx]
      exact (rE l j hl' hj').cg (fun z hz => (hj _ (by omega)).trans (xo _ (by omega) (by omega) (by omega) (by omega) (by omega)))
  · have hw := hC.1.2
    refine (rN'.cg hw (fun j a b => (hj j (by omega)).trans (xo _ (by omega) (by omega) (by omega) (by omega) (by omega)))).seg (fun hc => ?_)
    obtain ⟨p1, p2, p3⟩ := hpk hc
    have hpo : ¬ w.2.2.2.2.1.2.1.toNatClampNeg = gO w.2.2.1 := fun q => by
      have := ((hg.2.2.1 _ p1).1).mpr q
      rw [p3] at this
      exact absurd this (by decide)
    have hn50' : gN w.2.2.1 (gO w.2.2.1) < 50 := by rw [← ec]; exact hn50
    have := h50 _ p1
    refine ⟨?_, fun j hj => app_old _ _ _ hn50' (by omega) (fun q => hpo q.1)⟩
    show gN (zApp w.2.2.1 (gO w.2.2.1) (gN w.2.2.1 (gO w.2.2.1)) (nI ln) (uNew w k ln sd)) _ = _
    rw [gN_app _ _ _ hn50', if_neg hpo]
  · exact rL.cg hD.2 (fun j a b => (hj j (by omega)).trans (xo _ (by omega) (by omega) (by omega) (by omega) (by omega)))
def s_X11_appends (u : zModel) (x1 x2 x3 : Int32) (Q : zModel → Prop) : Prop := ∃ (v : zState) (ρ β mo lm L S M B k ln sd : Nat), zP ρ β mo lm L S M B v ∧ B < 400000 ∧ k < 64 ∧ ln ≤ 40 ∧ sd < 256 ∧ x1 = nI k ∧ x2 = lnI ln ∧ x3 = nI sd ∧ uFits v (4 + nI ln) = true ∧ mRel v u.2.1 ∧ ∀ m' : Nat → Int32, mRel (uE3 (uE2 v (4 + nI ln)) k ln sd) m' → Q (u.1, m', u.2.2)
theorem st_X11_appends {u : zModel} {x1 x2 x3 : Int32} {Q : zModel → Prop} (h : s_X11_appends u x1 x2 x3 Q) : t_X11_appends u x1 x2 x3 Q := by
  obtain ⟨v, ρ, β, mo, lm, L, S, M, B, k, ln, sd, hP, hB, hk, hl, hsd, rfl, rfl, rfl, hf, hr, hQ⟩ := h
  have hm : mOk v u.2.1 := mOk.of hP hr
  obtain ⟨h2, hroom⟩ := zPr.e2 hP hl hf
  obtain ⟨rT, rS, rR, rE, rN', rL⟩ := mRel_iff.mp hr
  have hg := hP.2.2.2.2.2.1
  have hD := hP.2.2.2.2.2.2.2.2.2.2.1
  have hC := hP.2.2.2.2.2.2.2.2.2.1
  have ho : oN v < 12 := hg.1.2
  have htk := hg.2.2.2.1 _ hg.1.2
  have h1 := hP.1
  have e2 : u.2.1 (66 + 3 * oN v + 2) = nI (gB v.2.2.1 (gO v.2.2.1) (gN v.2.2.1 (gO v.2.2.1))) := (rS (oN v) 2 ho (by decide)).trans htk.1
  have e0 : u.2.1 0 = nI ρ := (rT 0 (by decide)).trans h1.1
  have hleft : uLeft v = nI (ρ - gB v.2.2.1 (gO v.2.2.1) (gN v.2.2.1 (gO v.2.2.1))) := by
    show v.1.1 - v.2.2.1.2.2.1 (gO v.2.2.1) = _
    rw [h1.1, htk.1]
    exact lN_subI htk.2
  have hz : (4 : Int32) + nI ln = nI (4 + ln) := nI_add 4 ln
  have key : (nI (gB v.2.2.1 (gO v.2.2.1) (gN v.2.2.1 (gO v.2.2.1))) + (4 + nI ln) ≤ nI ρ) ↔ 4 + nI ln ≤ uLeft v := by
    have := htk.2
    rw [hleft, hz, nI_add, nI_leI (by omega) (by omega), nI_leI (by omega) (by omega)]
    omega
  unfold uE2 at h2 hroom hQ
  refine ⟨v, hm, lnI_size hl ⟨oN v, 2, ho, by decide, rfl, rfl, n_in0 (by decide) (by decide), ?_⟩⟩
  rw [e2, n_c0, e0]
  refine ⟨fun c => ?_, fun c => ?_⟩
  · rw [if_pos (key.mp c)] at h2 hroom hQ
    exact app_tail h2 hB hk hl hsd hroom hr hQ
  · have hc : ¬ 4 + nI ln ≤ uLeft v := fun q => c (key.mpr q)
    rw [if_neg hc] at h2 hroom hQ
    have hfr : uFst v < 12 := (of_decide_eq_true hf).resolve_left hc
    rw [ix_seg', nc_0 (by omega)]
    refine ⟨vi_0 (by omega) (by decide), fun f19 e19 => ⟨v.2.2.2.2.2.1, hD, rL.cg hD.2 (fun j a b => by rw [e19]; exact up_ne (by omega)), fun m1 hm1 hj1 => ?_⟩⟩
    have hj1 : ∀ j, j < 5406 → m1 j = f19 j := hj1
    have hno : ¬ uFst v = oN v := fun q => by
      have := ((hg.2.2.1 _ hfr).1).mpr q
      rw [uFst_0 hfr] at this
      exact absurd this (by decide)
    have kS : ∀ i, i < 12 → m1 (66 + 3 * i + 0) = if i = oN v then 2 else v.2.2.1.2.2.2.1 i := fun i hi => by
      rw [hj1 _ (by omega), e19]
      by_cases q : i = oN v
      · rw [if_pos q, up_eq (by omega)]
      · rw [if_neg q, up_ne (by omega)]; exact rS i 0 hi (by decide)
    refine ⟨uFst v, hfr, ?_, fun i hi => ?_, ?_⟩
    · show m1 (66 + 3 * uFst v + 0) = 0
      rw [kS _ hfr, if_neg hno]; exact uFst_0 hfr
    · show ¬ m1 (66 + 3 * i + 0) = 0
      rw [kS i (by omega)]
      by_cases q : i = oN v
      · rw [if_pos q]; decide
      · rw [if_neg q]
        have := fa_first_no (fun s => decide (v.2.2.1.2.2.2.1 s = 0)) 12 i hi
        exact of_decide_eq_false this
    · dsimp only
      rw [ix_seg', nc_0 (by omega)]
      refine ⟨vi_0 (by omega) (by decide), fun f23 e23 => ?_⟩
      have e23 : f23 = upd m1 (66 + 3 * uFst v) 1 := e23
      have eo : gO (zNxt v.2.2.1 (oN v) (uFst v)) = uFst v := nI_clamp (n := uFst v) (by omega)
      have fo : ∀ j, j < 5406 → ¬ j = 66 + 3 * uFst v → ¬ j = 66 + 3 * oN v → f23 j = u.2.1 j := fun j a b c => by
        rw [e23, up_ne b, hj1 j a, e19, up_ne (by omega)]
      have hs5 : f19 5 = u.2.1 5 := by rw [e19]; exact up_ne (by omega)
      have goalr : mRel (v.1, v.2.1, zNxt v.2.2.1 (oN v) (uFst v), v.2.2.2.1, v.2.2.2.2.1, zTell v.2.2.2.2.2.1 (dN v.2.2.2.2.2.1) 4 v.2.2.1.2.2.2.2 v.2.2.2.2.2.2.1, v.2.2.2.2.2.2.1, v.2.2.2.2.2.2.2.1, v.2.2.2.2.2.2.2.2) f23 := by
        have h6 := hP.2.2.2.2.2.2.1.1.2
        refine mRel_iff.mpr ⟨fun i hi => ?_, fun s z hs hz => ?_, ?_, ?_, ?_, ?_⟩
        · rw [fo i (by omega) (by omega) (by omega), rT i hi]; rfl
        · match z, hz with
          | 0, _ =>
            show f23 _ = upd (upd v.2.2.1.2.2.2.1 (oN v) 2) (uFst v) 1 s
            by_cases q : s = uFst v
            · rw [up_eq q, e23, up_eq (by omega)]
            · rw [up_ne q, e23, up_ne (by omega), kS s hs]
              by_cases q2 : s = oN v
              · rw [if_pos q2, up_eq q2]
              · rw [if_neg q2, up_ne q2]
          | 1, _ => rw [fo _ (by omega) (by omega) (by omega)]; exact rS s 1 hs (by decide)
          | 2, _ => rw [fo _ (by omega) (by omega) (by omega)]; exact rS s 2 hs (by decide)
          | n + 3, h => exact absurd h (by omega)
        · exact mRc.cg (g := zNxt v.2.2.1 (oN v) (uFst v)) rR (fun s hs => (hg.2.1 s hs).2) (fun j a b => fo j (by omega) (by omega) (by omega))
        · exact rE.cg h6 (fun j a b => fo j (by omega) (by omega) (by omega))
        · exact mNo.cg (g := zNxt v.2.2.1 (oN v) (uFst v)) rN' hC.1.2 (fun j a b => fo j (by omega) (by omega) (by omega))
        · have hm1 : mLg (zTell v.2.2.2.2.2.1 (dN v.2.2.2.2.2.1) 4 (nI (oN v)) (f19 5)) m1 := hm1
          rw [hs5, rT 5 (by decide), show nI (oN v) = v.2.2.1.2.2.2.2 from hg.1.1.symm] at hm1
          exact hm1.cg (hD.tell _ _ _).2 (fun j a b => by rw [e23]; exact up_ne (by omega))
      have := app_tail (u := (u.1, f23, u.2.2)) h2 hB hk hl hsd hroom goalr hQ
      rw [show gO _ = uFst v from eo] at this
      unfold appT at this
      dsimp only at this
      rw [ix_seg'] at this
      exact this
theorem c_X11_appends (l : Launch) (dC : Nat → ClassId) (dI : Nat → Nat → Nat) (cI cJ cS : ClassId) (a : Nat → Nat) (u : zModel) (x1 : Int32) (x2 : Int32) (x3 : Int32) (Q : zModel → Prop) (hf : s_X11_appends u x1 x2 x3 Q) : ∀ sz : Nat, Met l yX11_appends (Cond.code yX11_appends cX11_appends 8 none :: zT) rm_X11_appends (zPm dC dI cI cJ cS (cl_X11 cI cJ a u) [.ref (a 0), .int x1, .int x2, .int x3] sz) (va_Qv Q (zB dC dI cI cJ cS (va_A (cl_X11 cI cJ a u) sz) (fun z => cl_X11 cI cJ a z)) (va_A (cl_X11 cI cJ a u) sz)) 0 0 (va_A (cl_X11 cI cJ a u) sz) := L_X11_appends l dC dI cI cJ cS a u x1 x2 x3 Q (st_X11_appends hf)
