def t_X10_segment (u : zCls) (x1 : Int32) (x2 : Int32) (Q : Int32 → zCls → Prop) (QX : String → zCls → Prop) : Prop := s_X10_lookAtSegment x1 (fun (u_2 : Unit) => s_X10_lookAtWhat x2 (6 : Int32) (fun (u_4 : Unit) => ((x2 = (0 : Int32) → s_X4_kindOf u.1.2.2.1 x1 (fun r_6 : Int32 => Q r_6 u)) ∧ (¬ x2 = (0 : Int32) → ((x2 = (1 : Int32) → s_X4_countOf u.1.2.2.1 x1 (fun r_8 : Int32 => Q r_8 u)) ∧ (¬ x2 = (1 : Int32) → ((x2 = (2 : Int32) → s_X4_takenOf u.1.2.2.1 x1 (fun r_10 : Int32 => Q r_10 u)) ∧ (¬ x2 = (2 : Int32) → ((x2 = (3 : Int32) → s_X5_liveOf u.1 x1 (fun r_12 : Int32 => Q r_12 u)) ∧ (¬ x2 = (3 : Int32) → ((x2 = (4 : Int32) → s_X5_deadOf u.1 x1 (fun r_14 : Int32 => Q r_14 u)) ∧ (¬ x2 = (4 : Int32) → ((x2 = (5 : Int32) → s_X4_countOf u.1.2.2.1 x1 (fun r_16 : Int32 => ((¬ r_16 = 0 → s_X4_greatestOf u.1.2.2.1 x1 (fun r_18 : Int32 => Q r_18 u)) ∧ (r_16 = 0 → Q (-1 : Int32) u)))) ∧ (¬ x2 = (5 : Int32) → s_X4_kindOf u.1.2.2.1 x1 (fun r_19 : Int32 => ((¬ r_19 = (2 : Int32) → Q (0 : Int32) u) ∧ (r_19 = (2 : Int32) → s_X5_deadOf u.1 x1 (fun r_21 : Int32 => s_X5_liveOf u.1 x1 (fun r_22 : Int32 => Q (r_21 - r_22) u)))))))))))))))))) (fun (E : String) (u_4 : Unit) => QX E u)) (fun (E : String) (u_2 : Unit) => QX E u)
theorem zc_X10_segment : zCalV RX10 yX10_segment cX10_segment 4 (some .int) 2 := ⟨q_im_X10_segment, q_se_X10_segment, q_in_X10, q_cd_X10_segment, ⟨by decide, by decide, by decide +kernel⟩, rfl⟩
abbrev rm_X10_segment : Room := { frames := 7, cells := 2, slots := 12, locals := 112 }
set_option maxHeartbeats 4000000 in
set_option maxRecDepth 100000 in
theorem L_X10_segment (l : Launch) (hlt : l.stackTraces = false) (dC : Nat → ClassId) (dI : Nat → Nat → Nat) (cI cJ cS : ClassId) (a : Nat → Nat) (u : zCls) (x1 : Int32) (x2 : Int32) (Q : Int32 → zCls → Prop) (QX : String → zCls → Prop) (hf : t_X10_segment u x1 x2 Q QX) : ∀ sz : Nat, vx_Met l yX10_segment (Cond.code yX10_segment cX10_segment 4 (some .int) :: zT) rm_X10_segment (zPmF zFy dC dI cI cJ cS (cl_X10 cI cJ cS a u) [.ref (a 0), .int x1, .int x2] sz) (va_Qi Q (zB dC dI cI cJ cS (va_A (cl_X10 cI cJ cS a u) sz) (fun z => cl_X10 cI cJ cS a z)) (va_A (cl_X10 cI cJ cS a u) sz)) (zXc QX dC dI cI cJ cS (va_A (cl_X10 cI cJ cS a u) sz) (fun z => cl_X10 cI cJ cS a z)) 2 12 (va_A (cl_X10 cI cJ cS a u) sz) := by
  intro sz
  refine z_enterX (Qc := fun A => va_Qi Q (zB dC dI cI cJ cS A (fun z => cl_X10 cI cJ cS a z)) A) (XC := fun A => zXc QX dC dI cI cJ cS A (fun z => cl_X10 cI cJ cS a z)) (cc := cX10_segment) (maxL := 4) (ret := (some .int)) (by decide) (Nat.le_of_ble_eq_true rfl) ?_
  intro p e s m below meth c ls A X htb hP hD hS hA hF hl
  obtain ⟨⟨hx, hb, hml, hown, hts⟩, hr, hlk, hK⟩ := id X
  have hl : lv_has ls 4 [(0, .ref (a 0)), (1, .int x1), (2, .int x2)] := hl
  unfold t_X10_segment at hf
  refine lv_iload_n hx hb dX10_segment_0 rfl (lv_at hl 1 rfl) ?_
  refine z_xSvO (Wn := (fun u_2 => cl_X10 cI cJ cS a u)) (As := [.int x1]) (rest := []) (wr := cl_X10 cI cJ cS a u) X fro_Fy hF (c_X10_lookAtSegment l hlt dC dI cI cJ cS   x1 _ _ hf _) zc_X10_lookAtSegment q_ml_X10_116 ⟨rfl, rfl⟩ ⟨Nat.le_of_ble_eq_true rfl, Nat.le_of_ble_eq_true rfl⟩ hP hD hS hA (pm_0 _) (fun _ => pm_0 _) (Wo := (fun z => cl_X10 cI cJ cS a z)) (fun u_2 => u) (fun _ => rfl) htb (fun _ _ h => h) ⟨Nat.le_of_ble_eq_true rfl, Nat.le_of_ble_eq_true rfl⟩ hl.1 rfl rfl (Nat.le_of_ble_eq_true rfl) ⟨Nat.le_of_ble_eq_true rfl, Nat.le_of_ble_eq_true rfl⟩ dX10_segment_1 (fun u_2 H locs hf hP hD hS => ?_)
  refine lv_iload_n hx hb dX10_segment_4 rfl (lv_at hl 2 rfl) ?_
  refine lv_bipush (v := 6) hx hb dX10_segment_5 (by decide) ?_
  refine z_xSvO (Wn := (fun u_4 => cl_X10 cI cJ cS a u)) (As := [.int x2, .int (6 : Int32)]) (rest := []) (wr := cl_X10 cI cJ cS a u) X fro_Fy hF (c_X10_lookAtWhat l hlt dC dI cI cJ cS   x2 (6 : Int32) _ _ hf _) zc_X10_lookAtWhat q_ml_X10_136 ⟨rfl, rfl⟩ ⟨Nat.le_of_ble_eq_true rfl, Nat.le_of_ble_eq_true rfl⟩ hP hD hS hA (pm_0 _) (fun _ => pm_0 _) (Wo := (fun z => cl_X10 cI cJ cS a z)) (fun u_4 => u) (fun _ => rfl) htb (fun _ _ h => h) ⟨Nat.le_of_ble_eq_true rfl, Nat.le_of_ble_eq_true rfl⟩ hl.1 rfl rfl (Nat.le_of_ble_eq_true rfl) ⟨Nat.le_of_ble_eq_true rfl, Nat.le_of_ble_eq_true rfl⟩ dX10_segment_7 (fun u_4 H locs hf hP hD hS => ?_)
  refine lv_aload_n hx hb dX10_segment_10 rfl (lv_at hl 0 rfl) ?_
  refine va_get (D := (dC, dI)) (ci := 9) (v := .ref (a 1)) (C := RX10) (T := TX10) (N := 9) hx hb hts inX10 hown hK hP 0 rfl rfl 0 (by decide) (hts _ q_fl_X10_10) (fun _ h9 => h9) rfl dX10_segment_11 ?_
  refine va_get (D := (dC, dI)) (ci := 4) (v := .ref (a 4)) (C := RX5) (T := TX5) (N := 9) hx hb hts inX5 hown hK hP 1 rfl rfl 2 (by decide) (hts _ q_fl_X10_198) (fun _ h9 => h9) rfl dX10_segment_14 ?_
  refine lv_astore_n (lv' := [(3, .ref (a 4)), (0, .ref (a 0)), (1, .int x1), (2, .int x2)]) hx hb dX10_segment_17 rfl hl (by decide) rfl (fun ls hl => ?_)
  refine lv_iload_n hx hb dX10_segment_18 rfl (lv_at hl 3 rfl) ?_
  by_cases c_5 : x2 = (0 : Int32)
  · have hf := hf.1 c_5
    refine lv_tableIn (off := 37) (tgt := 56) hx hb dX10_segment_19 (by rw [c_5]; decide) (by rw [c_5]; decide) (by rw [c_5]; decide) (by decide) ?_
    refine lv_aload_n hx hb dX10_segment_56 rfl (lv_at hl 0 rfl) ?_
    refine lv_iload_n hx hb dX10_segment_57 rfl (lv_at hl 2 rfl) ?_
    refine z_cVi (As := [.int x1]) (rest := []) X (c_X4_kindOf l dC dI cI cJ cS (fun i => a (4 + i)) u.1.2.2.1 x1 _ hf) zc_X4_kindOf q_ml_X10_202 ⟨rfl, rfl⟩ ⟨Nat.le_of_ble_eq_true rfl, Nat.le_of_ble_eq_true rfl⟩ hP [4, 5, 6, 7, 8] rfl 3 rfl rfl hl.1 rfl rfl (Nat.le_of_ble_eq_true rfl) ⟨Nat.le_of_ble_eq_true rfl, Nat.le_of_ble_eq_true rfl⟩ dX10_segment_58 (fun r_6 hf => ?_)
    exact vx_ret (W.widen (k := 2) (n := 12) (Nat.le_of_ble_eq_true rfl) (Nat.le_of_ble_eq_true rfl) (z_retMi (Wf := (fun z => cl_X10 cI cJ cS a z)) (u := u) X hf hP hD hS dX10_segment_61))
  have hf := hf.2 c_5
  by_cases c_7 : x2 = (1 : Int32)
  · have hf := hf.1 c_7
    refine lv_tableIn (off := 43) (tgt := 62) hx hb dX10_segment_19 (by rw [c_7]; decide) (by rw [c_7]; decide) (by rw [c_7]; decide) (by decide) ?_
    refine lv_aload_n hx hb dX10_segment_62 rfl (lv_at hl 0 rfl) ?_
    refine lv_iload_n hx hb dX10_segment_63 rfl (lv_at hl 2 rfl) ?_
    refine z_cVi (As := [.int x1]) (rest := []) X (c_X4_countOf l dC dI cI cJ cS (fun i => a (4 + i)) u.1.2.2.1 x1 _ hf) zc_X4_countOf q_ml_X10_206 ⟨rfl, rfl⟩ ⟨Nat.le_of_ble_eq_true rfl, Nat.le_of_ble_eq_true rfl⟩ hP [4, 5, 6, 7, 8] rfl 3 rfl rfl hl.1 rfl rfl (Nat.le_of_ble_eq_true rfl) ⟨Nat.le_of_ble_eq_true rfl, Nat.le_of_ble_eq_true rfl⟩ dX10_segment_64 (fun r_8 hf => ?_)
    exact vx_ret (W.widen (k := 2) (n := 12) (Nat.le_of_ble_eq_true rfl) (Nat.le_of_ble_eq_true rfl) (z_retMi (Wf := (fun z => cl_X10 cI cJ cS a z)) (u := u) X hf hP hD hS dX10_segment_67))
  have hf := hf.2 c_7
  by_cases c_9 : x2 = (2 : Int32)
  · have hf := hf.1 c_9
    refine lv_tableIn (off := 49) (tgt := 68) hx hb dX10_segment_19 (by rw [c_9]; decide) (by rw [c_9]; decide) (by rw [c_9]; decide) (by decide) ?_
    refine lv_aload_n hx hb dX10_segment_68 rfl (lv_at hl 0 rfl) ?_
    refine lv_iload_n hx hb dX10_segment_69 rfl (lv_at hl 2 rfl) ?_
    refine z_cVi (As := [.int x1]) (rest := []) X (c_X4_takenOf l dC dI cI cJ cS (fun i => a (4 + i)) u.1.2.2.1 x1 _ hf) zc_X4_takenOf q_ml_X10_209 ⟨rfl, rfl⟩ ⟨Nat.le_of_ble_eq_true rfl, Nat.le_of_ble_eq_true rfl⟩ hP [4, 5, 6, 7, 8] rfl 3 rfl rfl hl.1 rfl rfl (Nat.le_of_ble_eq_true rfl) ⟨Nat.le_of_ble_eq_true rfl, Nat.le_of_ble_eq_true rfl⟩ dX10_segment_70 (fun r_10 hf => ?_)
    exact vx_ret (W.widen (k := 2) (n := 12) (Nat.le_of_ble_eq_true rfl) (Nat.le_of_ble_eq_true rfl) (z_retMi (Wf := (fun z => cl_X10 cI cJ cS a z)) (u := u) X hf hP hD hS dX10_segment_73))
  have hf := hf.2 c_9
  by_cases c_11 : x2 = (3 : Int32)
  · have hf := hf.1 c_11
    refine lv_tableIn (off := 55) (tgt := 74) hx hb dX10_segment_19 (by rw [c_11]; decide) (by rw [c_11]; decide) (by rw [c_11]; decide) (by decide) ?_
    refine lv_aload_n hx hb dX10_segment_74 rfl (lv_at hl 1 rfl) ?_
    refine va_get (D := (dC, dI)) (ci := 9) (v := .ref (a 1)) (C := RX10) (T := TX10) (N := 9) hx hb hts inX10 hown hK hP 0 rfl rfl 0 (by decide) (hts _ q_fl_X10_10) (fun _ h9 => h9) rfl dX10_segment_75 ?_
    refine lv_iload_n hx hb dX10_segment_78 rfl (lv_at hl 2 rfl) ?_
    refine z_cVi (As := [.int x1]) (rest := []) X (c_X5_liveOf l dC dI cI cJ cS (fun i => a (1 + i)) u.1 x1 _ hf) zc_X5_liveOf q_ml_X10_212 ⟨rfl, rfl⟩ ⟨Nat.le_of_ble_eq_true rfl, Nat.le_of_ble_eq_true rfl⟩ hP [1, 2, 3, 4, 5, 6, 7, 8, 9, 10, 11, 12, 13, 14, 15] rfl 4 rfl rfl hl.1 rfl rfl (Nat.le_of_ble_eq_true rfl) ⟨Nat.le_of_ble_eq_true rfl, Nat.le_of_ble_eq_true rfl⟩ dX10_segment_79 (fun r_12 hf => ?_)
    exact vx_ret (W.widen (k := 2) (n := 12) (Nat.le_of_ble_eq_true rfl) (Nat.le_of_ble_eq_true rfl) (z_retMi (Wf := (fun z => cl_X10 cI cJ cS a z)) (u := u) X hf hP hD hS dX10_segment_82))
  have hf := hf.2 c_11
  by_cases c_13 : x2 = (4 : Int32)
  · have hf := hf.1 c_13
    refine lv_tableIn (off := 64) (tgt := 83) hx hb dX10_segment_19 (by rw [c_13]; decide) (by rw [c_13]; decide) (by rw [c_13]; decide) (by decide) ?_
    refine lv_aload_n hx hb dX10_segment_83 rfl (lv_at hl 1 rfl) ?_
    refine va_get (D := (dC, dI)) (ci := 9) (v := .ref (a 1)) (C := RX10) (T := TX10) (N := 9) hx hb hts inX10 hown hK hP 0 rfl rfl 0 (by decide) (hts _ q_fl_X10_10) (fun _ h9 => h9) rfl dX10_segment_84 ?_
    refine lv_iload_n hx hb dX10_segment_87 rfl (lv_at hl 2 rfl) ?_
    refine z_cVi (As := [.int x1]) (rest := []) X (c_X5_deadOf l dC dI cI cJ cS (fun i => a (1 + i)) u.1 x1 _ hf) zc_X5_deadOf q_ml_X10_215 ⟨rfl, rfl⟩ ⟨Nat.le_of_ble_eq_true rfl, Nat.le_of_ble_eq_true rfl⟩ hP [1, 2, 3, 4, 5, 6, 7, 8, 9, 10, 11, 12, 13, 14, 15] rfl 4 rfl rfl hl.1 rfl rfl (Nat.le_of_ble_eq_true rfl) ⟨Nat.le_of_ble_eq_true rfl, Nat.le_of_ble_eq_true rfl⟩ dX10_segment_88 (fun r_14 hf => ?_)
    exact vx_ret (W.widen (k := 2) (n := 12) (Nat.le_of_ble_eq_true rfl) (Nat.le_of_ble_eq_true rfl) (z_retMi (Wf := (fun z => cl_X10 cI cJ cS a z)) (u := u) X hf hP hD hS dX10_segment_91))
  have hf := hf.2 c_13
  by_cases c_15 : x2 = (5 : Int32)
  · have hf := hf.1 c_15
    refine lv_tableIn (off := 73) (tgt := 92) hx hb dX10_segment_19 (by rw [c_15]; decide) (by rw [c_15]; decide) (by rw [c_15]; decide) (by decide) ?_
    refine lv_aload_n hx hb dX10_segment_92 rfl (lv_at hl 0 rfl) ?_
    refine lv_iload_n hx hb dX10_segment_93 rfl (lv_at hl 2 rfl) ?_
    refine z_cVi (As := [.int x1]) (rest := []) X (c_X4_countOf l dC dI cI cJ cS (fun i => a (4 + i)) u.1.2.2.1 x1 _ hf) zc_X4_countOf q_ml_X10_206 ⟨rfl, rfl⟩ ⟨Nat.le_of_ble_eq_true rfl, Nat.le_of_ble_eq_true rfl⟩ hP [4, 5, 6, 7, 8] rfl 3 rfl rfl hl.1 rfl rfl (Nat.le_of_ble_eq_true rfl) ⟨Nat.le_of_ble_eq_true rfl, Nat.le_of_ble_eq_true rfl⟩ dX10_segment_94 (fun r_16 hf => ?_)
    refine lv_if_ne (tgt := 104) hx hb dX10_segment_97 (by decide) (fun c_17 => ?_) (fun c_17 => ?_)
    · have hf := hf.1 c_17
      refine lv_aload_n hx hb dX10_segment_104 rfl (lv_at hl 0 rfl) ?_
      refine lv_iload_n hx hb dX10_segment_105 rfl (lv_at hl 2 rfl) ?_
      refine z_cVi (As := [.int x1]) (rest := []) X (c_X4_greatestOf l dC dI cI cJ cS (fun i => a (4 + i)) u.1.2.2.1 x1 _ hf) zc_X4_greatestOf q_ml_X10_218 ⟨rfl, rfl⟩ ⟨Nat.le_of_ble_eq_true rfl, Nat.le_of_ble_eq_true rfl⟩ hP [4, 5, 6, 7, 8] rfl 3 rfl rfl hl.1 rfl rfl (Nat.le_of_ble_eq_true rfl) ⟨Nat.le_of_ble_eq_true rfl, Nat.le_of_ble_eq_true rfl⟩ dX10_segment_106 (fun r_18 hf => ?_)
      exact vx_ret (W.widen (k := 2) (n := 12) (Nat.le_of_ble_eq_true rfl) (Nat.le_of_ble_eq_true rfl) (z_retMi (Wf := (fun z => cl_X10 cI cJ cS a z)) (u := u) X hf hP hD hS dX10_segment_109))
    · have hf := hf.2 c_17
      refine lv_iconst (v := (-1)) hx hb dX10_segment_100 (by decide) ?_
      refine lv_goto (tgt := 109) hx hb dX10_segment_101 (by decide) ?_
      exact vx_ret (W.widen (k := 2) (n := 12) (Nat.le_of_ble_eq_true rfl) (Nat.le_of_ble_eq_true rfl) (z_retMi (Wf := (fun z => cl_X10 cI cJ cS a z)) (u := u) X hf hP hD hS dX10_segment_109))
  have hf := hf.2 c_15
  refine lv_tableOut (tgt := 110) hx hb dX10_segment_19 (by have q0 : ¬ x2.toInt = (0 : Int) := fun h => c_5 (Int32.toInt_inj.mp (show x2.toInt = (0 : Int32).toInt from h)); have q1 : ¬ x2.toInt = (1 : Int) := fun h => c_7 (Int32.toInt_inj.mp (show x2.toInt = (1 : Int32).toInt from h)); have q2 : ¬ x2.toInt = (2 : Int) := fun h => c_9 (Int32.toInt_inj.mp (show x2.toInt = (2 : Int32).toInt from h)); have q3 : ¬ x2.toInt = (3 : Int) := fun h => c_11 (Int32.toInt_inj.mp (show x2.toInt = (3 : Int32).toInt from h)); have q4 : ¬ x2.toInt = (4 : Int) := fun h => c_13 (Int32.toInt_inj.mp (show x2.toInt = (4 : Int32).toInt from h)); have q5 : ¬ x2.toInt = (5 : Int) := fun h => c_15 (Int32.toInt_inj.mp (show x2.toInt = (5 : Int32).toInt from h)); omega) (by decide) ?_
  refine lv_aload_n hx hb dX10_segment_110 rfl (lv_at hl 0 rfl) ?_
  refine lv_iload_n hx hb dX10_segment_111 rfl (lv_at hl 2 rfl) ?_
  refine z_cVi (As := [.int x1]) (rest := []) X (c_X4_kindOf l dC dI cI cJ cS (fun i => a (4 + i)) u.1.2.2.1 x1 _ hf) zc_X4_kindOf q_ml_X10_202 ⟨rfl, rfl⟩ ⟨Nat.le_of_ble_eq_true rfl, Nat.le_of_ble_eq_true rfl⟩ hP [4, 5, 6, 7, 8] rfl 3 rfl rfl hl.1 rfl rfl (Nat.le_of_ble_eq_true rfl) ⟨Nat.le_of_ble_eq_true rfl, Nat.le_of_ble_eq_true rfl⟩ dX10_segment_112 (fun r_19 hf => ?_)
  refine lv_iconst (v := 2) hx hb dX10_segment_115 (by decide) ?_
  refine lv_icmp_ne (tgt := 139) hx hb dX10_segment_116 (by decide) (fun c_20 => ?_) (fun c_20 => ?_)
  · have hf := hf.1 c_20
    refine lv_iconst (v := 0) hx hb dX10_segment_139 (by decide) ?_
    exact vx_ret (W.widen (k := 2) (n := 12) (Nat.le_of_ble_eq_true rfl) (Nat.le_of_ble_eq_true rfl) (z_retMi (Wf := (fun z => cl_X10 cI cJ cS a z)) (u := u) X hf hP hD hS dX10_segment_140))
  · have hf := hf.2 c_20
    refine lv_aload_n hx hb dX10_segment_119 rfl (lv_at hl 1 rfl) ?_
    refine va_get (D := (dC, dI)) (ci := 9) (v := .ref (a 1)) (C := RX10) (T := TX10) (N := 9) hx hb hts inX10 hown hK hP 0 rfl rfl 0 (by decide) (hts _ q_fl_X10_10) (fun _ h9 => h9) rfl dX10_segment_120 ?_
    refine lv_iload_n hx hb dX10_segment_123 rfl (lv_at hl 2 rfl) ?_
    refine z_cVi (As := [.int x1]) (rest := []) X (c_X5_deadOf l dC dI cI cJ cS (fun i => a (1 + i)) u.1 x1 _ hf) zc_X5_deadOf q_ml_X10_215 ⟨rfl, rfl⟩ ⟨Nat.le_of_ble_eq_true rfl, Nat.le_of_ble_eq_true rfl⟩ hP [1, 2, 3, 4, 5, 6, 7, 8, 9, 10, 11, 12, 13, 14, 15] rfl 4 rfl rfl hl.1 rfl rfl (Nat.le_of_ble_eq_true rfl) ⟨Nat.le_of_ble_eq_true rfl, Nat.le_of_ble_eq_true rfl⟩ dX10_segment_124 (fun r_21 hf => ?_)
    refine lv_aload_n hx hb dX10_segment_127 rfl (lv_at hl 1 rfl) ?_
    refine va_get (D := (dC, dI)) (ci := 9) (v := .ref (a 1)) (C := RX10) (T := TX10) (N := 9) hx hb hts inX10 hown hK hP 0 rfl rfl 0 (by decide) (hts _ q_fl_X10_10) (fun _ h9 => h9) rfl dX10_segment_128 ?_
    refine lv_iload_n hx hb dX10_segment_131 rfl (lv_at hl 2 rfl) ?_
    refine z_cVi (As := [.int x1]) (rest := [.int r_21]) X (c_X5_liveOf l dC dI cI cJ cS (fun i => a (1 + i)) u.1 x1 _ hf) zc_X5_liveOf q_ml_X10_212 ⟨rfl, rfl⟩ ⟨Nat.le_of_ble_eq_true rfl, Nat.le_of_ble_eq_true rfl⟩ hP [1, 2, 3, 4, 5, 6, 7, 8, 9, 10, 11, 12, 13, 14, 15] rfl 4 rfl rfl hl.1 rfl rfl (Nat.le_of_ble_eq_true rfl) ⟨Nat.le_of_ble_eq_true rfl, Nat.le_of_ble_eq_true rfl⟩ dX10_segment_132 (fun r_22 hf => ?_)
    refine lv_isub hx hb dX10_segment_135 ?_
    refine lv_goto (tgt := 140) hx hb dX10_segment_136 (by decide) ?_
    exact vx_ret (W.widen (k := 2) (n := 12) (Nat.le_of_ble_eq_true rfl) (Nat.le_of_ble_eq_true rfl) (z_retMi (Wf := (fun z => cl_X10 cI cJ cS a z)) (u := u) X hf hP hD hS dX10_segment_140))
def s_X10_segment (u : zCls) (x1 : Int32) (x2 : Int32) (Q : Int32 → zCls → Prop) (QX : String → zCls → Prop) : Prop := cAsk u (fun v => fSegment v x1 x2) (exO 2 3 3) Q QX
theorem st_X10_segment {u : zCls} {x1 x2 : Int32} {Q : Int32 → zCls → Prop} {QX : String → zCls → Prop} (h : s_X10_segment u x1 x2 Q QX) : t_X10_segment u x1 x2 Q QX := by
  obtain ⟨B, G, hG, hB, hc, hQ⟩ := h
  obtain ⟨v, ev⟩ : ∃ v, v = gNow G := ⟨_, rfl⟩
  rw [← ev] at hQ
  have hv : okB B v := by rw [ev]; exact hG.1
  have ho := hv.ok
  have c1 : u.1 = v := by rw [ev]; exact hc.1
  dsimp only at hQ
  unfold fSegment at hQ
  refine lookSeg_of (fun i1 => lookWhat_of (fun i2 => ?_) (fun i2 => ?_)) (fun i1 => ?_)
  · rw [if_pos i1, if_pos i2] at hQ
    obtain ⟨s, hs, rfl, es⟩ := seg_n i1
    rw [es] at hQ
    have hQ := (hQ u hc).1 rfl
    dsimp only at hQ
    unfold aSeg at hQ
    have ec := ho.c hs
    have hcl := ho.cl hs
    rw [c1]
    refine ⟨fun d => Or.inl ⟨s, hs, rfl, by rw [if_pos d] at hQ; exact hQ⟩, fun d => ?_⟩
    rw [if_neg d] at hQ
    refine ⟨fun d => ⟨s, hs, rfl, by rw [if_pos d] at hQ; exact hQ⟩, fun d => ?_⟩
    rw [if_neg d] at hQ
    refine ⟨fun d => ⟨s, hs, rfl, by rw [if_pos d] at hQ; exact hQ⟩, fun d => ?_⟩
    rw [if_neg d] at hQ
    refine ⟨fun d => ⟨ho, s, hs, rfl, by rw [if_pos d] at hQ; exact hQ⟩, fun d => ?_⟩
    rw [if_neg d] at hQ
    refine ⟨fun d => ⟨ho, s, hs, rfl, by rw [if_pos d] at hQ; exact hQ⟩, fun d => ?_⟩
    rw [if_neg d] at hQ
    refine ⟨fun d => ⟨s, hs, rfl, fun z => ⟨s, cN v s, hs, hcl, rfl, ec, ?_⟩, fun z => ?_⟩, fun d => Or.inl ⟨s, hs, rfl, fun z => ?_, fun z => ⟨ho, s, hs, rfl, ho, s, hs, rfl, ?_⟩⟩⟩
    · rw [if_pos d] at hQ
      have h0 : ¬ cN v s = 0 := fun q => z (by rw [ec, q]; rfl)
      unfold uLast at hQ
      have e9 : gN v.2.2.1 s = cN v s := rfl
      rw [e9, if_neg h0] at hQ
      rw [if_neg h0]; exact hQ
    · rw [if_pos d] at hQ
      have h0 : cN v s = 0 := (nI_eq (by omega) (by decide)).mp (show nI (cN v s) = nI 0 from ec.symm.trans z)
      unfold uLast at hQ
      have e9 : gN v.2.2.1 s = cN v s := rfl
      rw [e9, if_pos h0] at hQ
      exact hQ
    · rw [if_neg d, if_neg z] at hQ; exact hQ
    · rw [if_neg d, if_pos z] at hQ; exact hQ
  · rw [if_pos i1, if_neg i2] at hQ
    exact (hQ u hc).2 (show ¬ (2 : Int32) = 0 by decide)
  · rw [if_neg i1] at hQ
    exact (hQ u hc).2 (show ¬ (1 : Int32) = 0 by decide)
theorem c_X10_segment (l : Launch) (hlt : l.stackTraces = false) (dC : Nat → ClassId) (dI : Nat → Nat → Nat) (cI cJ cS : ClassId) (a : Nat → Nat) (u : zCls) (x1 : Int32) (x2 : Int32) (Q : Int32 → zCls → Prop) (QX : String → zCls → Prop) (hf : s_X10_segment u x1 x2 Q QX) : ∀ sz : Nat, vx_Met l yX10_segment (Cond.code yX10_segment cX10_segment 4 (some .int) :: zT) rm_X10_segment (zPmF zFy dC dI cI cJ cS (cl_X10 cI cJ cS a u) [.ref (a 0), .int x1, .int x2] sz) (va_Qi Q (zB dC dI cI cJ cS (va_A (cl_X10 cI cJ cS a u) sz) (fun z => cl_X10 cI cJ cS a z)) (va_A (cl_X10 cI cJ cS a u) sz)) (zXc QX dC dI cI cJ cS (va_A (cl_X10 cI cJ cS a u) sz) (fun z => cl_X10 cI cJ cS a z)) 2 12 (va_A (cl_X10 cI cJ cS a u) sz) := L_X10_segment l hlt dC dI cI cJ cS a u x1 x2 Q QX (st_X10_segment hf)

def t_X10_record (u : zCls) (x1 : Int32) (x2 : Int32) (x3 : Int32) (Q : Int32 → zCls → Prop) (QX : String → zCls → Prop) : Prop := s_X10_lookAtSegment x1 (fun (u_2 : Unit) => s_X10_lookAtWhat x3 (4 : Int32) (fun (u_4 : Unit) => s_X4_cardAt u.1.2.2.1 x1 x2 (fun r_5 : Int64 => ((¬ (lg_cmp r_5 (0 : Int64)) = 0 → ((x3 = (0 : Int32) → s_X0_keyOf r_5 (fun r_8 : Int32 => Q r_8 u)) ∧ (¬ x3 = (0 : Int32) → ((x3 = (1 : Int32) → s_X0_isDrop r_5 (fun r_10 : Int32 => ((r_10 = 0 → s_X0_lengthOf r_5 (fun r_12 : Int32 => Q r_12 u)) ∧ (¬ r_10 = 0 → Q (-1 : Int32) u)))) ∧ (¬ x3 = (1 : Int32) → ((x3 = (2 : Int32) → s_X0_numberOf r_5 (fun r_14 : Int32 => Q r_14 u)) ∧ (¬ x3 = (2 : Int32) → ((x3 = (3 : Int32) → s_X0_beginOf r_5 (fun r_16 : Int32 => Q r_16 u)) ∧ (¬ x3 = (3 : Int32) → s_X5_isLive u.1 r_5 (fun r_17 : Int32 => ((r_17 = 0 → Q (0 : Int32) u) ∧ (¬ r_17 = 0 → Q (1 : Int32) u)))))))))))) ∧ ((lg_cmp r_5 (0 : Int64)) = 0 → Q (-1 : Int32) u)))) (fun (E : String) (u_4 : Unit) => QX E u)) (fun (E : String) (u_2 : Unit) => QX E u)
theorem zc_X10_record : zCalV RX10 yX10_record cX10_record 6 (some .int) 3 := ⟨q_im_X10_record, q_se_X10_record, q_in_X10, q_cd_X10_record, ⟨by decide, by decide, by decide +kernel⟩, rfl⟩
abbrev rm_X10_record : Room := { frames := 7, cells := 2, slots := 12, locals := 111 }
set_option maxHeartbeats 4000000 in
set_option maxRecDepth 100000 in
theorem L_X10_record (l : Launch) (hlt : l.stackTraces = false) (dC : Nat → ClassId) (dI : Nat → Nat → Nat) (cI cJ cS : ClassId) (a : Nat → Nat) (u : zCls) (x1 : Int32) (x2 : Int32) (x3 : Int32) (Q : Int32 → zCls → Prop) (QX : String → zCls → Prop) (hf : t_X10_record u x1 x2 x3 Q QX) : ∀ sz : Nat, vx_Met l yX10_record (Cond.code yX10_record cX10_record 6 (some .int) :: zT) rm_X10_record (zPmF zFy dC dI cI cJ cS (cl_X10 cI cJ cS a u) [.ref (a 0), .int x1, .int x2, .int x3] sz) (va_Qi Q (zB dC dI cI cJ cS (va_A (cl_X10 cI cJ cS a u) sz) (fun z => cl_X10 cI cJ cS a z)) (va_A (cl_X10 cI cJ cS a u) sz)) (zXc QX dC dI cI cJ cS (va_A (cl_X10 cI cJ cS a u) sz) (fun z => cl_X10 cI cJ cS a z)) 2 12 (va_A (cl_X10 cI cJ cS a u) sz) := by
  intro sz
  refine z_enterX (Qc := fun A => va_Qi Q (zB dC dI cI cJ cS A (fun z => cl_X10 cI cJ cS a z)) A) (XC := fun A => zXc QX dC dI cI cJ cS A (fun z => cl_X10 cI cJ cS a z)) (cc := cX10_record) (maxL := 6) (ret := (some .int)) (by decide) (Nat.le_of_ble_eq_true rfl) ?_
  intro p e s m below meth c ls A X htb hP hD hS hA hF hl
  obtain ⟨⟨hx, hb, hml, hown, hts⟩, hr, hlk, hK⟩ := id X
  have hl : lv_has ls 6 [(0, .ref (a 0)), (1, .int x1), (2, .int x2), (3, .int x3)] := hl
  unfold t_X10_record at hf
  refine lv_iload_n hx hb dX10_record_0 rfl (lv_at hl 1 rfl) ?_
  refine z_xSvO (Wn := (fun u_2 => cl_X10 cI cJ cS a u)) (As := [.int x1]) (rest := []) (wr := cl_X10 cI cJ cS a u) X fro_Fy hF (c_X10_lookAtSegment l hlt dC dI cI cJ cS   x1 _ _ hf _) zc_X10_lookAtSegment q_ml_X10_116 ⟨rfl, rfl⟩ ⟨Nat.le_of_ble_eq_true rfl, Nat.le_of_ble_eq_true rfl⟩ hP hD hS hA (pm_0 _) (fun _ => pm_0 _) (Wo := (fun z => cl_X10 cI cJ cS a z)) (fun u_2 => u) (fun _ => rfl) htb (fun _ _ h => h) ⟨Nat.le_of_ble_eq_true rfl, Nat.le_of_ble_eq_true rfl⟩ hl.1 rfl rfl (Nat.le_of_ble_eq_true rfl) ⟨Nat.le_of_ble_eq_true rfl, Nat.le_of_ble_eq_true rfl⟩ dX10_record_1 (fun u_2 H locs hf hP hD hS => ?_)
  refine lv_iload_n hx hb dX10_record_4 rfl (lv_at hl 3 rfl) ?_
  refine lv_iconst (v := 4) hx hb dX10_record_5 (by decide) ?_
  refine z_xSvO (Wn := (fun u_4 => cl_X10 cI cJ cS a u)) (As := [.int x3, .int (4 : Int32)]) (rest := []) (wr := cl_X10 cI cJ cS a u) X fro_Fy hF (c_X10_lookAtWhat l hlt dC dI cI cJ cS   x3 (4 : Int32) _ _ hf _) zc_X10_lookAtWhat q_ml_X10_136 ⟨rfl, rfl⟩ ⟨Nat.le_of_ble_eq_true rfl, Nat.le_of_ble_eq_true rfl⟩ hP hD hS hA (pm_0 _) (fun _ => pm_0 _) (Wo := (fun z => cl_X10 cI cJ cS a z)) (fun u_4 => u) (fun _ => rfl) htb (fun _ _ h => h) ⟨Nat.le_of_ble_eq_true rfl, Nat.le_of_ble_eq_true rfl⟩ hl.1 rfl rfl (Nat.le_of_ble_eq_true rfl) ⟨Nat.le_of_ble_eq_true rfl, Nat.le_of_ble_eq_true rfl⟩ dX10_record_6 (fun u_4 H locs hf hP hD hS => ?_)
  refine lv_aload_n hx hb dX10_record_9 rfl (lv_at hl 0 rfl) ?_
  refine va_get (D := (dC, dI)) (ci := 9) (v := .ref (a 1)) (C := RX10) (T := TX10) (N := 9) hx hb hts inX10 hown hK hP 0 rfl rfl 0 (by decide) (hts _ q_fl_X10_10) (fun _ h9 => h9) rfl dX10_record_10 ?_
  refine va_get (D := (dC, dI)) (ci := 4) (v := .ref (a 4)) (C := RX5) (T := TX5) (N := 9) hx hb hts inX5 hown hK hP 1 rfl rfl 2 (by decide) (hts _ q_fl_X10_198) (fun _ h9 => h9) rfl dX10_record_13 ?_
  refine lv_iload_n hx hb dX10_record_16 rfl (lv_at hl 1 rfl) ?_
  refine lv_iload_n hx hb dX10_record_17 rfl (lv_at hl 2 rfl) ?_
  refine z_cVl (As := [.int x1, .int x2]) (rest := []) X (c_X4_cardAt l dC dI cI cJ cS (fun i => a (4 + i)) u.1.2.2.1 x1 x2 _ hf) zc_X4_cardAt q_ml_X10_221 ⟨rfl, rfl⟩ ⟨Nat.le_of_ble_eq_true rfl, Nat.le_of_ble_eq_true rfl⟩ hP [4, 5, 6, 7, 8] rfl 3 rfl rfl hl.1 rfl rfl (Nat.le_of_ble_eq_true rfl) ⟨Nat.le_of_ble_eq_true rfl, Nat.le_of_ble_eq_true rfl⟩ dX10_record_18 (fun r_5 hf => ?_)
  refine lv_lstore (lv' := [(4, .long r_5), (0, .ref (a 0)), (1, .int x1), (2, .int x2), (3, .int x3)]) hx hb dX10_record_21 hl (by decide) rfl (fun ls hl => ?_)
  refine lv_lload hx hb dX10_record_23 (lv_at hl 0 rfl) ?_
  refine lv_lconst (v := 0) hx hb dX10_record_25 (by decide) ?_
  refine W.lcmp hx hb dX10_record_26 ?_
  refine lv_if_ne (tgt := 32) hx hb dX10_record_27 (by decide) (fun c_6 => ?_) (fun c_6 => ?_)
  · have hf := hf.1 c_6
    refine lv_iload_n hx hb dX10_record_32 rfl (lv_at hl 4 rfl) ?_
    by_cases c_7 : x3 = (0 : Int32)
    · have hf := hf.1 c_7
      refine lv_tableIn (off := 31) (tgt := 64) hx hb dX10_record_33 (by rw [c_7]; decide) (by rw [c_7]; decide) (by rw [c_7]; decide) (by decide) ?_
      refine lv_lload hx hb dX10_record_64 (lv_at hl 0 rfl) ?_
      refine z_cSi (As := [.long r_5]) (rest := []) X (c_X0_keyOf l dC dI cI cJ cS   r_5 _ hf) zc_X0_keyOf q_ml_X10_225 ⟨rfl, rfl⟩ ⟨Nat.le_of_ble_eq_true rfl, Nat.le_of_ble_eq_true rfl⟩ hP [] rfl hl.1 rfl rfl (Nat.le_of_ble_eq_true rfl) ⟨Nat.le_of_ble_eq_true rfl, Nat.le_of_ble_eq_true rfl⟩ dX10_record_66 (fun r_8 hf => ?_)
      exact vx_ret (W.widen (k := 2) (n := 12) (Nat.le_of_ble_eq_true rfl) (Nat.le_of_ble_eq_true rfl) (z_retMi (Wf := (fun z => cl_X10 cI cJ cS a z)) (u := u) X hf hP hD hS dX10_record_69))
    have hf := hf.2 c_7
    by_cases c_9 : x3 = (1 : Int32)
    · have hf := hf.1 c_9
      refine lv_tableIn (off := 37) (tgt := 70) hx hb dX10_record_33 (by rw [c_9]; decide) (by rw [c_9]; decide) (by rw [c_9]; decide) (by decide) ?_
      refine lv_lload hx hb dX10_record_70 (lv_at hl 0 rfl) ?_
      refine z_cSi (As := [.long r_5]) (rest := []) X (c_X0_isDrop l dC dI cI cJ cS   r_5 _ hf) zc_X0_isDrop q_ml_X10_228 ⟨rfl, rfl⟩ ⟨Nat.le_of_ble_eq_true rfl, Nat.le_of_ble_eq_true rfl⟩ hP [] rfl hl.1 rfl rfl (Nat.le_of_ble_eq_true rfl) ⟨Nat.le_of_ble_eq_true rfl, Nat.le_of_ble_eq_true rfl⟩ dX10_record_72 (fun r_10 hf => ?_)
      obtain ⟨hbr_10, hf⟩ := hf
      refine lv_if_eq (tgt := 82) hx hb dX10_record_75 (by decide) (fun c_11 => ?_) (fun c_11 => ?_)
      · have hf := hf.1 c_11
        refine lv_lload hx hb dX10_record_82 (lv_at hl 0 rfl) ?_
        refine z_cSi (As := [.long r_5]) (rest := []) X (c_X0_lengthOf l dC dI cI cJ cS   r_5 _ hf) zc_X0_lengthOf q_ml_X10_192 ⟨rfl, rfl⟩ ⟨Nat.le_of_ble_eq_true rfl, Nat.le_of_ble_eq_true rfl⟩ hP [] rfl hl.1 rfl rfl (Nat.le_of_ble_eq_true rfl) ⟨Nat.le_of_ble_eq_true rfl, Nat.le_of_ble_eq_true rfl⟩ dX10_record_84 (fun r_12 hf => ?_)
        exact vx_ret (W.widen (k := 2) (n := 12) (Nat.le_of_ble_eq_true rfl) (Nat.le_of_ble_eq_true rfl) (z_retMi (Wf := (fun z => cl_X10 cI cJ cS a z)) (u := u) X hf hP hD hS dX10_record_87))
      · have hf := hf.2 c_11
        refine lv_iconst (v := (-1)) hx hb dX10_record_78 (by decide) ?_
        refine lv_goto (tgt := 87) hx hb dX10_record_79 (by decide) ?_
        exact vx_ret (W.widen (k := 2) (n := 12) (Nat.le_of_ble_eq_true rfl) (Nat.le_of_ble_eq_true rfl) (z_retMi (Wf := (fun z => cl_X10 cI cJ cS a z)) (u := u) X hf hP hD hS dX10_record_87))
    have hf := hf.2 c_9
    by_cases c_13 : x3 = (2 : Int32)
    · have hf := hf.1 c_13
      refine lv_tableIn (off := 55) (tgt := 88) hx hb dX10_record_33 (by rw [c_13]; decide) (by rw [c_13]; decide) (by rw [c_13]; decide) (by decide) ?_
      refine lv_lload hx hb dX10_record_88 (lv_at hl 0 rfl) ?_
      refine z_cSi (As := [.long r_5]) (rest := []) X (c_X0_numberOf l dC dI cI cJ cS   r_5 _ hf) zc_X0_numberOf q_ml_X10_174 ⟨rfl, rfl⟩ ⟨Nat.le_of_ble_eq_true rfl, Nat.le_of_ble_eq_true rfl⟩ hP [] rfl hl.1 rfl rfl (Nat.le_of_ble_eq_true rfl) ⟨Nat.le_of_ble_eq_true rfl, Nat.le_of_ble_eq_true rfl⟩ dX10_record_90 (fun r_14 hf => ?_)
      exact vx_ret (W.widen (k := 2) (n := 12) (Nat.le_of_ble_eq_true rfl) (Nat.le_of_ble_eq_true rfl) (z_retMi (Wf := (fun z => cl_X10 cI cJ cS a z)) (u := u) X hf hP hD hS dX10_record_93))
    have hf := hf.2 c_13
    by_cases c_15 : x3 = (3 : Int32)
    · have hf := hf.1 c_15
      refine lv_tableIn (off := 61) (tgt := 94) hx hb dX10_record_33 (by rw [c_15]; decide) (by rw [c_15]; decide) (by rw [c_15]; decide) (by decide) ?_
      refine lv_lload hx hb dX10_record_94 (lv_at hl 0 rfl) ?_
      refine z_cSi (As := [.long r_5]) (rest := []) X (c_X0_beginOf l dC dI cI cJ cS   r_5 _ hf) zc_X0_beginOf q_ml_X10_180 ⟨rfl, rfl⟩ ⟨Nat.le_of_ble_eq_true rfl, Nat.le_of_ble_eq_true rfl⟩ hP [] rfl hl.1 rfl rfl (Nat.le_of_ble_eq_true rfl) ⟨Nat.le_of_ble_eq_true rfl, Nat.le_of_ble_eq_true rfl⟩ dX10_record_96 (fun r_16 hf => ?_)
      exact vx_ret (W.widen (k := 2) (n := 12) (Nat.le_of_ble_eq_true rfl) (Nat.le_of_ble_eq_true rfl) (z_retMi (Wf := (fun z => cl_X10 cI cJ cS a z)) (u := u) X hf hP hD hS dX10_record_99))
    have hf := hf.2 c_15
    refine lv_tableOut (tgt := 100) hx hb dX10_record_33 (by have q0 : ¬ x3.toInt = (0 : Int) := fun h => c_7 (Int32.toInt_inj.mp (show x3.toInt = (0 : Int32).toInt from h)); have q1 : ¬ x3.toInt = (1 : Int) := fun h => c_9 (Int32.toInt_inj.mp (show x3.toInt = (1 : Int32).toInt from h)); have q2 : ¬ x3.toInt = (2 : Int) := fun h => c_13 (Int32.toInt_inj.mp (show x3.toInt = (2 : Int32).toInt from h)); have q3 : ¬ x3.toInt = (3 : Int) := fun h => c_15 (Int32.toInt_inj.mp (show x3.toInt = (3 : Int32).toInt from h)); omega) (by decide) ?_
    refine lv_aload_n hx hb dX10_record_100 rfl (lv_at hl 1 rfl) ?_
    refine va_get (D := (dC, dI)) (ci := 9) (v := .ref (a 1)) (C := RX10) (T := TX10) (N := 9) hx hb hts inX10 hown hK hP 0 rfl rfl 0 (by decide) (hts _ q_fl_X10_10) (fun _ h9 => h9) rfl dX10_record_101 ?_
    refine lv_lload hx hb dX10_record_104 (lv_at hl 0 rfl) ?_
    refine z_cVi (As := [.long r_5]) (rest := []) X (c_X5_isLive l dC dI cI cJ cS (fun i => a (1 + i)) u.1 r_5 _ hf) zc_X5_isLive q_ml_X10_232 ⟨rfl, rfl⟩ ⟨Nat.le_of_ble_eq_true rfl, Nat.le_of_ble_eq_true rfl⟩ hP [1, 2, 3, 4, 5, 6, 7, 8, 9, 10, 11, 12, 13, 14, 15] rfl 4 rfl rfl hl.1 rfl rfl (Nat.le_of_ble_eq_true rfl) ⟨Nat.le_of_ble_eq_true rfl, Nat.le_of_ble_eq_true rfl⟩ dX10_record_106 (fun r_17 hf => ?_)
    obtain ⟨hbr_17, hf⟩ := hf
    refine lv_if_eq (tgt := 116) hx hb dX10_record_109 (by decide) (fun c_18 => ?_) (fun c_18 => ?_)
    · have hf := hf.1 c_18
      refine lv_iconst (v := 0) hx hb dX10_record_116 (by decide) ?_
      exact vx_ret (W.widen (k := 2) (n := 12) (Nat.le_of_ble_eq_true rfl) (Nat.le_of_ble_eq_true rfl) (z_retMi (Wf := (fun z => cl_X10 cI cJ cS a z)) (u := u) X hf hP hD hS dX10_record_117))
    · have hf := hf.2 c_18
      refine lv_iconst (v := 1) hx hb dX10_record_112 (by decide) ?_
      refine lv_goto (tgt := 117) hx hb dX10_record_113 (by decide) ?_
      exact vx_ret (W.widen (k := 2) (n := 12) (Nat.le_of_ble_eq_true rfl) (Nat.le_of_ble_eq_true rfl) (z_retMi (Wf := (fun z => cl_X10 cI cJ cS a z)) (u := u) X hf hP hD hS dX10_record_117))
  · have hf := hf.2 c_6
    refine lv_iconst (v := (-1)) hx hb dX10_record_30 (by decide) ?_
    exact vx_ret (W.widen (k := 2) (n := 12) (Nat.le_of_ble_eq_true rfl) (Nat.le_of_ble_eq_true rfl) (z_retMi (Wf := (fun z => cl_X10 cI cJ cS a z)) (u := u) X hf hP hD hS dX10_record_31))
def s_X10_record (u : zCls) (x1 : Int32) (x2 : Int32) (x3 : Int32) (Q : Int32 → zCls → Prop) (QX : String → zCls → Prop) : Prop := cAsk u (fun v => fRecord v x1 x2 x3) (exO 2 3 3) Q QX
theorem st_X10_record {u : zCls} {x1 x2 x3 : Int32} {Q : Int32 → zCls → Prop} {QX : String → zCls → Prop} (h : s_X10_record u x1 x2 x3 Q QX) : t_X10_record u x1 x2 x3 Q QX := by
  obtain ⟨B, G, hG, hB, hc, hQ⟩ := h
  obtain ⟨v, ev⟩ : ∃ v, v = gNow G := ⟨_, rfl⟩
  rw [← ev] at hQ
  have hv : okB B v := by rw [ev]; exact hG.1
  have ho := hv.ok
  have c1 : u.1 = v := by rw [ev]; exact hc.1
  dsimp only at hQ
  unfold fRecord at hQ
  refine lookSeg_of (fun i1 => lookWhat_of (fun i2 => ?_) (fun i2 => ?_)) (fun i1 => ?_)
  · rw [if_pos i1, if_pos i2] at hQ
    obtain ⟨s, hs, rfl, es⟩ := seg_n i1
    rw [es] at hQ
    have hQ := (hQ u hc).1 rfl
    dsimp only at hQ
    have ec := ho.c hs
    have hcl := ho.cl hs
    rw [ec] at hQ
    rw [c1]
    refine ⟨s, cN v s, hs, hcl, rfl, ec, ?_⟩
    by_cases i3 : inR x2 0 (nI (cN v s) - 1)
    · rw [if_pos i3] at hQ
      obtain ⟨k, hk, rfl⟩ := (n_range hcl).mp i3
      rw [nI_clamp (by omega)] at hQ
      have h0 := hv.rec hs hk
      refine Or.inl ⟨k, hk, rfl, fun _ => ?_, fun z => absurd ((lc_eq _ _).mp z) h0⟩
      unfold aRec at hQ
      refine ⟨fun d => by rw [if_pos d] at hQ; exact hQ, fun d => ?_⟩
      rw [if_neg d] at hQ
      refine ⟨fun d => ⟨fun z => ⟨fun q => absurd q (by decide), fun _ => ?_⟩, fun z => ⟨fun _ => ?_, fun q => absurd rfl q⟩⟩, fun d => ?_⟩
      · rw [if_pos d] at hQ
        unfold lenI at hQ
        rw [if_pos ((cDrop_iff _).mp z)] at hQ; exact hQ
      · rw [if_pos d] at hQ
        unfold lenI at hQ
        rw [if_neg (fun q => z ((cDrop_iff _).mpr q))] at hQ; exact hQ
      rw [if_neg d] at hQ
      refine ⟨fun d => by rw [if_pos d] at hQ; exact hQ, fun d => ?_⟩
      rw [if_neg d] at hQ
      refine ⟨fun d => by rw [if_pos d] at hQ; exact hQ, fun d => ?_⟩
      rw [if_neg d] at hQ
      refine ⟨ho, fun z => ⟨fun q => absurd q (by decide), fun _ => ?_⟩, fun z => ⟨fun _ => ?_, fun q => absurd rfl q⟩⟩
      · rw [if_pos z] at hQ; exact hQ
      · rw [if_neg (by rw [z]; decide)] at hQ; exact hQ
    · rw [if_neg i3] at hQ
      refine Or.inr ⟨?_, fun z => absurd ((lc_eq _ _).mpr rfl) z, fun _ => hQ⟩
      by_cases z : x2 < 0
      · exact Or.inl z
      · refine Or.inr ?_
        obtain ⟨n, hn, rfl⟩ := nI_of z
        have : ¬ n < cN v s := fun q => i3 ((n_range hcl).mpr ⟨n, q, rfl⟩)
        exact nI_le (by omega) (by omega)
  · rw [if_pos i1, if_neg i2] at hQ
    exact (hQ u hc).2 (show ¬ (2 : Int32) = 0 by decide)
  · rw [if_neg i1] at hQ
    exact (hQ u hc).2 (show ¬ (1 : Int32) = 0 by decide)
theorem c_X10_record (l : Launch) (hlt : l.stackTraces = false) (dC : Nat → ClassId) (dI : Nat → Nat → Nat) (cI cJ cS : ClassId) (a : Nat → Nat) (u : zCls) (x1 : Int32) (x2 : Int32) (x3 : Int32) (Q : Int32 → zCls → Prop) (QX : String → zCls → Prop) (hf : s_X10_record u x1 x2 x3 Q QX) : ∀ sz : Nat, vx_Met l yX10_record (Cond.code yX10_record cX10_record 6 (some .int) :: zT) rm_X10_record (zPmF zFy dC dI cI cJ cS (cl_X10 cI cJ cS a u) [.ref (a 0), .int x1, .int x2, .int x3] sz) (va_Qi Q (zB dC dI cI cJ cS (va_A (cl_X10 cI cJ cS a u) sz) (fun z => cl_X10 cI cJ cS a z)) (va_A (cl_X10 cI cJ cS a u) sz)) (zXc QX dC dI cI cJ cS (va_A (cl_X10 cI cJ cS a u) sz) (fun z => cl_X10 cI cJ cS a z)) 2 12 (va_A (cl_X10 cI cJ cS a u) sz) := L_X10_record l hlt dC dI cI cJ cS a u x1 x2 x3 Q QX (st_X10_record hf)

def t_X10_run (u : zCls) (x1 : Int32) (x2 : Int32) (Q : Int32 → zCls → Prop) (QX : String → zCls → Prop) : Prop := s_X10_lookAtRun u x1 (fun (u_2 : zCls) => s_X10_lookAtWhat x2 (4 : Int32) (fun (u_4 : Unit) => ∀ x_5 : Int32, x_5 = (x1 + (1 : Int32)) → ((x2 = (0 : Int32) → s_X9_sizeOf u_2.1.2.2.2.1 x_5 (fun r_7 : Int32 => Q r_7 u_2)) ∧ (¬ x2 = (0 : Int32) → ((x2 = (1 : Int32) → s_X9_keyAt u_2.1.2.2.2.1 x_5 (0 : Int32) (fun r_9 : Int32 => Q r_9 u_2)) ∧ (¬ x2 = (1 : Int32) → ((x2 = (2 : Int32) → s_X9_sizeOf u_2.1.2.2.2.1 x_5 (fun r_11 : Int32 => s_X9_keyAt u_2.1.2.2.2.1 x_5 (r_11 - (1 : Int32)) (fun r_12 : Int32 => Q r_12 u_2))) ∧ (¬ x2 = (2 : Int32) → ((x2 = (3 : Int32) → s_X9_dropsOf u_2.1.2.2.2.1 x_5 (fun r_14 : Int32 => Q r_14 u_2)) ∧ (¬ x2 = (3 : Int32) → s_X9_currentsOf u_2.1.2.2.2.1 x_5 (fun r_15 : Int32 => Q r_15 u_2)))))))))) (fun (E : String) (u_4 : Unit) => QX E u_2)) (fun (E : String) (u_2 : zCls) => QX E u_2)
theorem zc_X10_run : zCalV RX10 yX10_run cX10_run 5 (some .int) 2 := ⟨q_im_X10_run, q_se_X10_run, q_in_X10, q_cd_X10_run, ⟨by decide, by decide, by decide +kernel⟩, rfl⟩
abbrev rm_X10_run : Room := { frames := 7, cells := 2, slots := 12, locals := 111 }
set_option maxHeartbeats 4000000 in
set_option maxRecDepth 100000 in
theorem L_X10_run (l : Launch) (hlt : l.stackTraces = false) (dC : Nat → ClassId) (dI : Nat → Nat → Nat) (cI cJ cS : ClassId) (a : Nat → Nat) (u : zCls) (x1 : Int32) (x2 : Int32) (Q : Int32 → zCls → Prop) (QX : String → zCls → Prop) (hf : t_X10_run u x1 x2 Q QX) : ∀ sz : Nat, vx_Met l yX10_run (Cond.code yX10_run cX10_run 5 (some .int) :: zT) rm_X10_run (zPmF zFy dC dI cI cJ cS (cl_X10 cI cJ cS a u) [.ref (a 0), .int x1, .int x2] sz) (va_Qi Q (zB dC dI cI cJ cS (va_A (cl_X10 cI cJ cS a u) sz) (fun z => cl_X10 cI cJ cS a z)) (va_A (cl_X10 cI cJ cS a u) sz)) (zXc QX dC dI cI cJ cS (va_A (cl_X10 cI cJ cS a u) sz) (fun z => cl_X10 cI cJ cS a z)) 2 12 (va_A (cl_X10 cI cJ cS a u) sz) := by
  intro sz
  refine z_enterX (Qc := fun A => va_Qi Q (zB dC dI cI cJ cS A (fun z => cl_X10 cI cJ cS a z)) A) (XC := fun A => zXc QX dC dI cI cJ cS A (fun z => cl_X10 cI cJ cS a z)) (cc := cX10_run) (maxL := 5) (ret := (some .int)) (by decide) (Nat.le_of_ble_eq_true rfl) ?_
  intro p e s m below meth c ls A X htb hP hD hS hA hF hl
  obtain ⟨⟨hx, hb, hml, hown, hts⟩, hr, hlk, hK⟩ := id X
  have hl : lv_has ls 5 [(0, .ref (a 0)), (1, .int x1), (2, .int x2)] := hl
  unfold t_X10_run at hf
  refine lv_aload_n hx hb dX10_run_0 rfl (lv_at hl 0 rfl) ?_
  refine lv_iload_n hx hb dX10_run_1 rfl (lv_at hl 1 rfl) ?_
  refine z_xVvO (Wn := (fun u_2 => cl_X10 cI cJ cS a u_2)) (As := [.int x1]) (rest := []) (wr := []) X fro_Fy hF (c_X10_lookAtRun l hlt dC dI cI cJ cS a u x1 _ _ hf _) zc_X10_lookAtRun q_ml_X10_235 ⟨rfl, rfl⟩ ⟨Nat.le_of_ble_eq_true rfl, Nat.le_of_ble_eq_true rfl⟩ hP hD hS hA (List.Perm.refl _) (fun _ => List.Perm.refl _) (Wo := (fun z => cl_X10 cI cJ cS a z)) (fun u_2 => u_2) (fun _ => rfl) htb (fun _ _ h => h) ⟨Nat.le_of_ble_eq_true rfl, Nat.le_of_ble_eq_true rfl⟩ 9 rfl rfl hl.1 rfl rfl (Nat.le_of_ble_eq_true rfl) ⟨Nat.le_of_ble_eq_true rfl, Nat.le_of_ble_eq_true rfl⟩ dX10_run_2 (fun u_2 H locs hf hP hD hS => ?_)
  refine lv_iload_n hx hb dX10_run_5 rfl (lv_at hl 2 rfl) ?_
  refine lv_iconst (v := 4) hx hb dX10_run_6 (by decide) ?_
  refine z_xSvO (Wn := (fun u_4 => cl_X10 cI cJ cS a u_2)) (As := [.int x2, .int (4 : Int32)]) (rest := []) (wr := cl_X10 cI cJ cS a u_2) X fro_Fy hF (c_X10_lookAtWhat l hlt dC dI cI cJ cS   x2 (4 : Int32) _ _ hf _) zc_X10_lookAtWhat q_ml_X10_136 ⟨rfl, rfl⟩ ⟨Nat.le_of_ble_eq_true rfl, Nat.le_of_ble_eq_true rfl⟩ hP hD hS hA (pm_0 _) (fun _ => pm_0 _) (Wo := (fun z => cl_X10 cI cJ cS a z)) (fun u_4 => u_2) (fun _ => rfl) htb (fun _ _ h => h) ⟨Nat.le_of_ble_eq_true rfl, Nat.le_of_ble_eq_true rfl⟩ hl.1 rfl rfl (Nat.le_of_ble_eq_true rfl) ⟨Nat.le_of_ble_eq_true rfl, Nat.le_of_ble_eq_true rfl⟩ dX10_run_7 (fun u_4 H locs hf hP hD hS => ?_)
  refine lv_aload_n hx hb dX10_run_10 rfl (lv_at hl 0 rfl) ?_
  refine va_get (D := (dC, dI)) (ci := 9) (v := .ref (a 1)) (C := RX10) (T := TX10) (N := 9) hx hb hts inX10 hown hK hP 0 rfl rfl 0 (by decide) (hts _ q_fl_X10_10) (fun _ h9 => h9) rfl dX10_run_11 ?_
  refine va_get (D := (dC, dI)) (ci := 4) (v := .ref (a 9)) (C := RX5) (T := TX5) (N := 9) hx hb hts inX5 hown hK hP 1 rfl rfl 3 (by decide) (hts _ q_fl_X10_148) (fun _ h9 => h9) rfl dX10_run_14 ?_
  refine lv_astore_n (lv' := [(3, .ref (a 9)), (0, .ref (a 0)), (1, .int x1), (2, .int x2)]) hx hb dX10_run_17 rfl hl (by decide) rfl (fun ls hl => ?_)
  refine lv_iload_n hx hb dX10_run_18 rfl (lv_at hl 2 rfl) ?_
  refine lv_iconst (v := 1) hx hb dX10_run_19 (by decide) ?_
  refine lv_iadd hx hb dX10_run_20 ?_
  refine lv_topi (fun x_5 ex_5 => ?_)
  have hf := hf x_5 ex_5
  refine lv_istore (lv' := [(4, .int x_5), (3, .ref (a 9)), (0, .ref (a 0)), (1, .int x1), (2, .int x2)]) hx hb dX10_run_21 hl (by decide) rfl (fun ls hl => ?_)
  refine lv_iload_n hx hb dX10_run_23 rfl (lv_at hl 4 rfl) ?_
  by_cases c_6 : x2 = (0 : Int32)
  · have hf := hf.1 c_6
    refine lv_tableIn (off := 32) (tgt := 56) hx hb dX10_run_24 (by rw [c_6]; decide) (by rw [c_6]; decide) (by rw [c_6]; decide) (by decide) ?_
    refine lv_aload_n hx hb dX10_run_56 rfl (lv_at hl 1 rfl) ?_
    refine lv_iload hx hb dX10_run_57 (lv_at hl 0 rfl) ?_
    refine z_cVi (As := [.int x_5]) (rest := []) X (c_X9_sizeOf l dC dI cI cJ cS (fun i => a (9 + i)) u_2.1.2.2.2.1 x_5 _ hf) zc_X9_sizeOf q_ml_X10_238 ⟨rfl, rfl⟩ ⟨Nat.le_of_ble_eq_true rfl, Nat.le_of_ble_eq_true rfl⟩ hP [9, 10, 11] rfl 8 rfl rfl hl.1 rfl rfl (Nat.le_of_ble_eq_true rfl) ⟨Nat.le_of_ble_eq_true rfl, Nat.le_of_ble_eq_true rfl⟩ dX10_run_59 (fun r_7 hf => ?_)
    exact vx_ret (W.widen (k := 2) (n := 12) (Nat.le_of_ble_eq_true rfl) (Nat.le_of_ble_eq_true rfl) (z_retMi (Wf := (fun z => cl_X10 cI cJ cS a z)) (u := u_2) X hf hP hD hS dX10_run_62))
  have hf := hf.2 c_6
  by_cases c_8 : x2 = (1 : Int32)
  · have hf := hf.1 c_8
    refine lv_tableIn (off := 39) (tgt := 63) hx hb dX10_run_24 (by rw [c_8]; decide) (by rw [c_8]; decide) (by rw [c_8]; decide) (by decide) ?_
    refine lv_aload_n hx hb dX10_run_63 rfl (lv_at hl 1 rfl) ?_
    refine lv_iload hx hb dX10_run_64 (lv_at hl 0 rfl) ?_
    refine lv_iconst (v := 0) hx hb dX10_run_66 (by decide) ?_
    refine z_cVi (As := [.int x_5, .int (0 : Int32)]) (rest := []) X (c_X9_keyAt l dC dI cI cJ cS (fun i => a (9 + i)) u_2.1.2.2.2.1 x_5 (0 : Int32) _ hf) zc_X9_keyAt q_ml_X10_241 ⟨rfl, rfl⟩ ⟨Nat.le_of_ble_eq_true rfl, Nat.le_of_ble_eq_true rfl⟩ hP [9, 10, 11] rfl 8 rfl rfl hl.1 rfl rfl (Nat.le_of_ble_eq_true rfl) ⟨Nat.le_of_ble_eq_true rfl, Nat.le_of_ble_eq_true rfl⟩ dX10_run_67 (fun r_9 hf => ?_)
    exact vx_ret (W.widen (k := 2) (n := 12) (Nat.le_of_ble_eq_true rfl) (Nat.le_of_ble_eq_true rfl) (z_retMi (Wf := (fun z => cl_X10 cI cJ cS a z)) (u := u_2) X hf hP hD hS dX10_run_70))
  have hf := hf.2 c_8
  by_cases c_10 : x2 = (2 : Int32)
  · have hf := hf.1 c_10
    refine lv_tableIn (off := 47) (tgt := 71) hx hb dX10_run_24 (by rw [c_10]; decide) (by rw [c_10]; decide) (by rw [c_10]; decide) (by decide) ?_
    refine lv_aload_n hx hb dX10_run_71 rfl (lv_at hl 1 rfl) ?_
    refine lv_iload hx hb dX10_run_72 (lv_at hl 0 rfl) ?_
    refine lv_aload_n hx hb dX10_run_74 rfl (lv_at hl 1 rfl) ?_
    refine lv_iload hx hb dX10_run_75 (lv_at hl 0 rfl) ?_
    refine z_cVi (As := [.int x_5]) (rest := [.int x_5, .ref (a 9)]) X (c_X9_sizeOf l dC dI cI cJ cS (fun i => a (9 + i)) u_2.1.2.2.2.1 x_5 _ hf) zc_X9_sizeOf q_ml_X10_238 ⟨rfl, rfl⟩ ⟨Nat.le_of_ble_eq_true rfl, Nat.le_of_ble_eq_true rfl⟩ hP [9, 10, 11] rfl 8 rfl rfl hl.1 rfl rfl (Nat.le_of_ble_eq_true rfl) ⟨Nat.le_of_ble_eq_true rfl, Nat.le_of_ble_eq_true rfl⟩ dX10_run_77 (fun r_11 hf => ?_)
    refine lv_iconst (v := 1) hx hb dX10_run_80 (by decide) ?_
    refine lv_isub hx hb dX10_run_81 ?_
    refine z_cVi (As := [.int x_5, .int (r_11 - (1 : Int32))]) (rest := []) X (c_X9_keyAt l dC dI cI cJ cS (fun i => a (9 + i)) u_2.1.2.2.2.1 x_5 (r_11 - (1 : Int32)) _ hf) zc_X9_keyAt q_ml_X10_241 ⟨rfl, rfl⟩ ⟨Nat.le_of_ble_eq_true rfl, Nat.le_of_ble_eq_true rfl⟩ hP [9, 10, 11] rfl 8 rfl rfl hl.1 rfl rfl (Nat.le_of_ble_eq_true rfl) ⟨Nat.le_of_ble_eq_true rfl, Nat.le_of_ble_eq_true rfl⟩ dX10_run_82 (fun r_12 hf => ?_)
    exact vx_ret (W.widen (k := 2) (n := 12) (Nat.le_of_ble_eq_true rfl) (Nat.le_of_ble_eq_true rfl) (z_retMi (Wf := (fun z => cl_X10 cI cJ cS a z)) (u := u_2) X hf hP hD hS dX10_run_85))
  have hf := hf.2 c_10
  by_cases c_13 : x2 = (3 : Int32)
  · have hf := hf.1 c_13
    refine lv_tableIn (off := 62) (tgt := 86) hx hb dX10_run_24 (by rw [c_13]; decide) (by rw [c_13]; decide) (by rw [c_13]; decide) (by decide) ?_
    refine lv_aload_n hx hb dX10_run_86 rfl (lv_at hl 1 rfl) ?_
    refine lv_iload hx hb dX10_run_87 (lv_at hl 0 rfl) ?_
    refine z_cVi (As := [.int x_5]) (rest := []) X (c_X9_dropsOf l dC dI cI cJ cS (fun i => a (9 + i)) u_2.1.2.2.2.1 x_5 _ hf) zc_X9_dropsOf q_ml_X10_245 ⟨rfl, rfl⟩ ⟨Nat.le_of_ble_eq_true rfl, Nat.le_of_ble_eq_true rfl⟩ hP [9, 10, 11] rfl 8 rfl rfl hl.1 rfl rfl (Nat.le_of_ble_eq_true rfl) ⟨Nat.le_of_ble_eq_true rfl, Nat.le_of_ble_eq_true rfl⟩ dX10_run_89 (fun r_14 hf => ?_)
    exact vx_ret (W.widen (k := 2) (n := 12) (Nat.le_of_ble_eq_true rfl) (Nat.le_of_ble_eq_true rfl) (z_retMi (Wf := (fun z => cl_X10 cI cJ cS a z)) (u := u_2) X hf hP hD hS dX10_run_92))
  have hf := hf.2 c_13
  refine lv_tableOut (tgt := 93) hx hb dX10_run_24 (by have q0 : ¬ x2.toInt = (0 : Int) := fun h => c_6 (Int32.toInt_inj.mp (show x2.toInt = (0 : Int32).toInt from h)); have q1 : ¬ x2.toInt = (1 : Int) := fun h => c_8 (Int32.toInt_inj.mp (show x2.toInt = (1 : Int32).toInt from h)); have q2 : ¬ x2.toInt = (2 : Int) := fun h => c_10 (Int32.toInt_inj.mp (show x2.toInt = (2 : Int32).toInt from h)); have q3 : ¬ x2.toInt = (3 : Int) := fun h => c_13 (Int32.toInt_inj.mp (show x2.toInt = (3 : Int32).toInt from h)); omega) (by decide) ?_
  refine lv_aload_n hx hb dX10_run_93 rfl (lv_at hl 1 rfl) ?_
  refine lv_iload hx hb dX10_run_94 (lv_at hl 0 rfl) ?_
  refine z_cVi (As := [.int x_5]) (rest := []) X (c_X9_currentsOf l dC dI cI cJ cS (fun i => a (9 + i)) u_2.1.2.2.2.1 x_5 _ hf) zc_X9_currentsOf q_ml_X10_248 ⟨rfl, rfl⟩ ⟨Nat.le_of_ble_eq_true rfl, Nat.le_of_ble_eq_true rfl⟩ hP [9, 10, 11] rfl 8 rfl rfl hl.1 rfl rfl (Nat.le_of_ble_eq_true rfl) ⟨Nat.le_of_ble_eq_true rfl, Nat.le_of_ble_eq_true rfl⟩ dX10_run_96 (fun r_15 hf => ?_)
  exact vx_ret (W.widen (k := 2) (n := 12) (Nat.le_of_ble_eq_true rfl) (Nat.le_of_ble_eq_true rfl) (z_retMi (Wf := (fun z => cl_X10 cI cJ cS a z)) (u := u_2) X hf hP hD hS dX10_run_99))
def s_X10_run (u : zCls) (x1 : Int32) (x2 : Int32) (Q : Int32 → zCls → Prop) (QX : String → zCls → Prop) : Prop := cAsk u (fun v => fRun v x1 x2) (exO 2 3 3) Q QX
theorem st_X10_run {u : zCls} {x1 x2 : Int32} {Q : Int32 → zCls → Prop} {QX : String → zCls → Prop} (h : s_X10_run u x1 x2 Q QX) : t_X10_run u x1 x2 Q QX := by
  obtain ⟨B, G, hG, hB, hc, hQ⟩ := h
  obtain ⟨v, ev⟩ : ∃ v, v = gNow G := ⟨_, rfl⟩
  rw [← ev] at hQ
  have hv : okB B v := by rw [ev]; exact hG.1
  have ho := hv.ok
  have c1 : u.1 = v := by rw [ev]; exact hc.1
  dsimp only at hQ
  unfold fRun at hQ
  refine lookRun_of ho c1 (fun i1 => lookWhat_of (fun i2 x ex => ?_) (fun i2 => ?_)) (fun i1 => ?_)
  · rw [if_pos i1, if_pos i2] at hQ
    obtain ⟨n, hn, rfl, en⟩ := run_n ho i1
    rw [en] at hQ
    have hQ := (hQ u hc).1 rfl
    dsimp only at hQ
    have hr := hv.rl
    have es := hv.siz (l := n + 1) (by omega)
    rw [nI_1] at ex
    subst ex
    unfold aRun at hQ
    rw [c1]
    refine ⟨fun d => ⟨n + 1, by omega, rfl, by rw [if_pos d] at hQ; rw [es]; exact hQ⟩, fun d => ?_⟩
    rw [if_neg d] at hQ
    refine ⟨fun d => ⟨n + 1, by omega, rfl, by rw [if_pos d] at hQ; rw [nth_0 _ _ (by decide)]; exact hQ⟩, fun d => ?_⟩
    rw [if_neg d] at hQ
    refine ⟨fun d => ⟨n + 1, by omega, rfl, n + 1, by omega, rfl, by rw [if_pos d] at hQ; rw [es, nth_last _ 64 (by decide)]; exact hQ⟩, fun d => ?_⟩
    rw [if_neg d] at hQ
    refine ⟨fun d => ⟨n + 1, by omega, rfl, by rw [if_pos d] at hQ; exact hQ⟩, fun d => ⟨rN v, ho.2.1.2, ho.r, by rw [if_neg d] at hQ; exact hQ⟩⟩
  · rw [if_pos i1, if_neg i2] at hQ
    exact (hQ u hc).2 (show ¬ (2 : Int32) = 0 by decide)
  · rw [if_neg i1] at hQ
    exact (hQ u hc).2 (show ¬ (1 : Int32) = 0 by decide)
theorem c_X10_run (l : Launch) (hlt : l.stackTraces = false) (dC : Nat → ClassId) (dI : Nat → Nat → Nat) (cI cJ cS : ClassId) (a : Nat → Nat) (u : zCls) (x1 : Int32) (x2 : Int32) (Q : Int32 → zCls → Prop) (QX : String → zCls → Prop) (hf : s_X10_run u x1 x2 Q QX) : ∀ sz : Nat, vx_Met l yX10_run (Cond.code yX10_run cX10_run 5 (some .int) :: zT) rm_X10_run (zPmF zFy dC dI cI cJ cS (cl_X10 cI cJ cS a u) [.ref (a 0), .int x1, .int x2] sz) (va_Qi Q (zB dC dI cI cJ cS (va_A (cl_X10 cI cJ cS a u) sz) (fun z => cl_X10 cI cJ cS a z)) (va_A (cl_X10 cI cJ cS a u) sz)) (zXc QX dC dI cI cJ cS (va_A (cl_X10 cI cJ cS a u) sz) (fun z => cl_X10 cI cJ cS a z)) 2 12 (va_A (cl_X10 cI cJ cS a u) sz) := L_X10_run l hlt dC dI cI cJ cS a u x1 x2 Q QX (st_X10_run hf)

def t_X10_entry (u : zCls) (x1 : Int32) (x2 : Int32) (Q : Int32 → zCls → Prop) (QX : String → zCls → Prop) : Prop := ((x1 = (-1 : Int32) → s_X9_keyAt u.1.2.2.2.1 (x1 + (1 : Int32)) x2 (fun r_2 : Int32 => Q r_2 u)) ∧ (¬ x1 = (-1 : Int32) → s_X10_lookAtRun u x1 (fun (u_4 : zCls) => s_X9_keyAt u_4.1.2.2.2.1 (x1 + (1 : Int32)) x2 (fun r_5 : Int32 => Q r_5 u_4)) (fun (E : String) (u_4 : zCls) => QX E u_4)))
theorem zc_X10_entry : zCalV RX10 yX10_entry cX10_entry 3 (some .int) 2 := ⟨q_im_X10_entry, q_se_X10_entry, q_in_X10, q_cd_X10_entry, ⟨by decide, by decide, by decide +kernel⟩, rfl⟩
abbrev rm_X10_entry : Room := { frames := 7, cells := 1, slots := 6, locals := 111 }
set_option maxHeartbeats 4000000 in
set_option maxRecDepth 100000 in
theorem L_X10_entry (l : Launch) (hlt : l.stackTraces = false) (dC : Nat → ClassId) (dI : Nat → Nat → Nat) (cI cJ cS : ClassId) (a : Nat → Nat) (u : zCls) (x1 : Int32) (x2 : Int32) (Q : Int32 → zCls → Prop) (QX : String → zCls → Prop) (hf : t_X10_entry u x1 x2 Q QX) : ∀ sz : Nat, vx_Met l yX10_entry (Cond.code yX10_entry cX10_entry 3 (some .int) :: zT) rm_X10_entry (zPmF zFy dC dI cI cJ cS (cl_X10 cI cJ cS a u) [.ref (a 0), .int x1, .int x2] sz) (va_Qi Q (zB dC dI cI cJ cS (va_A (cl_X10 cI cJ cS a u) sz) (fun z => cl_X10 cI cJ cS a z)) (va_A (cl_X10 cI cJ cS a u) sz)) (zXc QX dC dI cI cJ cS (va_A (cl_X10 cI cJ cS a u) sz) (fun z => cl_X10 cI cJ cS a z)) 1 6 (va_A (cl_X10 cI cJ cS a u) sz) := by
  intro sz
  refine z_enterX (Qc := fun A => va_Qi Q (zB dC dI cI cJ cS A (fun z => cl_X10 cI cJ cS a z)) A) (XC := fun A => zXc QX dC dI cI cJ cS A (fun z => cl_X10 cI cJ cS a z)) (cc := cX10_entry) (maxL := 3) (ret := (some .int)) (by decide) (Nat.le_of_ble_eq_true rfl) ?_
  intro p e s m below meth c ls A X htb hP hD hS hA hF hl
  obtain ⟨⟨hx, hb, hml, hown, hts⟩, hr, hlk, hK⟩ := id X
  have hl : lv_has ls 3 [(0, .ref (a 0)), (1, .int x1), (2, .int x2)] := hl
  unfold t_X10_entry at hf
  refine lv_iload_n hx hb dX10_entry_0 rfl (lv_at hl 1 rfl) ?_
  refine lv_iconst (v := (-1)) hx hb dX10_entry_1 (by decide) ?_
  refine lv_icmp_eq (tgt := 10) hx hb dX10_entry_2 (by decide) (fun c_1 => ?_) (fun c_1 => ?_)
  · have hf := hf.1 c_1
    refine lv_aload_n hx hb dX10_entry_10 rfl (lv_at hl 0 rfl) ?_
    refine va_get (D := (dC, dI)) (ci := 9) (v := .ref (a 1)) (C := RX10) (T := TX10) (N := 9) hx hb hts inX10 hown hK hP 0 rfl rfl 0 (by decide) (hts _ q_fl_X10_10) (fun _ h9 => h9) rfl dX10_entry_11 ?_
    refine va_get (D := (dC, dI)) (ci := 4) (v := .ref (a 9)) (C := RX5) (T := TX5) (N := 9) hx hb hts inX5 hown hK hP 1 rfl rfl 3 (by decide) (hts _ q_fl_X10_148) (fun _ h9 => h9) rfl dX10_entry_14 ?_
    refine lv_iload_n hx hb dX10_entry_17 rfl (lv_at hl 1 rfl) ?_
    refine lv_iconst (v := 1) hx hb dX10_entry_18 (by decide) ?_
    refine lv_iadd hx hb dX10_entry_19 ?_
    refine lv_iload_n hx hb dX10_entry_20 rfl (lv_at hl 2 rfl) ?_
    refine z_cVi (As := [.int (x1 + (1 : Int32)), .int x2]) (rest := []) X (c_X9_keyAt l dC dI cI cJ cS (fun i => a (9 + i)) u.1.2.2.2.1 (x1 + (1 : Int32)) x2 _ hf) zc_X9_keyAt q_ml_X10_241 ⟨rfl, rfl⟩ ⟨Nat.le_of_ble_eq_true rfl, Nat.le_of_ble_eq_true rfl⟩ hP [9, 10, 11] rfl 8 rfl rfl hl.1 rfl rfl (Nat.le_of_ble_eq_true rfl) ⟨Nat.le_of_ble_eq_true rfl, Nat.le_of_ble_eq_true rfl⟩ dX10_entry_21 (fun r_2 hf => ?_)
    exact vx_ret (W.widen (k := 1) (n := 6) (Nat.le_of_ble_eq_true rfl) (Nat.le_of_ble_eq_true rfl) (z_retMi (Wf := (fun z => cl_X10 cI cJ cS a z)) (u := u) X hf hP hD hS dX10_entry_24))
  · have hf := hf.2 c_1
    refine lv_aload_n hx hb dX10_entry_5 rfl (lv_at hl 0 rfl) ?_
    refine lv_iload_n hx hb dX10_entry_6 rfl (lv_at hl 1 rfl) ?_
    refine z_xVvO (Wn := (fun u_4 => cl_X10 cI cJ cS a u_4)) (As := [.int x1]) (rest := []) (wr := []) X fro_Fy hF (c_X10_lookAtRun l hlt dC dI cI cJ cS a u x1 _ _ hf _) zc_X10_lookAtRun q_ml_X10_235 ⟨rfl, rfl⟩ ⟨Nat.le_of_ble_eq_true rfl, Nat.le_of_ble_eq_true rfl⟩ hP hD hS hA (List.Perm.refl _) (fun _ => List.Perm.refl _) (Wo := (fun z => cl_X10 cI cJ cS a z)) (fun u_4 => u_4) (fun _ => rfl) htb (fun _ _ h => h) ⟨Nat.le_of_ble_eq_true rfl, Nat.le_of_ble_eq_true rfl⟩ 9 rfl rfl hl.1 rfl rfl (Nat.le_of_ble_eq_true rfl) ⟨Nat.le_of_ble_eq_true rfl, Nat.le_of_ble_eq_true rfl⟩ dX10_entry_7 (fun u_4 H locs hf hP hD hS => ?_)
    refine lv_aload_n hx hb dX10_entry_10 rfl (lv_at hl 0 rfl) ?_
    refine va_get (D := (dC, dI)) (ci := 9) (v := .ref (a 1)) (C := RX10) (T := TX10) (N := 9) hx hb hts inX10 hown hK hP 0 rfl rfl 0 (by decide) (hts _ q_fl_X10_10) (fun _ h9 => h9) rfl dX10_entry_11 ?_
    refine va_get (D := (dC, dI)) (ci := 4) (v := .ref (a 9)) (C := RX5) (T := TX5) (N := 9) hx hb hts inX5 hown hK hP 1 rfl rfl 3 (by decide) (hts _ q_fl_X10_148) (fun _ h9 => h9) rfl dX10_entry_14 ?_
    refine lv_iload_n hx hb dX10_entry_17 rfl (lv_at hl 1 rfl) ?_
    refine lv_iconst (v := 1) hx hb dX10_entry_18 (by decide) ?_
    refine lv_iadd hx hb dX10_entry_19 ?_
    refine lv_iload_n hx hb dX10_entry_20 rfl (lv_at hl 2 rfl) ?_
    refine z_cVi (As := [.int (x1 + (1 : Int32)), .int x2]) (rest := []) X (c_X9_keyAt l dC dI cI cJ cS (fun i => a (9 + i)) u_4.1.2.2.2.1 (x1 + (1 : Int32)) x2 _ hf) zc_X9_keyAt q_ml_X10_241 ⟨rfl, rfl⟩ ⟨Nat.le_of_ble_eq_true rfl, Nat.le_of_ble_eq_true rfl⟩ hP [9, 10, 11] rfl 8 rfl rfl hl.1 rfl rfl (Nat.le_of_ble_eq_true rfl) ⟨Nat.le_of_ble_eq_true rfl, Nat.le_of_ble_eq_true rfl⟩ dX10_entry_21 (fun r_5 hf => ?_)
    exact vx_ret (W.widen (k := 1) (n := 6) (Nat.le_of_ble_eq_true rfl) (Nat.le_of_ble_eq_true rfl) (z_retMi (Wf := (fun z => cl_X10 cI cJ cS a z)) (u := u_4) X hf hP hD hS dX10_entry_24))
def s_X10_entry (u : zCls) (x1 : Int32) (x2 : Int32) (Q : Int32 → zCls → Prop) (QX : String → zCls → Prop) : Prop := cAsk u (fun v => fEntry v x1 x2) (exO 2 2 2) Q QX
theorem st_X10_entry {u : zCls} {x1 x2 : Int32} {Q : Int32 → zCls → Prop} {QX : String → zCls → Prop} (h : s_X10_entry u x1 x2 Q QX) : t_X10_entry u x1 x2 Q QX := by
  obtain ⟨B, G, hG, hB, hc, hQ⟩ := h
  obtain ⟨v, ev⟩ : ∃ v, v = gNow G := ⟨_, rfl⟩
  rw [← ev] at hQ
  have hv : okB B v := by rw [ev]; exact hG.1
  have ho := hv.ok
  have c1 : u.1 = v := by rw [ev]; exact hc.1
  dsimp only at hQ
  unfold fEntry at hQ
  refine ⟨fun d => ?_, fun d => lookRun_of ho c1 (fun i1 => ?_) (fun i1 => ?_)⟩
  · rw [if_pos d] at hQ
    have hQ := (hQ u hc).1 rfl
    dsimp only at hQ
    rw [d, c1]
    exact ⟨0, by decide, by decide, hQ⟩
  · rw [if_neg d, if_pos i1] at hQ
    obtain ⟨n, hn, rfl, en⟩ := run_n ho i1
    rw [en] at hQ
    have hr := hv.rl
    have hQ := (hQ u hc).1 rfl
    dsimp only at hQ
    rw [c1]
    exact ⟨n + 1, by omega, nI_1 n, hQ⟩
  · rw [if_neg d, if_neg i1] at hQ
    exact (hQ u hc).2 (show ¬ (1 : Int32) = 0 by decide)
theorem c_X10_entry (l : Launch) (hlt : l.stackTraces = false) (dC : Nat → ClassId) (dI : Nat → Nat → Nat) (cI cJ cS : ClassId) (a : Nat → Nat) (u : zCls) (x1 : Int32) (x2 : Int32) (Q : Int32 → zCls → Prop) (QX : String → zCls → Prop) (hf : s_X10_entry u x1 x2 Q QX) : ∀ sz : Nat, vx_Met l yX10_entry (Cond.code yX10_entry cX10_entry 3 (some .int) :: zT) rm_X10_entry (zPmF zFy dC dI cI cJ cS (cl_X10 cI cJ cS a u) [.ref (a 0), .int x1, .int x2] sz) (va_Qi Q (zB dC dI cI cJ cS (va_A (cl_X10 cI cJ cS a u) sz) (fun z => cl_X10 cI cJ cS a z)) (va_A (cl_X10 cI cJ cS a u) sz)) (zXc QX dC dI cI cJ cS (va_A (cl_X10 cI cJ cS a u) sz) (fun z => cl_X10 cI cJ cS a z)) 1 6 (va_A (cl_X10 cI cJ cS a u) sz) := L_X10_entry l hlt dC dI cI cJ cS a u x1 x2 Q QX (st_X10_entry hf)

def t_X10_overlap (u : zCls) (x1 : Int32) (x2 : Int32) (Q : Int32 → zCls → Prop) (QX : String → zCls → Prop) : Prop := s_X10_lookAtRun u x1 (fun (u_2 : zCls) => s_X10_lookAtRun u_2 x2 (fun (u_4 : zCls) => ((¬ x1 = x2 → s_X9_overlapOf u_4.1.2.2.2.1 (x1 + (1 : Int32)) (x2 + (1 : Int32)) (fun r_6 : Int32 => Q r_6 u_4)) ∧ (x1 = x2 → QX "java/lang/IllegalArgumentException" u_4))) (fun (E : String) (u_4 : zCls) => QX E u_4)) (fun (E : String) (u_2 : zCls) => QX E u_2)
theorem zc_X10_overlap : zCalV RX10 yX10_overlap cX10_overlap 3 (some .int) 2 := ⟨q_im_X10_overlap, q_se_X10_overlap, q_in_X10, q_cd_X10_overlap, ⟨by decide, by decide, by decide +kernel⟩, rfl⟩
abbrev rm_X10_overlap : Room := { frames := 7, cells := 3, slots := 18, locals := 111 }
set_option maxHeartbeats 4000000 in
set_option maxRecDepth 100000 in
theorem L_X10_overlap (l : Launch) (hlt : l.stackTraces = false) (dC : Nat → ClassId) (dI : Nat → Nat → Nat) (cI cJ cS : ClassId) (a : Nat → Nat) (u : zCls) (x1 : Int32) (x2 : Int32) (Q : Int32 → zCls → Prop) (QX : String → zCls → Prop) (hf : t_X10_overlap u x1 x2 Q QX) : ∀ sz : Nat, vx_Met l yX10_overlap (Cond.code yX10_overlap cX10_overlap 3 (some .int) :: zT) rm_X10_overlap (zPmF zFy dC dI cI cJ cS (cl_X10 cI cJ cS a u) [.ref (a 0), .int x1, .int x2] sz) (va_Qi Q (zB dC dI cI cJ cS (va_A (cl_X10 cI cJ cS a u) sz) (fun z => cl_X10 cI cJ cS a z)) (va_A (cl_X10 cI cJ cS a u) sz)) (zXc QX dC dI cI cJ cS (va_A (cl_X10 cI cJ cS a u) sz) (fun z => cl_X10 cI cJ cS a z)) 3 18 (va_A (cl_X10 cI cJ cS a u) sz) := by
  intro sz
  refine z_enterX (Qc := fun A => va_Qi Q (zB dC dI cI cJ cS A (fun z => cl_X10 cI cJ cS a z)) A) (XC := fun A => zXc QX dC dI cI cJ cS A (fun z => cl_X10 cI cJ cS a z)) (cc := cX10_overlap) (maxL := 3) (ret := (some .int)) (by decide) (Nat.le_of_ble_eq_true rfl) ?_
  intro p e s m below meth c ls A X htb hP hD hS hA hF hl
  obtain ⟨⟨hx, hb, hml, hown, hts⟩, hr, hlk, hK⟩ := id X
  have hl : lv_has ls 3 [(0, .ref (a 0)), (1, .int x1), (2, .int x2)] := hl
  unfold t_X10_overlap at hf
  refine lv_aload_n hx hb dX10_overlap_0 rfl (lv_at hl 0 rfl) ?_
  refine lv_iload_n hx hb dX10_overlap_1 rfl (lv_at hl 1 rfl) ?_
  refine z_xVvO (Wn := (fun u_2 => cl_X10 cI cJ cS a u_2)) (As := [.int x1]) (rest := []) (wr := []) X fro_Fy hF (c_X10_lookAtRun l hlt dC dI cI cJ cS a u x1 _ _ hf _) zc_X10_lookAtRun q_ml_X10_235 ⟨rfl, rfl⟩ ⟨Nat.le_of_ble_eq_true rfl, Nat.le_of_ble_eq_true rfl⟩ hP hD hS hA (List.Perm.refl _) (fun _ => List.Perm.refl _) (Wo := (fun z => cl_X10 cI cJ cS a z)) (fun u_2 => u_2) (fun _ => rfl) htb (fun _ _ h => h) ⟨Nat.le_of_ble_eq_true rfl, Nat.le_of_ble_eq_true rfl⟩ 9 rfl rfl hl.1 rfl rfl (Nat.le_of_ble_eq_true rfl) ⟨Nat.le_of_ble_eq_true rfl, Nat.le_of_ble_eq_true rfl⟩ dX10_overlap_2 (fun u_2 H locs hf hP hD hS => ?_)
  refine lv_aload_n hx hb dX10_overlap_5 rfl (lv_at hl 0 rfl) ?_
  refine lv_iload_n hx hb dX10_overlap_6 rfl (lv_at hl 2 rfl) ?_
  refine z_xVvO (Wn := (fun u_4 => cl_X10 cI cJ cS a u_4)) (As := [.int x2]) (rest := []) (wr := []) X fro_Fy hF (c_X10_lookAtRun l hlt dC dI cI cJ cS a u_2 x2 _ _ hf _) zc_X10_lookAtRun q_ml_X10_235 ⟨rfl, rfl⟩ ⟨Nat.le_of_ble_eq_true rfl, Nat.le_of_ble_eq_true rfl⟩ hP hD hS hA (List.Perm.refl _) (fun _ => List.Perm.refl _) (Wo := (fun z => cl_X10 cI cJ cS a z)) (fun u_4 => u_4) (fun _ => rfl) htb (fun _ _ h => h) ⟨Nat.le_of_ble_eq_true rfl, Nat.le_of_ble_eq_true rfl⟩ 9 rfl rfl hl.1 rfl rfl (Nat.le_of_ble_eq_true rfl) ⟨Nat.le_of_ble_eq_true rfl, Nat.le_of_ble_eq_true rfl⟩ dX10_overlap_7 (fun u_4 H locs hf hP hD hS => ?_)
  refine lv_iload_n hx hb dX10_overlap_10 rfl (lv_at hl 1 rfl) ?_
  refine lv_iload_n hx hb dX10_overlap_11 rfl (lv_at hl 2 rfl) ?_
  refine lv_icmp_ne (tgt := 25) hx hb dX10_overlap_12 (by decide) (fun c_5 => ?_) (fun c_5 => ?_)
  · have hf := hf.1 c_5
    refine lv_aload_n hx hb dX10_overlap_25 rfl (lv_at hl 0 rfl) ?_
    refine va_get (D := (dC, dI)) (ci := 9) (v := .ref (a 1)) (C := RX10) (T := TX10) (N := 9) hx hb hts inX10 hown hK hP 0 rfl rfl 0 (by decide) (hts _ q_fl_X10_10) (fun _ h9 => h9) rfl dX10_overlap_26 ?_
    refine va_get (D := (dC, dI)) (ci := 4) (v := .ref (a 9)) (C := RX5) (T := TX5) (N := 9) hx hb hts inX5 hown hK hP 1 rfl rfl 3 (by decide) (hts _ q_fl_X10_148) (fun _ h9 => h9) rfl dX10_overlap_29 ?_
    refine lv_iload_n hx hb dX10_overlap_32 rfl (lv_at hl 1 rfl) ?_
    refine lv_iconst (v := 1) hx hb dX10_overlap_33 (by decide) ?_
    refine lv_iadd hx hb dX10_overlap_34 ?_
    refine lv_iload_n hx hb dX10_overlap_35 rfl (lv_at hl 2 rfl) ?_
    refine lv_iconst (v := 1) hx hb dX10_overlap_36 (by decide) ?_
    refine lv_iadd hx hb dX10_overlap_37 ?_
    refine z_cVi (As := [.int (x1 + (1 : Int32)), .int (x2 + (1 : Int32))]) (rest := []) X (c_X9_overlapOf l dC dI cI cJ cS (fun i => a (9 + i)) u_4.1.2.2.2.1 (x1 + (1 : Int32)) (x2 + (1 : Int32)) _ hf) zc_X9_overlapOf q_ml_X10_253 ⟨rfl, rfl⟩ ⟨Nat.le_of_ble_eq_true rfl, Nat.le_of_ble_eq_true rfl⟩ hP [9, 10, 11] rfl 8 rfl rfl hl.1 rfl rfl (Nat.le_of_ble_eq_true rfl) ⟨Nat.le_of_ble_eq_true rfl, Nat.le_of_ble_eq_true rfl⟩ dX10_overlap_38 (fun r_6 hf => ?_)
    exact vx_ret (W.widen (k := 3) (n := 18) (Nat.le_of_ble_eq_true rfl) (Nat.le_of_ble_eq_true rfl) (z_retMi (Wf := (fun z => cl_X10 cI cJ cS a z)) (u := u_4) X hf hP hD hS dX10_overlap_41))
  · have hf := hf.2 c_5
    exact z_thrS (Wf := (fun z => cl_X10 cI cJ cS a z)) (u := u_4) 0 (by decide) 6 X hlt hF.2.2.2 htb hf hP hD hS hl.1 dX10_overlap_15 dX10_overlap_18 dX10_overlap_19 dX10_overlap_21 dX10_overlap_24 ⟨Nat.le_of_ble_eq_true rfl, Nat.le_of_ble_eq_true rfl⟩ ⟨Nat.le_of_ble_eq_true rfl, Nat.le_of_ble_eq_true rfl⟩ ⟨Nat.le_of_ble_eq_true rfl, Nat.le_of_ble_eq_true rfl⟩
def s_X10_overlap (u : zCls) (x1 : Int32) (x2 : Int32) (Q : Int32 → zCls → Prop) (QX : String → zCls → Prop) : Prop := cAsk u (fun v => fOverlap v x1 x2) (exO 2 0 0) Q QX
theorem st_X10_overlap {u : zCls} {x1 x2 : Int32} {Q : Int32 → zCls → Prop} {QX : String → zCls → Prop} (h : s_X10_overlap u x1 x2 Q QX) : t_X10_overlap u x1 x2 Q QX := by
  obtain ⟨B, G, hG, hB, hc, hQ⟩ := h
  obtain ⟨v, ev⟩ : ∃ v, v = gNow G := ⟨_, rfl⟩
  rw [← ev] at hQ
  have hv : okB B v := by rw [ev]; exact hG.1
  have ho := hv.ok
  have c1 : u.1 = v := by rw [ev]; exact hc.1
  dsimp only at hQ
  unfold fOverlap at hQ
  have no : ¬ (isRn v x1 ∧ isRn v x2) → QX "java/lang/IndexOutOfBoundsException" u := fun q => by
    rw [if_neg q] at hQ
    exact (hQ u hc).2 (show ¬ (1 : Int32) = 0 by decide)
  refine lookRun_of ho c1 (fun i1 => lookRun_of ho c1 (fun i2 => ⟨fun d => ?_, fun d => ?_⟩) (fun i2 => no (fun q => i2 q.2))) (fun i1 => no (fun q => i1 q.1))
  · rw [if_pos ⟨i1, i2⟩, if_neg d] at hQ
    obtain ⟨n, hn, rfl, en⟩ := run_n ho i1
    obtain ⟨j, hj, rfl, ej⟩ := run_n ho i2
    rw [en, ej] at hQ
    have hr := hv.rl
    rw [c1]
    exact ⟨n + 1, j + 1, by omega, by omega, nI_1 n, nI_1 j, (hQ u hc).1 rfl⟩
  · rw [if_pos ⟨i1, i2⟩, if_pos d] at hQ
    exact (hQ u hc).2 (show ¬ (2 : Int32) = 0 by decide)
theorem c_X10_overlap (l : Launch) (hlt : l.stackTraces = false) (dC : Nat → ClassId) (dI : Nat → Nat → Nat) (cI cJ cS : ClassId) (a : Nat → Nat) (u : zCls) (x1 : Int32) (x2 : Int32) (Q : Int32 → zCls → Prop) (QX : String → zCls → Prop) (hf : s_X10_overlap u x1 x2 Q QX) : ∀ sz : Nat, vx_Met l yX10_overlap (Cond.code yX10_overlap cX10_overlap 3 (some .int) :: zT) rm_X10_overlap (zPmF zFy dC dI cI cJ cS (cl_X10 cI cJ cS a u) [.ref (a 0), .int x1, .int x2] sz) (va_Qi Q (zB dC dI cI cJ cS (va_A (cl_X10 cI cJ cS a u) sz) (fun z => cl_X10 cI cJ cS a z)) (va_A (cl_X10 cI cJ cS a u) sz)) (zXc QX dC dI cI cJ cS (va_A (cl_X10 cI cJ cS a u) sz) (fun z => cl_X10 cI cJ cS a z)) 3 18 (va_A (cl_X10 cI cJ cS a u) sz) := L_X10_overlap l hlt dC dI cI cJ cS a u x1 x2 Q QX (st_X10_overlap hf)

def t_X10_log (u : zCls) (x1 : Int32) (x2 : Int32) (Q : Int32 → zCls → Prop) (QX : String → zCls → Prop) : Prop := s_X10_lookAtWhat x2 (2 : Int32) (fun (u_2 : Unit) => s_X2_told u.1.2.2.2.2.2.1 x1 x2 (fun r_3 : Int32 => Q r_3 u)) (fun (E : String) (u_2 : Unit) => QX E u)
theorem zc_X10_log : zCalV RX10 yX10_log cX10_log 3 (some .int) 2 := ⟨q_im_X10_log, q_se_X10_log, q_in_X10, q_cd_X10_log, ⟨by decide, by decide, by decide +kernel⟩, rfl⟩
abbrev rm_X10_log : Room := { frames := 7, cells := 1, slots := 6, locals := 111 }
set_option maxHeartbeats 4000000 in
set_option maxRecDepth 100000 in
theorem L_X10_log (l : Launch) (hlt : l.stackTraces = false) (dC : Nat → ClassId) (dI : Nat → Nat → Nat) (cI cJ cS : ClassId) (a : Nat → Nat) (u : zCls) (x1 : Int32) (x2 : Int32) (Q : Int32 → zCls → Prop) (QX : String → zCls → Prop) (hf : t_X10_log u x1 x2 Q QX) : ∀ sz : Nat, vx_Met l yX10_log (Cond.code yX10_log cX10_log 3 (some .int) :: zT) rm_X10_log (zPmF zFy dC dI cI cJ cS (cl_X10 cI cJ cS a u) [.ref (a 0), .int x1, .int x2] sz) (va_Qi Q (zB dC dI cI cJ cS (va_A (cl_X10 cI cJ cS a u) sz) (fun z => cl_X10 cI cJ cS a z)) (va_A (cl_X10 cI cJ cS a u) sz)) (zXc QX dC dI cI cJ cS (va_A (cl_X10 cI cJ cS a u) sz) (fun z => cl_X10 cI cJ cS a z)) 1 6 (va_A (cl_X10 cI cJ cS a u) sz) := by
  intro sz
  refine z_enterX (Qc := fun A => va_Qi Q (zB dC dI cI cJ cS A (fun z => cl_X10 cI cJ cS a z)) A) (XC := fun A => zXc QX dC dI cI cJ cS A (fun z => cl_X10 cI cJ cS a z)) (cc := cX10_log) (maxL := 3) (ret := (some .int)) (by decide) (Nat.le_of_ble_eq_true rfl) ?_
  intro p e s m below meth c ls A X htb hP hD hS hA hF hl
  obtain ⟨⟨hx, hb, hml, hown, hts⟩, hr, hlk, hK⟩ := id X
  have hl : lv_has ls 3 [(0, .ref (a 0)), (1, .int x1), (2, .int x2)] := hl
  unfold t_X10_log at hf
  refine lv_iload_n hx hb dX10_log_0 rfl (lv_at hl 2 rfl) ?_
  refine lv_iconst (v := 2) hx hb dX10_log_1 (by decide) ?_
  refine z_xSvO (Wn := (fun u_2 => cl_X10 cI cJ cS a u)) (As := [.int x2, .int (2 : Int32)]) (rest := []) (wr := cl_X10 cI cJ cS a u) X fro_Fy hF (c_X10_lookAtWhat l hlt dC dI cI cJ cS   x2 (2 : Int32) _ _ hf _) zc_X10_lookAtWhat q_ml_X10_136 ⟨rfl, rfl⟩ ⟨Nat.le_of_ble_eq_true rfl, Nat.le_of_ble_eq_true rfl⟩ hP hD hS hA (pm_0 _) (fun _ => pm_0 _) (Wo := (fun z => cl_X10 cI cJ cS a z)) (fun u_2 => u) (fun _ => rfl) htb (fun _ _ h => h) ⟨Nat.le_of_ble_eq_true rfl, Nat.le_of_ble_eq_true rfl⟩ hl.1 rfl rfl (Nat.le_of_ble_eq_true rfl) ⟨Nat.le_of_ble_eq_true rfl, Nat.le_of_ble_eq_true rfl⟩ dX10_log_2 (fun u_2 H locs hf hP hD hS => ?_)
  refine lv_aload_n hx hb dX10_log_5 rfl (lv_at hl 0 rfl) ?_
  refine va_get (D := (dC, dI)) (ci := 9) (v := .ref (a 1)) (C := RX10) (T := TX10) (N := 9) hx hb hts inX10 hown hK hP 0 rfl rfl 0 (by decide) (hts _ q_fl_X10_10) (fun _ h9 => h9) rfl dX10_log_6 ?_
  refine va_get (D := (dC, dI)) (ci := 4) (v := .ref (a 14)) (C := RX5) (T := TX5) (N := 9) hx hb hts inX5 hown hK hP 1 rfl rfl 5 (by decide) (hts _ q_fl_X10_316) (fun _ h9 => h9) rfl dX10_log_9 ?_
  refine lv_iload_n hx hb dX10_log_12 rfl (lv_at hl 1 rfl) ?_
  refine lv_iload_n hx hb dX10_log_13 rfl (lv_at hl 2 rfl) ?_
  refine z_cVi (As := [.int x1, .int x2]) (rest := []) X (c_X2_told l dC dI cI cJ cS (fun i => a (14 + i)) u.1.2.2.2.2.2.1 x1 x2 _ hf) zc_X2_told q_ml_X10_320 ⟨rfl, rfl⟩ ⟨Nat.le_of_ble_eq_true rfl, Nat.le_of_ble_eq_true rfl⟩ hP [14, 15] rfl 1 rfl rfl hl.1 rfl rfl (Nat.le_of_ble_eq_true rfl) ⟨Nat.le_of_ble_eq_true rfl, Nat.le_of_ble_eq_true rfl⟩ dX10_log_14 (fun r_3 hf => ?_)
  exact vx_ret (W.widen (k := 1) (n := 6) (Nat.le_of_ble_eq_true rfl) (Nat.le_of_ble_eq_true rfl) (z_retMi (Wf := (fun z => cl_X10 cI cJ cS a z)) (u := u) X hf hP hD hS dX10_log_17))
def s_X10_log (u : zCls) (x1 : Int32) (x2 : Int32) (Q : Int32 → zCls → Prop) (QX : String → zCls → Prop) : Prop := cAsk u (fun v => fLog v x1 x2) (exO 3 3 3) Q QX
theorem st_X10_log {u : zCls} {x1 x2 : Int32} {Q : Int32 → zCls → Prop} {QX : String → zCls → Prop} (h : s_X10_log u x1 x2 Q QX) : t_X10_log u x1 x2 Q QX := by
  obtain ⟨B, G, hG, hB, hc, hQ⟩ := h
  obtain ⟨v, ev⟩ : ∃ v, v = gNow G := ⟨_, rfl⟩
  rw [← ev] at hQ
  have hv : okB B v := by rw [ev]; exact hG.1
  have ho := hv.ok
  have c1 : u.1 = v := by rw [ev]; exact hc.1
  dsimp only at hQ
  unfold fLog at hQ
  have hD := hv.dia
  refine lookWhat_of (fun i1 => ?_) (fun i1 => ?_)
  · rw [if_pos i1] at hQ
    have hQ := (hQ u hc).1 rfl
    dsimp only at hQ
    obtain ⟨w, -, hw, rfl, ew⟩ := inR_n (a := 0) (b := 2) (by decide) (by decide) i1
    rw [ew, hD.1] at hQ
    have h30 := hD.2
    rw [c1]
    unfold s_X2_told
    rw [hD.1]
    have no : ¬ inR x1 0 (nI (dN v.2.2.2.2.2.1) - 1) → Q (-1) u := fun q => by rw [if_neg q] at hQ; exact hQ
    refine ⟨fun z => no (fun q => q.1 z), fun z => ?_⟩
    obtain ⟨n, hn, rfl⟩ := nI_of z
    refine ⟨fun z2 => no (fun q => ?_), fun z2 => ?_⟩
    · obtain ⟨k, hk, e⟩ := (n_range (by omega)).mp q
      have := (nI_eq hn (by omega)).mp e
      have := (nI_leI (by omega) (by omega)).mp z2
      omega
    · have hlt : n < dN v.2.2.2.2.2.1 := by
        have : ¬ dN v.2.2.2.2.2.1 ≤ n := fun q => z2 (nI_le q (by omega))
        omega
      rw [if_pos ((n_range (by omega)).mpr ⟨n, hlt, rfl⟩), nI_clamp (by omega)] at hQ
      refine ⟨fun q => absurd ((nI_leI (a := 30) (b := n) (by decide) (by omega)).mp q) (by omega), fun _ => ⟨fun q => absurd q (nI_pos (by omega)), fun _ => ⟨fun _ => ?_, fun q => absurd (nI_lt (a := w) (b := 3) (by omega) (by decide)) q⟩⟩⟩
      rw [n_lit3, n_mul, nI_add, nI_clamp (by omega), Nat.mul_comm]
      exact ⟨vp_in_nI (by omega) (by decide), hQ⟩
  · rw [if_neg i1] at hQ
    exact (hQ u hc).2 (show ¬ (1 : Int32) = 0 by decide)
theorem c_X10_log (l : Launch) (hlt : l.stackTraces = false) (dC : Nat → ClassId) (dI : Nat → Nat → Nat) (cI cJ cS : ClassId) (a : Nat → Nat) (u : zCls) (x1 : Int32) (x2 : Int32) (Q : Int32 → zCls → Prop) (QX : String → zCls → Prop) (hf : s_X10_log u x1 x2 Q QX) : ∀ sz : Nat, vx_Met l yX10_log (Cond.code yX10_log cX10_log 3 (some .int) :: zT) rm_X10_log (zPmF zFy dC dI cI cJ cS (cl_X10 cI cJ cS a u) [.ref (a 0), .int x1, .int x2] sz) (va_Qi Q (zB dC dI cI cJ cS (va_A (cl_X10 cI cJ cS a u) sz) (fun z => cl_X10 cI cJ cS a z)) (va_A (cl_X10 cI cJ cS a u) sz)) (zXc QX dC dI cI cJ cS (va_A (cl_X10 cI cJ cS a u) sz) (fun z => cl_X10 cI cJ cS a z)) 1 6 (va_A (cl_X10 cI cJ cS a u) sz) := L_X10_log l hlt dC dI cI cJ cS a u x1 x2 Q QX (st_X10_log hf)
