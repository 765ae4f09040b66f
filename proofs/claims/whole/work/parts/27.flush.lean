/-! MERGE and FLUSH on a State -/
def uMerge (u : zState) : zState := if rN u ≤ 1 then (u.1, u.2.1, u.2.2.1, zFold u.2.2.2.1 (rN u), u.2.2.2.2.1, u.2.2.2.2.2.1, u.2.2.2.2.2.2.1, u.2.2.2.2.2.2.2.1, u.2.2.2.2.2.2.2.2)
  else (u.1, (u.2.1.1, u.2.1.2.1, u.2.1.2.2.1 + nI (zFoldN u.2.2.2.1 (rN u)), u.2.1.2.2.2.1, u.2.1.2.2.2.2), u.2.2.1, zFold u.2.2.2.1 (rN u), u.2.2.2.2.1, zTell u.2.2.2.2.2.1 (dN u.2.2.2.2.2.1) 1 (nI (zFoldN u.2.2.2.1 (rN u))) u.2.2.2.2.2.2.1, u.2.2.2.2.2.2.1, u.2.2.2.2.2.2.2.1, u.2.2.2.2.2.2.2.2)
def uFl1 (u : zState) : zState := if u.2.2.2.1.2.1 0 ≤ 0 then (u.1, u.2.1, u.2.2.1, u.2.2.2.1, u.2.2.2.2.1, u.2.2.2.2.2.1, u.2.2.2.2.2.2.1, u.2.2.2.2.2.2.1, u.2.2.2.2.2.2.1)
  else (u.1, (u.2.1.1, u.2.1.2.1, u.2.1.2.2.1 + u.2.2.2.1.2.1 0, u.2.1.2.2.2.1, u.2.1.2.2.2.2), u.2.2.1, zShift u.2.2.2.1 (rN u), u.2.2.2.2.1, zTell u.2.2.2.2.2.1 (dN u.2.2.2.2.2.1) 0 (u.2.2.2.1.2.1 0) u.2.2.2.2.2.2.1, u.2.2.2.2.2.2.1, u.2.2.2.2.2.2.1, u.2.2.2.2.2.2.1)
def uFlush (u : zState) : zState := if (uFl1 u).2.2.2.1.2.2 ≤ u.1.2.2.2 then uFl1 u else uMerge (uFl1 u)
def s_X5_mergeRuns (u : zState) (Q : Int32 → zState → Prop) : Prop := (zOk u ∧ DiaOk u.2.2.2.2.2.1) ∧ Q (l_sum (fun i => u.2.2.2.1.2.1 (i + 1)) (rN u) - nI (zFoldN u.2.2.2.1 (rN u))) (uMerge u)
def s_X5_flushTable (u : zState) (Q : zState → Prop) : Prop := (zOk u ∧ DiaOk u.2.2.2.2.2.1 ∧ rN u < 5) ∧ Q (uFlush u)

def s_X5_secureAll (u : zState) (Q : Int32 → zState → Prop) : Prop := ∀ x_1 : Int32, x_1 = (u.2.2.2.2.2.2.1 - u.2.2.2.2.2.2.2.1) → ∀ x_2 : Int32, x_2 = u.2.2.2.2.2.2.1 → Q x_1 (u.1, u.2.1, u.2.2.1, u.2.2.2.1, u.2.2.2.2.1, u.2.2.2.2.2.1, u.2.2.2.2.2.2.1, x_2, u.2.2.2.2.2.2.2.2)
theorem zc_X5_secureAll : zCalV RX5 yX5_secureAll cX5_secureAll 2 (some .int) 0 := ⟨q_im_X5_secureAll, q_se_X5_secureAll, q_in_X5, q_cd_X5_secureAll, ⟨by decide, by decide, by decide +kernel⟩, rfl⟩
abbrev rm_X5_secureAll : Room := { frames := 0, cells := 0, slots := 0, locals := 0 }
set_option maxHeartbeats 4000000 in
set_option maxRecDepth 100000 in
theorem c_X5_secureAll (l : Launch) (dC : Nat → ClassId) (dI : Nat → Nat → Nat) (cI cJ cS : ClassId) (a : Nat → Nat) (u : zState) (Q : Int32 → zState → Prop) (hf : s_X5_secureAll u Q) : ∀ sz : Nat, Met l yX5_secureAll (Cond.code yX5_secureAll cX5_secureAll 2 (some .int) :: zT) rm_X5_secureAll (zPm dC dI cI cJ cS (cl_X5 cI cJ a u) [.ref (a 0)] sz) (va_Qi Q (zB dC dI cI cJ cS (va_A (cl_X5 cI cJ a u) sz) (fun z => cl_X5 cI cJ a z)) (va_A (cl_X5 cI cJ a u) sz)) 0 0 (va_A (cl_X5 cI cJ a u) sz) := by
  intro sz
  refine z_enterM (Qc := fun A => va_Qi Q (zB dC dI cI cJ cS A (fun z => cl_X5 cI cJ a z)) A) (cc := cX5_secureAll) (maxL := 2) (ret := (some .int)) (by decide) (Nat.le_of_ble_eq_true rfl) ?_
  intro p e s m below meth c ls A X hP hD hS hA hl
  obtain ⟨⟨hx, hb, hml, hown, hts⟩, hr, hlk, hK⟩ := id X
  have hl : lv_has ls 2 [(0, .ref (a 0))] := hl
  unfold s_X5_secureAll at hf
  refine lv_aload_n hx hb dX5_secureAll_0 rfl (lv_at hl 0 rfl) ?_
  refine va_get (D := (dC, dI)) (ci := 4) (v := .int u.2.2.2.2.2.2.1) (C := RX5) (T := TX5) (N := 9) hx hb hts inX5 hown hK hP 0 rfl rfl 6 (by decide) (hts _ q_fl_X5_81) (fun _ h9 => h9) rfl dX5_secureAll_1 ?_
  refine lv_aload_n hx hb dX5_secureAll_4 rfl (lv_at hl 0 rfl) ?_
  refine va_get (D := (dC, dI)) (ci := 4) (v := .int u.2.2.2.2.2.2.2.1) (C := RX5) (T := TX5) (N := 9) hx hb hts inX5 hown hK hP 0 rfl rfl 7 (by decide) (hts _ q_fl_X5_84) (fun _ h9 => h9) rfl dX5_secureAll_5 ?_
  refine lv_isub hx hb dX5_secureAll_8 ?_
  refine lv_topi (fun x_1 ex_1 => ?_)
  have hf := hf x_1 ex_1
  refine lv_istore_n (lv' := [(1, .int x_1), (0, .ref (a 0))]) hx hb dX5_secureAll_9 rfl hl (by decide) rfl (fun ls hl => ?_)
  refine lv_aload_n hx hb dX5_secureAll_10 rfl (lv_at hl 1 rfl) ?_
  refine lv_aload_n hx hb dX5_secureAll_11 rfl (lv_at hl 1 rfl) ?_
  refine va_get (D := (dC, dI)) (ci := 4) (v := .int u.2.2.2.2.2.2.1) (C := RX5) (T := TX5) (N := 9) hx hb hts inX5 hown hK hP 0 rfl rfl 6 (by decide) (hts _ q_fl_X5_81) (fun _ h9 => h9) rfl dX5_secureAll_12 ?_
  refine lv_topi (fun x_2 ex_2 => ?_)
  have hf := hf x_2 ex_2
  refine z_put (w' := cl_X5 cI cJ a (u.1, u.2.1, u.2.2.1, u.2.2.2.1, u.2.2.2.2.1, u.2.2.2.2.2.1, u.2.2.2.2.2.2.1, x_2, u.2.2.2.2.2.2.2.2)) (ci := 4) (v := .int x_2) (ty := .int) (Cn := RX5) (T := TX5) (N := 9) X inX5 tyX5 tyX5_ok nmX5 hP hD hS 0 rfl rfl 7 (by decide) (hts _ q_fl_X5_84) (fun _ h9 => h9) rfl (tyX5_ok 7 (by decide)) rfl rfl (Nat.le_of_ble_eq_true rfl) rfl dX5_secureAll_15 (fun H locs hP hD hS => ?_)
  refine lv_iload_n hx hb dX5_secureAll_18 rfl (lv_at hl 0 rfl) ?_
  exact z_retMi (Wf := (fun z => cl_X5 cI cJ a z)) (u := (u.1, u.2.1, u.2.2.1, u.2.2.2.1, u.2.2.2.2.1, u.2.2.2.2.2.1, u.2.2.2.2.2.2.1, x_2, u.2.2.2.2.2.2.2.2)) X hf hP hD hS dX5_secureAll_19

def t_X5_mergeRuns (u : zState) (Q : Int32 → zState → Prop) : Prop := ∀ x_1 : Int32, x_1 = u.2.2.2.1.2.2 → s_X9_runEntries u.2.2.2.1 (fun r_2 : Int32 => s_X9_foldRuns u.2.2.2.1 (fun (r_3 : Int32) (u_4 : zTree) => ((x_1 ≤ (1 : Int32) → Q (r_2 - r_3) (u.1, u.2.1, u.2.2.1, u_4, u.2.2.2.2.1, u.2.2.2.2.2.1, u.2.2.2.2.2.2.1, u.2.2.2.2.2.2.2.1, u.2.2.2.2.2.2.2.2)) ∧ (¬ x_1 ≤ (1 : Int32) → ∀ x_6 : Int32, x_6 = (u.2.1.2.2.1 + r_3) → s_X2_tellOf u.2.2.2.2.2.1 (1 : Int32) r_3 u.2.2.2.2.2.2.1 (fun (u_8 : zDiary) => Q (r_2 - r_3) (u.1, (u.2.1.1, u.2.1.2.1, x_6, u.2.1.2.2.2.1, u.2.1.2.2.2.2), u.2.2.1, u_4, u.2.2.2.2.1, u_8, u.2.2.2.2.2.2.1, u.2.2.2.2.2.2.2.1, u.2.2.2.2.2.2.2.2))))))
theorem zc_X5_mergeRuns : zCalV RX5 yX5_mergeRuns cX5_mergeRuns 4 (some .int) 0 := ⟨q_im_X5_mergeRuns, q_se_X5_mergeRuns, q_in_X5, q_cd_X5_mergeRuns, ⟨by decide, by decide, by decide +kernel⟩, rfl⟩
abbrev rm_X5_mergeRuns : Room := { frames := 2, cells := 0, slots := 0, locals := 72 }
set_option maxHeartbeats 4000000 in
set_option maxRecDepth 100000 in
theorem L_X5_mergeRuns (l : Launch) (dC : Nat → ClassId) (dI : Nat → Nat → Nat) (cI cJ cS : ClassId) (a : Nat → Nat) (u : zState) (Q : Int32 → zState → Prop) (hf : t_X5_mergeRuns u Q) : ∀ sz : Nat, Met l yX5_mergeRuns (Cond.code yX5_mergeRuns cX5_mergeRuns 4 (some .int) :: zT) rm_X5_mergeRuns (zPm dC dI cI cJ cS (cl_X5 cI cJ a u) [.ref (a 0)] sz) (va_Qi Q (zB dC dI cI cJ cS (va_A (cl_X5 cI cJ a u) sz) (fun z => cl_X5 cI cJ a z)) (va_A (cl_X5 cI cJ a u) sz)) 0 0 (va_A (cl_X5 cI cJ a u) sz) := by
  intro sz
  refine z_enterM (Qc := fun A => va_Qi Q (zB dC dI cI cJ cS A (fun z => cl_X5 cI cJ a z)) A) (cc := cX5_mergeRuns) (maxL := 4) (ret := (some .int)) (by decide) (Nat.le_of_ble_eq_true rfl) ?_
  intro p e s m below meth c ls A X hP hD hS hA hl
  obtain ⟨⟨hx, hb, hml, hown, hts⟩, hr, hlk, hK⟩ := id X
  have hl : lv_has ls 4 [(0, .ref (a 0))] := hl
  unfold t_X5_mergeRuns at hf
  refine lv_aload_n hx hb dX5_mergeRuns_0 rfl (lv_at hl 0 rfl) ?_
  refine va_get (D := (dC, dI)) (ci := 4) (v := .ref (a 8)) (C := RX5) (T := TX5) (N := 9) hx hb hts inX5 hown hK hP 0 rfl rfl 3 (by decide) (hts _ q_fl_X5_35) (fun _ h9 => h9) rfl dX5_mergeRuns_1 ?_
  refine va_get (D := (dC, dI)) (ci := 8) (v := .int u.2.2.2.1.2.2) (C := RX9) (T := TX9) (N := 3) hx hb hts inX9 hown hK hP 8 rfl rfl 2 (by decide) (hts _ q_fl_X5_167) (fun _ h9 => h9) rfl dX5_mergeRuns_4 ?_
  refine lv_topi (fun x_1 ex_1 => ?_)
  have hf := hf x_1 ex_1
  refine lv_istore_n (lv' := [(1, .int x_1), (0, .ref (a 0))]) hx hb dX5_mergeRuns_7 rfl hl (by decide) rfl (fun ls hl => ?_)
  refine lv_aload_n hx hb dX5_mergeRuns_8 rfl (lv_at hl 1 rfl) ?_
  refine va_get (D := (dC, dI)) (ci := 4) (v := .ref (a 8)) (C := RX5) (T := TX5) (N := 9) hx hb hts inX5 hown hK hP 0 rfl rfl 3 (by decide) (hts _ q_fl_X5_35) (fun _ h9 => h9) rfl dX5_mergeRuns_9 ?_
  refine z_cVi (As := []) (rest := []) X (c_X9_runEntries l dC dI cI cJ cS (fun i => a (8 + i)) u.2.2.2.1  _ hf) zc_X9_runEntries q_ml_X5_221 ⟨rfl, rfl⟩ ⟨Nat.le_of_ble_eq_true rfl, Nat.le_of_ble_eq_true rfl⟩ hP [8, 9, 10] rfl 8 rfl rfl hl.1 rfl rfl (Nat.le_of_ble_eq_true rfl) ⟨Nat.zero_le _, Nat.zero_le _⟩ dX5_mergeRuns_12 (fun r_2 hf => ?_)
  refine lv_istore_n (lv' := [(2, .int r_2), (1, .int x_1), (0, .ref (a 0))]) hx hb dX5_mergeRuns_15 rfl hl (by decide) rfl (fun ls hl => ?_)
  refine lv_aload_n hx hb dX5_mergeRuns_16 rfl (lv_at hl 2 rfl) ?_
  refine va_get (D := (dC, dI)) (ci := 4) (v := .ref (a 8)) (C := RX5) (T := TX5) (N := 9) hx hb hts inX5 hown hK hP 0 rfl rfl 3 (by decide) (hts _ q_fl_X5_35) (fun _ h9 => h9) rfl dX5_mergeRuns_17 ?_
  refine z_mVi (Wn := (fun u_4 => cl_X5 cI cJ a (u.1, u.2.1, u.2.2.1, u_4, u.2.2.2.2.1, u.2.2.2.2.2.1, u.2.2.2.2.2.2.1, u.2.2.2.2.2.2.2.1, u.2.2.2.2.2.2.2.2))) (As := []) (rest := []) (wr := [0, 1, 2, 3, 4, 5, 6, 7, 11, 12, 13, 14].filterMap (fun i => (cl_X5 cI cJ a u)[i]?)) X (c_X9_foldRuns l dC dI cI cJ cS (fun i => a (8 + i)) u.2.2.2.1  _ hf _) zc_X9_foldRuns q_ml_X5_224 ⟨rfl, rfl⟩ ⟨Nat.le_of_ble_eq_true rfl, Nat.le_of_ble_eq_true rfl⟩ hP hD hS hA [8, 9, 10] [0, 1, 2, 3, 4, 5, 6, 7, 11, 12, 13, 14] rfl (by decide) rfl (by decide) (by decide) [0, 1, 2, 3, 4, 5, 6, 7, 12, 13, 14, 8, 9, 10, 11] (by decide) (fun _ => rfl) 8 rfl rfl hl.1 rfl rfl (Nat.le_of_ble_eq_true rfl) ⟨Nat.zero_le _, Nat.zero_le _⟩ dX5_mergeRuns_20 (fun r_3 u_4 H locs hf hP hD hS => ?_)
  refine lv_istore_n (lv' := [(3, .int r_3), (2, .int r_2), (1, .int x_1), (0, .ref (a 0))]) hx hb dX5_mergeRuns_23 rfl hl (by decide) rfl (fun ls hl => ?_)
  refine lv_iload_n hx hb dX5_mergeRuns_24 rfl (lv_at hl 2 rfl) ?_
  refine lv_iconst (v := 1) hx hb dX5_mergeRuns_25 (by decide) ?_
  refine lv_icmp_le (tgt := 55) hx hb dX5_mergeRuns_26 (by decide) (fun c_5 => ?_) (fun c_5 => ?_)
  · have hf := hf.1 c_5
    refine lv_iload_n hx hb dX5_mergeRuns_55 rfl (lv_at hl 1 rfl) ?_
    refine lv_iload_n hx hb dX5_mergeRuns_56 rfl (lv_at hl 0 rfl) ?_
    refine lv_isub hx hb dX5_mergeRuns_57 ?_
    exact z_retMi (Wf := (fun z => cl_X5 cI cJ a z)) (u := (u.1, u.2.1, u.2.2.1, u_4, u.2.2.2.2.1, u.2.2.2.2.2.1, u.2.2.2.2.2.2.1, u.2.2.2.2.2.2.2.1, u.2.2.2.2.2.2.2.2)) X hf hP hD hS dX5_mergeRuns_58
  · have hf := hf.2 c_5
    refine lv_aload_n hx hb dX5_mergeRuns_29 rfl (lv_at hl 3 rfl) ?_
    refine va_get (D := (dC, dI)) (ci := 4) (v := .ref (a 2)) (C := RX5) (T := TX5) (N := 9) hx hb hts inX5 hown hK hP 0 rfl rfl 1 (by decide) (hts _ q_fl_X5_21) (fun _ h9 => h9) rfl dX5_mergeRuns_30 ?_
    refine lv_dup hx hb dX5_mergeRuns_33 rfl ?_
    refine va_get (D := (dC, dI)) (ci := 7) (v := .int u.2.1.2.2.1) (C := RX8) (T := TX8) (N := 5) hx hb hts inX8 hown hK hP 2 rfl rfl 2 (by decide) (hts _ q_fl_X5_218) (fun _ h9 => h9) rfl dX5_mergeRuns_34 ?_
    refine lv_iload_n hx hb dX5_mergeRuns_37 rfl (lv_at hl 0 rfl) ?_
    refine lv_iadd hx hb dX5_mergeRuns_38 ?_
    refine lv_topi (fun x_6 ex_6 => ?_)
    have hf := hf x_6 ex_6
    refine z_put (w' := cl_X5 cI cJ a (u.1, (u.2.1.1, u.2.1.2.1, x_6, u.2.1.2.2.2.1, u.2.1.2.2.2.2), u.2.2.1, u_4, u.2.2.2.2.1, u.2.2.2.2.2.1, u.2.2.2.2.2.2.1, u.2.2.2.2.2.2.2.1, u.2.2.2.2.2.2.2.2)) (ci := 7) (v := .int x_6) (ty := .int) (Cn := RX8) (T := TX8) (N := 5) X inX8 tyX8 tyX8_ok nmX8 hP hD hS 2 rfl rfl 2 (by decide) (hts _ q_fl_X5_218) (fun _ h9 => h9) rfl (tyX8_ok 2 (by decide)) rfl rfl (Nat.le_of_ble_eq_true rfl) rfl dX5_mergeRuns_39 (fun H locs hP hD hS => ?_)
    refine lv_aload_n hx hb dX5_mergeRuns_42 rfl (lv_at hl 3 rfl) ?_
    refine va_get (D := (dC, dI)) (ci := 4) (v := .ref (a 13)) (C := RX5) (T := TX5) (N := 9) hx hb hts inX5 hown hK hP 0 rfl rfl 5 (by decide) (hts _ q_fl_X5_49) (fun _ h9 => h9) rfl dX5_mergeRuns_43 ?_
    refine lv_iconst (v := 1) hx hb dX5_mergeRuns_46 (by decide) ?_
    refine lv_iload_n hx hb dX5_mergeRuns_47 rfl (lv_at hl 0 rfl) ?_
    refine lv_aload_n hx hb dX5_mergeRuns_48 rfl (lv_at hl 3 rfl) ?_
    refine va_get (D := (dC, dI)) (ci := 4) (v := .int u.2.2.2.2.2.2.1) (C := RX5) (T := TX5) (N := 9) hx hb hts inX5 hown hK hP 0 rfl rfl 6 (by decide) (hts _ q_fl_X5_81) (fun _ h9 => h9) rfl dX5_mergeRuns_49 ?_
    refine z_mVv (Wn := (fun u_8 => cl_X5 cI cJ a (u.1, (u.2.1.1, u.2.1.2.1, x_6, u.2.1.2.2.2.1, u.2.1.2.2.2.2), u.2.2.1, u_4, u.2.2.2.2.1, u_8, u.2.2.2.2.2.2.1, u.2.2.2.2.2.2.2.1, u.2.2.2.2.2.2.2.2))) (As := [.int (1 : Int32), .int r_3, .int u.2.2.2.2.2.2.1]) (rest := []) (wr := [0, 1, 2, 3, 4, 5, 6, 7, 8, 9, 10, 11, 12].filterMap (fun i => (cl_X5 cI cJ a (u.1, (u.2.1.1, u.2.1.2.1, x_6, u.2.1.2.2.2.1, u.2.1.2.2.2.2), u.2.2.1, u_4, u.2.2.2.2.1, u.2.2.2.2.2.1, u.2.2.2.2.2.2.1, u.2.2.2.2.2.2.2.1, u.2.2.2.2.2.2.2.2))[i]?)) X (c_X2_tellOf l dC dI cI cJ cS (fun i => a (13 + i)) u.2.2.2.2.2.1 (1 : Int32) r_3 u.2.2.2.2.2.2.1 _ hf _) zc_X2_tellOf q_ml_X5_195 ⟨rfl, rfl⟩ ⟨Nat.le_of_ble_eq_true rfl, Nat.le_of_ble_eq_true rfl⟩ hP hD hS hA [13, 14] [0, 1, 2, 3, 4, 5, 6, 7, 8, 9, 10, 11, 12] rfl (by decide) rfl (by decide) (by decide) [0, 1, 2, 3, 4, 5, 6, 7, 8, 9, 10, 11, 12, 13, 14] (by decide) (fun _ => rfl) 1 rfl rfl hl.1 rfl rfl (Nat.le_of_ble_eq_true rfl) ⟨Nat.zero_le _, Nat.zero_le _⟩ dX5_mergeRuns_52 (fun u_8 H locs hf hP hD hS => ?_)
    refine lv_iload_n hx hb dX5_mergeRuns_55 rfl (lv_at hl 1 rfl) ?_
    refine lv_iload_n hx hb dX5_mergeRuns_56 rfl (lv_at hl 0 rfl) ?_
    refine lv_isub hx hb dX5_mergeRuns_57 ?_
    exact z_retMi (Wf := (fun z => cl_X5 cI cJ a z)) (u := (u.1, (u.2.1.1, u.2.1.2.1, x_6, u.2.1.2.2.2.1, u.2.1.2.2.2.2), u.2.2.1, u_4, u.2.2.2.2.1, u_8, u.2.2.2.2.2.2.1, u.2.2.2.2.2.2.2.1, u.2.2.2.2.2.2.2.2)) X hf hP hD hS dX5_mergeRuns_58
theorem st_X5_mergeRuns {u : zState} {Q : Int32 → zState → Prop} (h : s_X5_mergeRuns u Q) : t_X5_mergeRuns u Q := by
  obtain ⟨⟨ho, hd⟩, h⟩ := h
  have hr := ho.2.1.2
  intro x e
  refine ⟨rN u, hr, ho.r, rN u, hr, ho.r, ?_⟩
  rw [e, ho.r]
  unfold uMerge at h
  refine ⟨fun c => ?_, fun c x6 e6 => ⟨hd, ?_⟩⟩
  · rw [if_pos ((nI_leI (a := rN u) (b := 1) (by omega) (by decide)).mp c)] at h; exact h
  · rw [if_neg (fun q => c (nI_le (b := 1) q (by decide)))] at h
    rw [e6]; exact h
theorem c_X5_mergeRuns (l : Launch) (dC : Nat → ClassId) (dI : Nat → Nat → Nat) (cI cJ cS : ClassId) (a : Nat → Nat) (u : zState) (Q : Int32 → zState → Prop) (hf : s_X5_mergeRuns u Q) : ∀ sz : Nat, Met l yX5_mergeRuns (Cond.code yX5_mergeRuns cX5_mergeRuns 4 (some .int) :: zT) rm_X5_mergeRuns (zPm dC dI cI cJ cS (cl_X5 cI cJ a u) [.ref (a 0)] sz) (va_Qi Q (zB dC dI cI cJ cS (va_A (cl_X5 cI cJ a u) sz) (fun z => cl_X5 cI cJ a z)) (va_A (cl_X5 cI cJ a u) sz)) 0 0 (va_A (cl_X5 cI cJ a u) sz) := L_X5_mergeRuns l dC dI cI cJ cS a u Q (st_X5_mergeRuns hf)

def t_X5_flushTable (u : zState) (Q : zState → Prop) : Prop := s_X9_sizeOf u.2.2.2.1 (0 : Int32) (fun r_1 : Int32 => s_X5_secureAll u (fun (r_2 : Int32) (u_3 : zState) => ∀ x_4 : Int32, x_4 = u_3.2.2.2.2.2.2.1 → ((r_1 ≤ 0 → ((u_3.2.2.2.1.2.2 ≤ u_3.1.2.2.2 → Q (u_3.1, u_3.2.1, u_3.2.2.1, u_3.2.2.2.1, u_3.2.2.2.2.1, u_3.2.2.2.2.2.1, u_3.2.2.2.2.2.2.1, u_3.2.2.2.2.2.2.2.1, x_4)) ∧ (¬ u_3.2.2.2.1.2.2 ≤ u_3.1.2.2.2 → s_X5_mergeRuns (u_3.1, u_3.2.1, u_3.2.2.1, u_3.2.2.2.1, u_3.2.2.2.2.1, u_3.2.2.2.2.2.1, u_3.2.2.2.2.2.2.1, u_3.2.2.2.2.2.2.2.1, x_4) (fun (r_7 : Int32) (u_8 : zState) => Q u_8)))) ∧ (¬ r_1 ≤ 0 → s_X9_tableToRun u_3.2.2.2.1 (fun (u_10 : zTree) => ∀ x_11 : Int32, x_11 = (u_3.2.1.2.2.1 + r_1) → s_X2_tellOf u_3.2.2.2.2.2.1 (0 : Int32) r_1 u_3.2.2.2.2.2.2.1 (fun (u_13 : zDiary) => ((u_10.2.2 ≤ u_3.1.2.2.2 → Q (u_3.1, (u_3.2.1.1, u_3.2.1.2.1, x_11, u_3.2.1.2.2.2.1, u_3.2.1.2.2.2.2), u_3.2.2.1, u_10, u_3.2.2.2.2.1, u_13, u_3.2.2.2.2.2.2.1, u_3.2.2.2.2.2.2.2.1, x_4)) ∧ (¬ u_10.2.2 ≤ u_3.1.2.2.2 → s_X5_mergeRuns (u_3.1, (u_3.2.1.1, u_3.2.1.2.1, x_11, u_3.2.1.2.2.2.1, u_3.2.1.2.2.2.2), u_3.2.2.1, u_10, u_3.2.2.2.2.1, u_13, u_3.2.2.2.2.2.2.1, u_3.2.2.2.2.2.2.2.1, x_4) (fun (r_15 : Int32) (u_16 : zState) => Q u_16)))))))))
theorem zc_X5_flushTable : zCalV RX5 yX5_flushTable cX5_flushTable 2 none 0 := ⟨q_im_X5_flushTable, q_se_X5_flushTable, q_in_X5, q_cd_X5_flushTable, ⟨by decide, by decide, by decide +kernel⟩, rfl⟩
abbrev rm_X5_flushTable : Room := { frames := 3, cells := 0, slots := 0, locals := 95 }
set_option maxHeartbeats 4000000 in
set_option maxRecDepth 100000 in
theorem L_X5_flushTable (l : Launch) (dC : Nat → ClassId) (dI : Nat → Nat → Nat) (cI cJ cS : ClassId) (a : Nat → Nat) (u : zState) (Q : zState → Prop) (hf : t_X5_flushTable u Q) : ∀ sz : Nat, Met l yX5_flushTable (Cond.code yX5_flushTable cX5_flushTable 2 none :: zT) rm_X5_flushTable (zPm dC dI cI cJ cS (cl_X5 cI cJ a u) [.ref (a 0)] sz) (va_Qv Q (zB dC dI cI cJ cS (va_A (cl_X5 cI cJ a u) sz) (fun z => cl_X5 cI cJ a z)) (va_A (cl_X5 cI cJ a u) sz)) 0 0 (va_A (cl_X5 cI cJ a u) sz) := by
  intro sz
  refine z_enterM (Qc := fun A => va_Qv Q (zB dC dI cI cJ cS A (fun z => cl_X5 cI cJ a z)) A) (cc := cX5_flushTable) (maxL := 2) (ret := none) (by decide) (Nat.le_of_ble_eq_true rfl) ?_
  intro p e s m below meth c ls A X hP hD hS hA hl
  obtain ⟨⟨hx, hb, hml, hown, hts⟩, hr, hlk, hK⟩ := id X
  have hl : lv_has ls 2 [(0, .ref (a 0))] := hl
  unfold t_X5_flushTable at hf
  refine lv_aload_n hx hb dX5_flushTable_0 rfl (lv_at hl 0 rfl) ?_
  refine va_get (D := (dC, dI)) (ci := 4) (v := .ref (a 8)) (C := RX5) (T := TX5) (N := 9) hx hb hts inX5 hown hK hP 0 rfl rfl 3 (by decide) (hts _ q_fl_X5_35) (fun _ h9 => h9) rfl dX5_flushTable_1 ?_
  refine lv_iconst (v := 0) hx hb dX5_flushTable_4 (by decide) ?_
  refine z_cVi (As := [.int (0 : Int32)]) (rest := []) X (c_X9_sizeOf l dC dI cI cJ cS (fun i => a (8 + i)) u.2.2.2.1 (0 : Int32) _ hf) zc_X9_sizeOf q_ml_X5_213 ⟨rfl, rfl⟩ ⟨Nat.le_of_ble_eq_true rfl, Nat.le_of_ble_eq_true rfl⟩ hP [8, 9, 10] rfl 8 rfl rfl hl.1 rfl rfl (Nat.le_of_ble_eq_true rfl) ⟨Nat.zero_le _, Nat.zero_le _⟩ dX5_flushTable_5 (fun r_1 hf => ?_)
  refine lv_istore_n (lv' := [(1, .int r_1), (0, .ref (a 0))]) hx hb dX5_flushTable_8 rfl hl (by decide) rfl (fun ls hl => ?_)
  refine lv_aload_n hx hb dX5_flushTable_9 rfl (lv_at hl 1 rfl) ?_
  refine z_mVi (Wn := (fun u_3 => cl_X5 cI cJ a u_3)) (As := []) (rest := []) (wr := []) X (c_X5_secureAll l dC dI cI cJ cS a u  _ hf _) zc_X5_secureAll q_ml_X5_161 ⟨rfl, rfl⟩ ⟨Nat.le_of_ble_eq_true rfl, Nat.le_of_ble_eq_true rfl⟩ hP hD hS hA [0, 1, 2, 3, 4, 5, 6, 7, 8, 9, 10, 11, 12, 13, 14] [] rfl (by decide) rfl (by decide) (by decide) [0, 1, 2, 3, 4, 5, 6, 7, 8, 9, 10, 11, 12, 13, 14] (by decide) (fun _ => rfl) 4 rfl rfl hl.1 rfl rfl (Nat.le_of_ble_eq_true rfl) ⟨Nat.zero_le _, Nat.zero_le _⟩ dX5_flushTable_10 (fun r_2 u_3 H locs hf hP hD hS => ?_)
  refine lv_pop hx hb dX5_flushTable_13 rfl ?_
  refine lv_aload_n hx hb dX5_flushTable_14 rfl (lv_at hl 1 rfl) ?_
  refine lv_aload_n hx hb dX5_flushTable_15 rfl (lv_at hl 1 rfl) ?_
  refine va_get (D := (dC, dI)) (ci := 4) (v := .int u_3.2.2.2.2.2.2.1) (C := RX5) (T := TX5) (N := 9) hx hb hts inX5 hown hK hP 0 rfl rfl 6 (by decide) (hts _ q_fl_X5_81) (fun _ h9 => h9) rfl dX5_flushTable_16 ?_
  refine lv_topi (fun x_4 ex_4 => ?_)
  have hf := hf x_4 ex_4
  refine z_put (w' := cl_X5 cI cJ a (u_3.1, u_3.2.1, u_3.2.2.1, u_3.2.2.2.1, u_3.2.2.2.2.1, u_3.2.2.2.2.2.1, u_3.2.2.2.2.2.2.1, u_3.2.2.2.2.2.2.2.1, x_4)) (ci := 4) (v := .int x_4) (ty := .int) (Cn := RX5) (T := TX5) (N := 9) X inX5 tyX5 tyX5_ok nmX5 hP hD hS 0 rfl rfl 8 (by decide) (hts _ q_fl_X5_87) (fun _ h9 => h9) rfl (tyX5_ok 8 (by decide)) rfl rfl (Nat.le_of_ble_eq_true rfl) rfl dX5_flushTable_19 (fun H locs hP hD hS => ?_)
  refine lv_iload_n hx hb dX5_flushTable_22 rfl (lv_at hl 0 rfl) ?_
  refine lv_if_le (tgt := 59) hx hb dX5_flushTable_23 (by decide) (fun c_5 => ?_) (fun c_5 => ?_)
  · have hf := hf.1 c_5
    refine lv_aload_n hx hb dX5_flushTable_59 rfl (lv_at hl 1 rfl) ?_
    refine va_get (D := (dC, dI)) (ci := 4) (v := .ref (a 8)) (C := RX5) (T := TX5) (N := 9) hx hb hts inX5 hown hK hP 0 rfl rfl 3 (by decide) (hts _ q_fl_X5_35) (fun _ h9 => h9) rfl dX5_flushTable_60 ?_
    refine va_get (D := (dC, dI)) (ci := 8) (v := .int u_3.2.2.2.1.2.2) (C := RX9) (T := TX9) (N := 3) hx hb hts inX9 hown hK hP 8 rfl rfl 2 (by decide) (hts _ q_fl_X5_167) (fun _ h9 => h9) rfl dX5_flushTable_63 ?_
    refine lv_aload_n hx hb dX5_flushTable_66 rfl (lv_at hl 1 rfl) ?_
    refine va_get (D := (dC, dI)) (ci := 4) (v := .ref (a 1)) (C := RX5) (T := TX5) (N := 9) hx hb hts inX5 hown hK hP 0 rfl rfl 0 (by decide) (hts _ q_fl_X5_12) (fun _ h9 => h9) rfl dX5_flushTable_67 ?_
    refine va_get (D := (dC, dI)) (ci := 6) (v := .int u_3.1.2.2.2) (C := RX7) (T := TX7) (N := 4) hx hb hts inX7 hown hK hP 1 rfl rfl 3 (by decide) (hts _ q_fl_X5_67) (fun _ h9 => h9) rfl dX5_flushTable_70 ?_
    refine lv_icmp_le (tgt := 81) hx hb dX5_flushTable_73 (by decide) (fun c_6 => ?_) (fun c_6 => ?_)
    · have hf := hf.1 c_6
      exact z_retMv (Wf := (fun z => cl_X5 cI cJ a z)) (u := (u_3.1, u_3.2.1, u_3.2.2.1, u_3.2.2.2.1, u_3.2.2.2.2.1, u_3.2.2.2.2.2.1, u_3.2.2.2.2.2.2.1, u_3.2.2.2.2.2.2.2.1, x_4)) X hf hP hD hS dX5_flushTable_81
    · have hf := hf.2 c_6
      refine lv_aload_n hx hb dX5_flushTable_76 rfl (lv_at hl 1 rfl) ?_
      refine z_mVi (Wn := (fun u_8 => cl_X5 cI cJ a u_8)) (As := []) (rest := []) (wr := []) X (c_X5_mergeRuns l dC dI cI cJ cS a (u_3.1, u_3.2.1, u_3.2.2.1, u_3.2.2.2.1, u_3.2.2.2.2.1, u_3.2.2.2.2.2.1, u_3.2.2.2.2.2.2.1, u_3.2.2.2.2.2.2.2.1, x_4)  _ hf _) zc_X5_mergeRuns q_ml_X5_182 ⟨rfl, rfl⟩ ⟨Nat.le_of_ble_eq_true rfl, Nat.le_of_ble_eq_true rfl⟩ hP hD hS hA [0, 1, 2, 3, 4, 5, 6, 7, 8, 9, 10, 11, 12, 13, 14] [] rfl (by decide) rfl (by decide) (by decide) [0, 1, 2, 3, 4, 5, 6, 7, 8, 9, 10, 11, 12, 13, 14] (by decide) (fun _ => rfl) 4 rfl rfl hl.1 rfl rfl (Nat.le_of_ble_eq_true rfl) ⟨Nat.zero_le _, Nat.zero_le _⟩ dX5_flushTable_77 (fun r_7 u_8 H locs hf hP hD hS => ?_)
      refine lv_pop hx hb dX5_flushTable_80 rfl ?_
      exact z_retMv (Wf := (fun z => cl_X5 cI cJ a z)) (u := u_8) X hf hP hD hS dX5_flushTable_81
  · have hf := hf.2 c_5
    refine lv_aload_n hx hb dX5_flushTable_26 rfl (lv_at hl 1 rfl) ?_
    refine va_get (D := (dC, dI)) (ci := 4) (v := .ref (a 8)) (C := RX5) (T := TX5) (N := 9) hx hb hts inX5 hown hK hP 0 rfl rfl 3 (by decide) (hts _ q_fl_X5_35) (fun _ h9 => h9) rfl dX5_flushTable_27 ?_
    refine z_mVv (Wn := (fun u_10 => cl_X5 cI cJ a (u_3.1, u_3.2.1, u_3.2.2.1, u_10, u_3.2.2.2.2.1, u_3.2.2.2.2.2.1, u_3.2.2.2.2.2.2.1, u_3.2.2.2.2.2.2.2.1, x_4))) (As := []) (rest := []) (wr := [0, 1, 2, 3, 4, 5, 6, 7, 11, 12, 13, 14].filterMap (fun i => (cl_X5 cI cJ a (u_3.1, u_3.2.1, u_3.2.2.1, u_3.2.2.2.1, u_3.2.2.2.2.1, u_3.2.2.2.2.2.1, u_3.2.2.2.2.2.2.1, u_3.2.2.2.2.2.2.2.1, x_4))[i]?)) X (c_X9_tableToRun l dC dI cI cJ cS (fun i => a (8 + i)) u_3.2.2.2.1  _ hf _) zc_X9_tableToRun q_ml_X5_215 ⟨rfl, rfl⟩ ⟨Nat.le_of_ble_eq_true rfl, Nat.le_of_ble_eq_true rfl⟩ hP hD hS hA [8, 9, 10] [0, 1, 2, 3, 4, 5, 6, 7, 11, 12, 13, 14] rfl (by decide) rfl (by decide) (by decide) [0, 1, 2, 3, 4, 5, 6, 7, 12, 13, 14, 8, 9, 10, 11] (by decide) (fun _ => rfl) 8 rfl rfl hl.1 rfl rfl (Nat.le_of_ble_eq_true rfl) ⟨Nat.zero_le _, Nat.zero_le _⟩ dX5_flushTable_30 (fun u_10 H locs hf hP hD hS => ?_)
    refine lv_aload_n hx hb dX5_flushTable_33 rfl (lv_at hl 1 rfl) ?_
    refine va_get (D := (dC, dI)) (ci := 4) (v := .ref (a 2)) (C := RX5) (T := TX5) (N := 9) hx hb hts inX5 hown hK hP 0 rfl rfl 1 (by decide) (hts _ q_fl_X5_21) (fun _ h9 => h9) rfl dX5_flushTable_34 ?_
    refine lv_dup hx hb dX5_flushTable_37 rfl ?_
    refine va_get (D := (dC, dI)) (ci := 7) (v := .int u_3.2.1.2.2.1) (C := RX8) (T := TX8) (N := 5) hx hb hts inX8 hown hK hP 2 rfl rfl 2 (by decide) (hts _ q_fl_X5_218) (fun _ h9 => h9) rfl dX5_flushTable_38 ?_
    refine lv_iload_n hx hb dX5_flushTable_41 rfl (lv_at hl 0 rfl) ?_
    refine lv_iadd hx hb dX5_flushTable_42 ?_
    refine lv_topi (fun x_11 ex_11 => ?_)
    have hf := hf x_11 ex_11
    refine z_put (w' := cl_X5 cI cJ a (u_3.1, (u_3.2.1.1, u_3.2.1.2.1, x_11, u_3.2.1.2.2.2.1, u_3.2.1.2.2.2.2), u_3.2.2.1, u_10, u_3.2.2.2.2.1, u_3.2.2.2.2.2.1, u_3.2.2.2.2.2.2.1, u_3.2.2.2.2.2.2.2.1, x_4)) (ci := 7) (v := .int x_11) (ty := .int) (Cn := RX8) (T := TX8) (N := 5) X inX8 tyX8 tyX8_ok nmX8 hP hD hS 2 rfl rfl 2 (by decide) (hts _ q_fl_X5_218) (fun _ h9 => h9) rfl (tyX8_ok 2 (by decide)) rfl rfl (Nat.le_of_ble_eq_true rfl) rfl dX5_flushTable_43 (fun H locs hP hD hS => ?_)
    refine lv_aload_n hx hb dX5_flushTable_46 rfl (lv_at hl 1 rfl) ?_
    refine va_get (D := (dC, dI)) (ci := 4) (v := .ref (a 13)) (C := RX5) (T := TX5) (N := 9) hx hb hts inX5 hown hK hP 0 rfl rfl 5 (by decide) (hts _ q_fl_X5_49) (fun _ h9 => h9) rfl dX5_flushTable_47 ?_
    refine lv_iconst (v := 0) hx hb dX5_flushTable_50 (by decide) ?_
    refine lv_iload_n hx hb dX5_flushTable_51 rfl (lv_at hl 0 rfl) ?_
    refine lv_aload_n hx hb dX5_flushTable_52 rfl (lv_at hl 1 rfl) ?_
    refine va_get (D := (dC, dI)) (ci := 4) (v := .int u_3.2.2.2.2.2.2.1) (C := RX5) (T := TX5) (N := 9) hx hb hts inX5 hown hK hP 0 rfl rfl 6 (by decide) (hts _ q_fl_X5_81) (fun _ h9 => h9) rfl dX5_flushTable_53 ?_
    refine z_mVv (Wn := (fun u_13 => cl_X5 cI cJ a (u_3.1, (u_3.2.1.1, u_3.2.1.2.1, x_11, u_3.2.1.2.2.2.1, u_3.2.1.2.2.2.2), u_3.2.2.1, u_10, u_3.2.2.2.2.1, u_13, u_3.2.2.2.2.2.2.1, u_3.2.2.2.2.2.2.2.1, x_4))) (As := [.int (0 : Int32), .int r_1, .int u_3.2.2.2.2.2.2.1]) (rest := []) (wr := [0, 1, 2, 3, 4, 5, 6, 7, 8, 9, 10, 11, 12].filterMap (fun i => (cl_X5 cI cJ a (u_3.1, (u_3.2.1.1, u_3.2.1.2.1, x_11, u_3.2.1.2.2.2.1, u_3.2.1.2.2.2.2), u_3.2.2.1, u_10, u_3.2.2.2.2.1, u_3.2.2.2.2.2.1, u_3.2.2.2.2.2.2.1, u_3.2.2.2.2.2.2.2.1, x_4))[i]?)) X (c_X2_tellOf l dC dI cI cJ cS (fun i => a (13 + i)) u_3.2.2.2.2.2.1 (0 : Int32) r_1 u_3.2.2.2.2.2.2.1 _ hf _) zc_X2_tellOf q_ml_X5_195 ⟨rfl, rfl⟩ ⟨Nat.le_of_ble_eq_true rfl, Nat.le_of_ble_eq_true rfl⟩ hP hD hS hA [13, 14] [0, 1, 2, 3, 4, 5, 6, 7, 8, 9, 10, 11, 12] rfl (by decide) rfl (by decide) (by decide) [0, 1, 2, 3, 4, 5, 6, 7, 8, 9, 10, 11, 12, 13, 14] (by decide) (fun _ => rfl) 1 rfl rfl hl.1 rfl rfl (Nat.le_of_ble_eq_true rfl) ⟨Nat.zero_le _, Nat.zero_le _⟩ dX5_flushTable_56 (fun u_13 H locs hf hP hD hS => ?_)
    refine lv_aload_n hx hb dX5_flushTable_59 rfl (lv_at hl 1 rfl) ?_
    refine va_get (D := (dC, dI)) (ci := 4) (v := .ref (a 8)) (C := RX5) (T := TX5) (N := 9) hx hb hts inX5 hown hK hP 0 rfl rfl 3 (by decide) (hts _ q_fl_X5_35) (fun _ h9 => h9) rfl dX5_flushTable_60 ?_
    refine va_get (D := (dC, dI)) (ci := 8) (v := .int u_10.2.2) (C := RX9) (T := TX9) (N := 3) hx hb hts inX9 hown hK hP 8 rfl rfl 2 (by decide) (hts _ q_fl_X5_167) (fun _ h9 => h9) rfl dX5_flushTable_63 ?_
    refine lv_aload_n hx hb dX5_flushTable_66 rfl (lv_at hl 1 rfl) ?_
    refine va_get (D := (dC, dI)) (ci := 4) (v := .ref (a 1)) (C := RX5) (T := TX5) (N := 9) hx hb hts inX5 hown hK hP 0 rfl rfl 0 (by decide) (hts _ q_fl_X5_12) (fun _ h9 => h9) rfl dX5_flushTable_67 ?_
    refine va_get (D := (dC, dI)) (ci := 6) (v := .int u_3.1.2.2.2) (C := RX7) (T := TX7) (N := 4) hx hb hts inX7 hown hK hP 1 rfl rfl 3 (by decide) (hts _ q_fl_X5_67) (fun _ h9 => h9) rfl dX5_flushTable_70 ?_
    refine lv_icmp_le (tgt := 81) hx hb dX5_flushTable_73 (by decide) (fun c_14 => ?_) (fun c_14 => ?_)
    · have hf := hf.1 c_14
      exact z_retMv (Wf := (fun z => cl_X5 cI cJ a z)) (u := (u_3.1, (u_3.2.1.1, u_3.2.1.2.1, x_11, u_3.2.1.2.2.2.1, u_3.2.1.2.2.2.2), u_3.2.2.1, u_10, u_3.2.2.2.2.1, u_13, u_3.2.2.2.2.2.2.1, u_3.2.2.2.2.2.2.2.1, x_4)) X hf hP hD hS dX5_flushTable_81
    · have hf := hf.2 c_14
      refine lv_aload_n hx hb dX5_flushTable_76 rfl (lv_at hl 1 rfl) ?_
      refine z_mVi (Wn := (fun u_16 => cl_X5 cI cJ a u_16)) (As := []) (rest := []) (wr := []) X (c_X5_mergeRuns l dC dI cI cJ cS a (u_3.1, (u_3.2.1.1, u_3.2.1.2.1, x_11, u_3.2.1.2.2.2.1, u_3.2.1.2.2.2.2), u_3.2.2.1, u_10, u_3.2.2.2.2.1, u_13, u_3.2.2.2.2.2.2.1, u_3.2.2.2.2.2.2.2.1, x_4)  _ hf _) zc_X5_mergeRuns q_ml_X5_182 ⟨rfl, rfl⟩ ⟨Nat.le_of_ble_eq_true rfl, Nat.le_of_ble_eq_true rfl⟩ hP hD hS hA [0, 1, 2, 3, 4, 5, 6, 7, 8, 9, 10, 11, 12, 13, 14] [] rfl (by decide) rfl (by decide) (by decide) [0, 1, 2, 3, 4, 5, 6, 7, 8, 9, 10, 11, 12, 13, 14] (by decide) (fun _ => rfl) 4 rfl rfl hl.1 rfl rfl (Nat.le_of_ble_eq_true rfl) ⟨Nat.zero_le _, Nat.zero_le _⟩ dX5_flushTable_77 (fun r_15 u_16 H locs hf hP hD hS => ?_)
      refine lv_pop hx hb dX5_flushTable_80 rfl ?_
      exact z_retMv (Wf := (fun z => cl_X5 cI cJ a z)) (u := u_16) X hf hP hD hS dX5_flushTable_81
theorem uFl1_ok {u : zState} (ho : zOk u) (hr : rN u < 5) : zOk (uFl1 u) := by
  unfold uFl1
  split
  · exact ho
  · have e : (zShift u.2.2.2.1 (rN u)).2.2 = nI (rN u + 1) := rfl
    have e2 : rN (u.1, (u.2.1.1, u.2.1.2.1, u.2.1.2.2.1 + u.2.2.2.1.2.1 0, u.2.1.2.2.2.1, u.2.1.2.2.2.2), u.2.2.1, zShift u.2.2.2.1 (rN u), u.2.2.2.2.1, zTell u.2.2.2.2.2.1 (dN u.2.2.2.2.2.1) 0 (u.2.2.2.1.2.1 0) u.2.2.2.2.2.2.1, u.2.2.2.2.2.2.1, u.2.2.2.2.2.2.1, u.2.2.2.2.2.2.1) = rN u + 1 := nI_clamp (n := rN u + 1) (by omega)
    exact ⟨ho.1, ⟨by rw [e2]; rfl, by rw [e2]; omega⟩, ho.2.2⟩
theorem uFl1_dia {u : zState} (hd : DiaOk u.2.2.2.2.2.1) : DiaOk (uFl1 u).2.2.2.2.2.1 := by
  unfold uFl1
  split
  · exact hd
  · exact hd.tell _ _ _
theorem st_X5_flushTable {u : zState} {Q : zState → Prop} (h : s_X5_flushTable u Q) : t_X5_flushTable u Q := by
  obtain ⟨⟨ho, hd, hr⟩, h⟩ := h
  have ho1 := uFl1_ok ho hr
  have hd1 := uFl1_dia hd
  unfold uFlush at h
  unfold uFl1 at h ho1 hd1
  refine ⟨0, by decide, rfl, fun x1 e1 x2 e2 x4 e4 => ⟨fun c => ?_, fun c => ?_⟩⟩
  · rw [if_pos c] at h ho1 hd1
    subst e2
    subst e4
    refine ⟨fun c2 => ?_, fun c2 => ⟨⟨ho1, hd1⟩, ?_⟩⟩
    · rw [if_pos c2] at h; exact h
    · rw [if_neg c2] at h; exact h
  · rw [if_neg c] at h ho1 hd1
    subst e2
    subst e4
    refine ⟨rN u, hr, ho.r, fun x11 e11 => ⟨hd, ?_⟩⟩
    subst e11
    refine ⟨fun c2 => ?_, fun c2 => ⟨⟨ho1, hd1⟩, ?_⟩⟩
    · rw [if_pos c2] at h; exact h
    · rw [if_neg c2] at h; exact h
theorem c_X5_flushTable (l : Launch) (dC : Nat → ClassId) (dI : Nat → Nat → Nat) (cI cJ cS : ClassId) (a : Nat → Nat) (u : zState) (Q : zState → Prop) (hf : s_X5_flushTable u Q) : ∀ sz : Nat, Met l yX5_flushTable (Cond.code yX5_flushTable cX5_flushTable 2 none :: zT) rm_X5_flushTable (zPm dC dI cI cJ cS (cl_X5 cI cJ a u) [.ref (a 0)] sz) (va_Qv Q (zB dC dI cI cJ cS (va_A (cl_X5 cI cJ a u) sz) (fun z => cl_X5 cI cJ a z)) (va_A (cl_X5 cI cJ a u) sz)) 0 0 (va_A (cl_X5 cI cJ a u) sz) := L_X5_flushTable l dC dI cI cJ cS a u Q (st_X5_flushTable hf)

/-! MERGE and FLUSH keep the invariant -/
theorem n_b0 {β : Nat} (h : β ≤ 40) : (0 : Int32) ≤ nI β := nI_pos' (by omega)
theorem zPr.merge {R ρ β mo lm L S M B : Nat} {u : zState} (h : zPr R ρ β mo lm L S M B u) : zPr 1 ρ β mo lm L S M B (uMerge u) := by
  obtain ⟨h1, h2, h3, h4, h5, hg, ht, hR, hL, hC, hD, hT⟩ := h
  have hb : 0 ≤ u.1.2.1 := by rw [h2.1]; exact n_b0 h2.2
  have hle : tR (zFold u.2.2.2.1 (tR u.2.2.2.1)) ≤ 1 := by rw [fold_R]; exact foldR_le _ _
  have hC' := hC.of (q := fun c => tLiv u.1.2.1 (zFold u.2.2.2.1 (tR u.2.2.2.1)) c = true) (fun x hx => by rw [tLiv_fold hb] at hx; exact hx)
  unfold uMerge
  split
  · exact ⟨h1, h2, h3, h4, h5, hg, ht.fold, hle, hL.fold hb, hC', hD, hT⟩
  · exact ⟨h1, h2, h3, h4, h5, hg, ht.fold, hle, hL.fold hb, hC', hD.tell _ _ _, hT⟩
theorem zPr.fl1 {ρ β mo lm L S M B : Nat} {u : zState} (h : zP ρ β mo lm L S M B u) : zPr (lm + 1) ρ β mo lm L L L B (uFl1 u) := by
  obtain ⟨h1, h2, h3, h4, h5, hg, ht, hR, hL, hC, hD, hT⟩ := h
  obtain ⟨a1, a2, a3, a4, a5, a6, a7⟩ := h5
  have h5' : u.2.2.2.2.2.2.1 = nI L ∧ u.2.2.2.2.2.2.1 = nI L ∧ u.2.2.2.2.2.2.1 = nI L ∧ L ≤ L ∧ L ≤ L ∧ L ≤ B ∧ B ≤ 400000 := ⟨a1, a1, a1, Nat.le_refl _, Nat.le_refl _, a6, a7⟩
  unfold uFl1
  split
  · rename_i hc
    have h0 := ht.2.2.2 0 (Nat.zero_le _)
    have hz : fa_cnt (fun k => zHas u.2.2.2.1.1 0 k) 64 = 0 := by
      rw [h0] at hc
      have hle := fa_cnt_le (fun k => zHas u.2.2.2.1.1 0 k) 64
      have := (nI_leI (a := fa_cnt (fun k => zHas u.2.2.2.1.1 0 k) 64) (b := 0) (by omega) (by decide)).mp hc
      omega
    have hem : ∀ k, k < 64 → u.2.2.2.1.1 k = 0 := fun k hk => by
      have := fa_cnt_0 hz k hk
      simp only [decide_eq_false_iff_not, Decidable.not_not] at this
      rw [show 64 * 0 + k = k by omega] at this
      exact this
    refine ⟨h1, h2, h3, h4, h5', hg, ⟨ht.1, fun k hk => Or.inl (hem k hk), fun l k b1 b2 hk => ?_, ht.2.2.2⟩, by show tR u.2.2.2.1 ≤ lm + 1; omega, hL, hC, hD, hT⟩
    rcases ht.2.2.1 l k b1 b2 hk with h | h
    · exact Or.inl h
    · exact Or.inr ⟨h.1, h.2.1, h.2.2.1, Nat.le_trans h.2.2.2.1 (show M ≤ L by omega), h.2.2.2.2⟩
  · have hr5 : tR u.2.2.2.1 < 5 := by omega
    refine ⟨h1, h2, h3, h4, h5', hg, ht.shift hr5 (by omega), ?_, hL.shift hr5, hC.of (fun x hx => ?_), hD.tell _ _ _, hT⟩
    · show tR (zShift u.2.2.2.1 (tR u.2.2.2.1)) ≤ lm + 1
      rw [shift_r _ _ hr5]; omega
    · have hx : tLiv u.1.2.1 (zShift u.2.2.2.1 (tR u.2.2.2.1)) x = true := hx
      rw [tLiv_shift _ _ hr5] at hx; exact hx
theorem zPr.mono {R R' ρ β mo lm L S M B : Nat} {u : zState} (h : zPr R ρ β mo lm L S M B u) (hR : tR u.2.2.2.1 ≤ R') : zPr R' ρ β mo lm L S M B u := by
  obtain ⟨h1, h2, h3, h4, h5, hg, ht, -, hr⟩ := h
  exact ⟨h1, h2, h3, h4, h5, hg, ht, hR, hr⟩
theorem zPr.flush {ρ β mo lm L S M B : Nat} {u : zState} (h : zP ρ β mo lm L S M B u) : zP ρ β mo lm L L L B (uFlush u) := by
  have h1 := zPr.fl1 h
  have hlm := h.2.2.2.1
  unfold uFlush
  split
  · rename_i hc
    refine h1.mono ?_
    have hr := h1.2.2.2.2.2.2.1.1
    rw [hr.1, hlm.1] at hc
    exact (nI_leI (by omega) (by omega)).mp hc
  · have h2 := h1.merge
    refine h2.mono ?_
    have := h2.2.2.2.2.2.2.2.1
    omega
/-- what FLUSH and MERGE leave -/
theorem uMerge_same (u : zState) : (uMerge u).1 = u.1 ∧ (uMerge u).2.2.1 = u.2.2.1 ∧ (uMerge u).2.2.2.2.1 = u.2.2.2.2.1 ∧ (uMerge u).2.2.2.2.2.2 = u.2.2.2.2.2.2 ∧ (uMerge u).2.2.2.1 = zFold u.2.2.2.1 (rN u) ∧ (uMerge u).2.1.1 = u.2.1.1 ∧ (uMerge u).2.1.2.1 = u.2.1.2.1 := by
  unfold uMerge
  split <;> exact ⟨rfl, rfl, rfl, rfl, rfl, rfl, rfl⟩
theorem uFl1_same (u : zState) : (uFl1 u).1 = u.1 ∧ (uFl1 u).2.2.1 = u.2.2.1 ∧ (uFl1 u).2.2.2.2.1 = u.2.2.2.2.1 ∧ (uFl1 u).2.2.2.2.2.2.1 = u.2.2.2.2.2.2.1 ∧ (uFl1 u).2.1.1 = u.2.1.1 ∧ (uFl1 u).2.1.2.1 = u.2.1.2.1 := by
  unfold uFl1
  split <;> exact ⟨rfl, rfl, rfl, rfl, rfl, rfl⟩
theorem uFlush_same (u : zState) : (uFlush u).1 = u.1 ∧ (uFlush u).2.2.1 = u.2.2.1 ∧ (uFlush u).2.2.2.2.1 = u.2.2.2.2.1 ∧ (uFlush u).2.2.2.2.2.2.1 = u.2.2.2.2.2.2.1 ∧ (uFlush u).2.1.1 = u.2.1.1 ∧ (uFlush u).2.1.2.1 = u.2.1.2.1 := by
  obtain ⟨a1, a2, a3, a4, a5, a6⟩ := uFl1_same u
  unfold uFlush
  split
  · exact ⟨a1, a2, a3, a4, a5, a6⟩
  · obtain ⟨b1, b2, b3, b4, -, b5, b6⟩ := uMerge_same (uFl1 u)
    exact ⟨b1.trans a1, b2.trans a2, b3.trans a3, by rw [b4]; exact a4, b5.trans a5, b6.trans a6⟩
theorem tLiv_flush {ρ β mo lm L S M B : Nat} {u : zState} (h : zP ρ β mo lm L S M B u) (c : Int64) : tLiv u.1.2.1 (uFlush u).2.2.2.1 c = tLiv u.1.2.1 u.2.2.2.1 c := by
  have hb : 0 ≤ u.1.2.1 := by rw [h.2.1.1]; exact n_b0 h.2.1.2
  have hr5 : tR u.2.2.2.1 < 5 := by have := h.2.2.2.2.2.2.2.1; have := h.2.2.2.1; omega
  have e1 : tLiv u.1.2.1 (uFl1 u).2.2.2.1 c = tLiv u.1.2.1 u.2.2.2.1 c := by
    unfold uFl1
    split
    · rfl
    · exact tLiv_shift _ _ hr5 c
  unfold uFlush
  split
  · exact e1
  · rw [(uMerge_same (uFl1 u)).2.2.2.2.1]
    exact (tLiv_fold hb _ c).trans e1
