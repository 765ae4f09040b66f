def t_X10_sync (u : zCls) (Q : Int32 → zCls → Prop) : Prop := s_X10_getReady u (fun (u_2 : zCls) => s_X5_perform u_2.1 (3 : Int32) (0 : Int32) (0 : Int32) (0 : Int32) (0 : Int32) (fun (r_3 : Int32) (u_4 : zState) => Q r_3 (u_4, u_2.2)))
theorem zc_X10_sync : zCalV RX10 yX10_sync cX10_sync 1 (some .int) 0 := ⟨q_im_X10_sync, q_se_X10_sync, q_in_X10, q_cd_X10_sync, ⟨by decide, by decide, by decide +kernel⟩, rfl⟩
abbrev rm_X10_sync : Room := { frames := 7, cells := 0, slots := 0, locals := 190 }
set_option maxHeartbeats 4000000 in
set_option maxRecDepth 100000 in
theorem L_X10_sync (l : Launch) (dC : Nat → ClassId) (dI : Nat → Nat → Nat) (cI cJ cS : ClassId) (a : Nat → Nat) (u : zCls) (Q : Int32 → zCls → Prop) (hf : t_X10_sync u Q) : ∀ sz : Nat, Met l yX10_sync (Cond.code yX10_sync cX10_sync 1 (some .int) :: zT) rm_X10_sync (zPm dC dI cI cJ cS (cl_X10 cI cJ cS a u) [.ref (a 0)] sz) (va_Qi Q (zB dC dI cI cJ cS (va_A (cl_X10 cI cJ cS a u) sz) (fun z => cl_X10 cI cJ cS a z)) (va_A (cl_X10 cI cJ cS a u) sz)) 0 0 (va_A (cl_X10 cI cJ cS a u) sz) := by
  intro sz
  refine z_enterM (Qc := fun A => va_Qi Q (zB dC dI cI cJ cS A (fun z => cl_X10 cI cJ cS a z)) A) (cc := cX10_sync) (maxL := 1) (ret := (some .int)) (by decide) (Nat.le_of_ble_eq_true rfl) ?_
  intro p e s m below meth c ls A X hP hD hS hA hl
  obtain ⟨⟨hx, hb, hml, hown, hts⟩, hr, hlk, hK⟩ := id X
  have hl : lv_has ls 1 [(0, .ref (a 0))] := hl
  unfold t_X10_sync at hf
  refine lv_aload_n hx hb dX10_sync_0 rfl (lv_at hl 0 rfl) ?_
  refine z_pVv (Wn := (fun u_2 => cl_X10 cI cJ cS a u_2)) (As := []) (rest := []) (wr := []) X (c_X10_getReady l dC dI cI cJ cS a u  _ hf _) zc_X10_getReady q_ml_X10_113 ⟨rfl, rfl⟩ ⟨Nat.le_of_ble_eq_true rfl, Nat.le_of_ble_eq_true rfl⟩ hP hD hS hA (List.Perm.refl _) (fun _ => List.Perm.refl _) 9 rfl rfl hl.1 rfl rfl (Nat.le_of_ble_eq_true rfl) ⟨Nat.zero_le _, Nat.zero_le _⟩ dX10_sync_1 (fun u_2 H locs hf hP hD hS => ?_)
  refine lv_aload_n hx hb dX10_sync_4 rfl (lv_at hl 0 rfl) ?_
  refine va_get (D := (dC, dI)) (ci := 9) (v := .ref (a 1)) (C := RX10) (T := TX10) (N := 9) hx hb hts inX10 hown hK hP 0 rfl rfl 0 (by decide) (hts _ q_fl_X10_10) (fun _ h9 => h9) rfl dX10_sync_5 ?_
  refine lv_iconst (v := 3) hx hb dX10_sync_8 (by decide) ?_
  refine lv_iconst (v := 0) hx hb dX10_sync_9 (by decide) ?_
  refine lv_iconst (v := 0) hx hb dX10_sync_10 (by decide) ?_
  refine lv_iconst (v := 0) hx hb dX10_sync_11 (by decide) ?_
  refine lv_iconst (v := 0) hx hb dX10_sync_12 (by decide) ?_
  refine z_pVi (Wn := (fun u_4 => cl_X10 cI cJ cS a (u_4, u_2.2))) (As := [.int (3 : Int32), .int (0 : Int32), .int (0 : Int32), .int (0 : Int32), .int (0 : Int32)]) (rest := []) (wr := rr_X10_n cI cJ cS a u_2) X (c_X5_perform l dC dI cI cJ cS (fun i => a (1 + i)) u_2.1 (3 : Int32) (0 : Int32) (0 : Int32) (0 : Int32) (0 : Int32) _ hf _) zc_X5_perform q_ml_X10_76 ⟨rfl, rfl⟩ ⟨Nat.le_of_ble_eq_true rfl, Nat.le_of_ble_eq_true rfl⟩ hP hD hS hA (pm_X10_n cI cJ cS a u_2) (fun u_4 => pm_X10_n cI cJ cS a (u_4, u_2.2)) 4 rfl rfl hl.1 rfl rfl (Nat.le_of_ble_eq_true rfl) ⟨Nat.zero_le _, Nat.zero_le _⟩ dX10_sync_13 (fun r_3 u_4 H locs hf hP hD hS => ?_)
  exact z_retMi (Wf := (fun z => cl_X10 cI cJ cS a z)) (u := (u_4, u_2.2)) X hf hP hD hS dX10_sync_16
def s_X10_sync (u : zCls) (Q : Int32 → zCls → Prop) : Prop := ∃ (B : Nat) (G : zG), okG B G ∧ B + 20 ≤ 400000 ∧ cG G u ∧ ∀ u' : zCls, cG (fSync G).2.2 u' → Q (fSync G).2.1 u'
theorem st_X10_sync {u : zCls} {Q : Int32 → zCls → Prop} (h : s_X10_sync u Q) : t_X10_sync u Q := by
  obtain ⟨B, G, hG, hB, hc, hQ⟩ := h
  exact cact0_of (k := 3) hG hB hc (by decide) trivial rfl hQ
theorem c_X10_sync (l : Launch) (dC : Nat → ClassId) (dI : Nat → Nat → Nat) (cI cJ cS : ClassId) (a : Nat → Nat) (u : zCls) (Q : Int32 → zCls → Prop) (hf : s_X10_sync u Q) : ∀ sz : Nat, Met l yX10_sync (Cond.code yX10_sync cX10_sync 1 (some .int) :: zT) rm_X10_sync (zPm dC dI cI cJ cS (cl_X10 cI cJ cS a u) [.ref (a 0)] sz) (va_Qi Q (zB dC dI cI cJ cS (va_A (cl_X10 cI cJ cS a u) sz) (fun z => cl_X10 cI cJ cS a z)) (va_A (cl_X10 cI cJ cS a u) sz)) 0 0 (va_A (cl_X10 cI cJ cS a u) sz) := L_X10_sync l dC dI cI cJ cS a u Q (st_X10_sync hf)

def t_X10_flush (u : zCls) (Q : Int32 → zCls → Prop) : Prop := s_X10_getReady u (fun (u_2 : zCls) => s_X5_perform u_2.1 (4 : Int32) (0 : Int32) (0 : Int32) (0 : Int32) (0 : Int32) (fun (r_3 : Int32) (u_4 : zState) => Q r_3 (u_4, u_2.2)))
theorem zc_X10_flush : zCalV RX10 yX10_flush cX10_flush 1 (some .int) 0 := ⟨q_im_X10_flush, q_se_X10_flush, q_in_X10, q_cd_X10_flush, ⟨by decide, by decide, by decide +kernel⟩, rfl⟩
abbrev rm_X10_flush : Room := { frames := 7, cells := 0, slots := 0, locals := 190 }
set_option maxHeartbeats 4000000 in
set_option maxRecDepth 100000 in
theorem L_X10_flush (l : Launch) (dC : Nat → ClassId) (dI : Nat → Nat → Nat) (cI cJ cS : ClassId) (a : Nat → Nat) (u : zCls) (Q : Int32 → zCls → Prop) (hf : t_X10_flush u Q) : ∀ sz : Nat, Met l yX10_flush (Cond.code yX10_flush cX10_flush 1 (some .int) :: zT) rm_X10_flush (zPm dC dI cI cJ cS (cl_X10 cI cJ cS a u) [.ref (a 0)] sz) (va_Qi Q (zB dC dI cI cJ cS (va_A (cl_X10 cI cJ cS a u) sz) (fun z => cl_X10 cI cJ cS a z)) (va_A (cl_X10 cI cJ cS a u) sz)) 0 0 (va_A (cl_X10 cI cJ cS a u) sz) := by
  intro sz
  refine z_enterM (Qc := fun A => va_Qi Q (zB dC dI cI cJ cS A (fun z => cl_X10 cI cJ cS a z)) A) (cc := cX10_flush) (maxL := 1) (ret := (some .int)) (by decide) (Nat.le_of_ble_eq_true rfl) ?_
  intro p e s m below meth c ls A X hP hD hS hA hl
  obtain ⟨⟨hx, hb, hml, hown, hts⟩, hr, hlk, hK⟩ := id X
  have hl : lv_has ls 1 [(0, .ref (a 0))] := hl
  unfold t_X10_flush at hf
  refine lv_aload_n hx hb dX10_flush_0 rfl (lv_at hl 0 rfl) ?_
  refine z_pVv (Wn := (fun u_2 => cl_X10 cI cJ cS a u_2)) (As := []) (rest := []) (wr := []) X (c_X10_getReady l dC dI cI cJ cS a u  _ hf _) zc_X10_getReady q_ml_X10_113 ⟨rfl, rfl⟩ ⟨Nat.le_of_ble_eq_true rfl, Nat.le_of_ble_eq_true rfl⟩ hP hD hS hA (List.Perm.refl _) (fun _ => List.Perm.refl _) 9 rfl rfl hl.1 rfl rfl (Nat.le_of_ble_eq_true rfl) ⟨Nat.zero_le _, Nat.zero_le _⟩ dX10_flush_1 (fun u_2 H locs hf hP hD hS => ?_)
  refine lv_aload_n hx hb dX10_flush_4 rfl (lv_at hl 0 rfl) ?_
  refine va_get (D := (dC, dI)) (ci := 9) (v := .ref (a 1)) (C := RX10) (T := TX10) (N := 9) hx hb hts inX10 hown hK hP 0 rfl rfl 0 (by decide) (hts _ q_fl_X10_10) (fun _ h9 => h9) rfl dX10_flush_5 ?_
  refine lv_iconst (v := 4) hx hb dX10_flush_8 (by decide) ?_
  refine lv_iconst (v := 0) hx hb dX10_flush_9 (by decide) ?_
  refine lv_iconst (v := 0) hx hb dX10_flush_10 (by decide) ?_
  refine lv_iconst (v := 0) hx hb dX10_flush_11 (by decide) ?_
  refine lv_iconst (v := 0) hx hb dX10_flush_12 (by decide) ?_
  refine z_pVi (Wn := (fun u_4 => cl_X10 cI cJ cS a (u_4, u_2.2))) (As := [.int (4 : Int32), .int (0 : Int32), .int (0 : Int32), .int (0 : Int32), .int (0 : Int32)]) (rest := []) (wr := rr_X10_n cI cJ cS a u_2) X (c_X5_perform l dC dI cI cJ cS (fun i => a (1 + i)) u_2.1 (4 : Int32) (0 : Int32) (0 : Int32) (0 : Int32) (0 : Int32) _ hf _) zc_X5_perform q_ml_X10_76 ⟨rfl, rfl⟩ ⟨Nat.le_of_ble_eq_true rfl, Nat.le_of_ble_eq_true rfl⟩ hP hD hS hA (pm_X10_n cI cJ cS a u_2) (fun u_4 => pm_X10_n cI cJ cS a (u_4, u_2.2)) 4 rfl rfl hl.1 rfl rfl (Nat.le_of_ble_eq_true rfl) ⟨Nat.zero_le _, Nat.zero_le _⟩ dX10_flush_13 (fun r_3 u_4 H locs hf hP hD hS => ?_)
  exact z_retMi (Wf := (fun z => cl_X10 cI cJ cS a z)) (u := (u_4, u_2.2)) X hf hP hD hS dX10_flush_16
def s_X10_flush (u : zCls) (Q : Int32 → zCls → Prop) : Prop := ∃ (B : Nat) (G : zG), okG B G ∧ B + 20 ≤ 400000 ∧ cG G u ∧ ∀ u' : zCls, cG (fFlush G).2.2 u' → Q (fFlush G).2.1 u'
theorem st_X10_flush {u : zCls} {Q : Int32 → zCls → Prop} (h : s_X10_flush u Q) : t_X10_flush u Q := by
  obtain ⟨B, G, hG, hB, hc, hQ⟩ := h
  exact cact0_of (k := 4) hG hB hc (by decide) trivial rfl hQ
theorem c_X10_flush (l : Launch) (dC : Nat → ClassId) (dI : Nat → Nat → Nat) (cI cJ cS : ClassId) (a : Nat → Nat) (u : zCls) (Q : Int32 → zCls → Prop) (hf : s_X10_flush u Q) : ∀ sz : Nat, Met l yX10_flush (Cond.code yX10_flush cX10_flush 1 (some .int) :: zT) rm_X10_flush (zPm dC dI cI cJ cS (cl_X10 cI cJ cS a u) [.ref (a 0)] sz) (va_Qi Q (zB dC dI cI cJ cS (va_A (cl_X10 cI cJ cS a u) sz) (fun z => cl_X10 cI cJ cS a z)) (va_A (cl_X10 cI cJ cS a u) sz)) 0 0 (va_A (cl_X10 cI cJ cS a u) sz) := L_X10_flush l dC dI cI cJ cS a u Q (st_X10_flush hf)

def t_X10_merge (u : zCls) (Q : Int32 → zCls → Prop) : Prop := s_X10_getReady u (fun (u_2 : zCls) => s_X5_perform u_2.1 (9 : Int32) (0 : Int32) (0 : Int32) (0 : Int32) (0 : Int32) (fun (r_3 : Int32) (u_4 : zState) => Q r_3 (u_4, u_2.2)))
theorem zc_X10_merge : zCalV RX10 yX10_merge cX10_merge 1 (some .int) 0 := ⟨q_im_X10_merge, q_se_X10_merge, q_in_X10, q_cd_X10_merge, ⟨by decide, by decide, by decide +kernel⟩, rfl⟩
abbrev rm_X10_merge : Room := { frames := 7, cells := 0, slots := 0, locals := 190 }
set_option maxHeartbeats 4000000 in
set_option maxRecDepth 100000 in
theorem L_X10_merge (l : Launch) (dC : Nat → ClassId) (dI : Nat → Nat → Nat) (cI cJ cS : ClassId) (a : Nat → Nat) (u : zCls) (Q : Int32 → zCls → Prop) (hf : t_X10_merge u Q) : ∀ sz : Nat, Met l yX10_merge (Cond.code yX10_merge cX10_merge 1 (some .int) :: zT) rm_X10_merge (zPm dC dI cI cJ cS (cl_X10 cI cJ cS a u) [.ref (a 0)] sz) (va_Qi Q (zB dC dI cI cJ cS (va_A (cl_X10 cI cJ cS a u) sz) (fun z => cl_X10 cI cJ cS a z)) (va_A (cl_X10 cI cJ cS a u) sz)) 0 0 (va_A (cl_X10 cI cJ cS a u) sz) := by
  intro sz
  refine z_enterM (Qc := fun A => va_Qi Q (zB dC dI cI cJ cS A (fun z => cl_X10 cI cJ cS a z)) A) (cc := cX10_merge) (maxL := 1) (ret := (some .int)) (by decide) (Nat.le_of_ble_eq_true rfl) ?_
  intro p e s m below meth c ls A X hP hD hS hA hl
  obtain ⟨⟨hx, hb, hml, hown, hts⟩, hr, hlk, hK⟩ := id X
  have hl : lv_has ls 1 [(0, .ref (a 0))] := hl
  unfold t_X10_merge at hf
  refine lv_aload_n hx hb dX10_merge_0 rfl (lv_at hl 0 rfl) ?_
  refine z_pVv (Wn := (fun u_2 => cl_X10 cI cJ cS a u_2)) (As := []) (rest := []) (wr := []) X (c_X10_getReady l dC dI cI cJ cS a u  _ hf _) zc_X10_getReady q_ml_X10_113 ⟨rfl, rfl⟩ ⟨Nat.le_of_ble_eq_true rfl, Nat.le_of_ble_eq_true rfl⟩ hP hD hS hA (List.Perm.refl _) (fun _ => List.Perm.refl _) 9 rfl rfl hl.1 rfl rfl (Nat.le_of_ble_eq_true rfl) ⟨Nat.zero_le _, Nat.zero_le _⟩ dX10_merge_1 (fun u_2 H locs hf hP hD hS => ?_)
  refine lv_aload_n hx hb dX10_merge_4 rfl (lv_at hl 0 rfl) ?_
  refine va_get (D := (dC, dI)) (ci := 9) (v := .ref (a 1)) (C := RX10) (T := TX10) (N := 9) hx hb hts inX10 hown hK hP 0 rfl rfl 0 (by decide) (hts _ q_fl_X10_10) (fun _ h9 => h9) rfl dX10_merge_5 ?_
  refine lv_bipush (v := 9) hx hb dX10_merge_8 (by decide) ?_
  refine lv_iconst (v := 0) hx hb dX10_merge_10 (by decide) ?_
  refine lv_iconst (v := 0) hx hb dX10_merge_11 (by decide) ?_
  refine lv_iconst (v := 0) hx hb dX10_merge_12 (by decide) ?_
  refine lv_iconst (v := 0) hx hb dX10_merge_13 (by decide) ?_
  refine z_pVi (Wn := (fun u_4 => cl_X10 cI cJ cS a (u_4, u_2.2))) (As := [.int (9 : Int32), .int (0 : Int32), .int (0 : Int32), .int (0 : Int32), .int (0 : Int32)]) (rest := []) (wr := rr_X10_n cI cJ cS a u_2) X (c_X5_perform l dC dI cI cJ cS (fun i => a (1 + i)) u_2.1 (9 : Int32) (0 : Int32) (0 : Int32) (0 : Int32) (0 : Int32) _ hf _) zc_X5_perform q_ml_X10_76 ⟨rfl, rfl⟩ ⟨Nat.le_of_ble_eq_true rfl, Nat.le_of_ble_eq_true rfl⟩ hP hD hS hA (pm_X10_n cI cJ cS a u_2) (fun u_4 => pm_X10_n cI cJ cS a (u_4, u_2.2)) 4 rfl rfl hl.1 rfl rfl (Nat.le_of_ble_eq_true rfl) ⟨Nat.zero_le _, Nat.zero_le _⟩ dX10_merge_14 (fun r_3 u_4 H locs hf hP hD hS => ?_)
  exact z_retMi (Wf := (fun z => cl_X10 cI cJ cS a z)) (u := (u_4, u_2.2)) X hf hP hD hS dX10_merge_17
def s_X10_merge (u : zCls) (Q : Int32 → zCls → Prop) : Prop := ∃ (B : Nat) (G : zG), okG B G ∧ B + 20 ≤ 400000 ∧ cG G u ∧ ∀ u' : zCls, cG (fMerge G).2.2 u' → Q (fMerge G).2.1 u'
theorem st_X10_merge {u : zCls} {Q : Int32 → zCls → Prop} (h : s_X10_merge u Q) : t_X10_merge u Q := by
  obtain ⟨B, G, hG, hB, hc, hQ⟩ := h
  exact cact0_of (k := 9) hG hB hc (by decide) trivial rfl hQ
theorem c_X10_merge (l : Launch) (dC : Nat → ClassId) (dI : Nat → Nat → Nat) (cI cJ cS : ClassId) (a : Nat → Nat) (u : zCls) (Q : Int32 → zCls → Prop) (hf : s_X10_merge u Q) : ∀ sz : Nat, Met l yX10_merge (Cond.code yX10_merge cX10_merge 1 (some .int) :: zT) rm_X10_merge (zPm dC dI cI cJ cS (cl_X10 cI cJ cS a u) [.ref (a 0)] sz) (va_Qi Q (zB dC dI cI cJ cS (va_A (cl_X10 cI cJ cS a u) sz) (fun z => cl_X10 cI cJ cS a z)) (va_A (cl_X10 cI cJ cS a u) sz)) 0 0 (va_A (cl_X10 cI cJ cS a u) sz) := L_X10_merge l dC dI cI cJ cS a u Q (st_X10_merge hf)

def t_X10_crash (u : zCls) (Q : Int32 → zCls → Prop) : Prop := s_X10_getReady u (fun (u_2 : zCls) => s_X5_perform u_2.1 (5 : Int32) (0 : Int32) (0 : Int32) (0 : Int32) (0 : Int32) (fun (r_3 : Int32) (u_4 : zState) => Q r_3 (u_4, u_2.2)))
theorem zc_X10_crash : zCalV RX10 yX10_crash cX10_crash 1 (some .int) 0 := ⟨q_im_X10_crash, q_se_X10_crash, q_in_X10, q_cd_X10_crash, ⟨by decide, by decide, by decide +kernel⟩, rfl⟩
abbrev rm_X10_crash : Room := { frames := 7, cells := 0, slots := 0, locals := 190 }
set_option maxHeartbeats 4000000 in
set_option maxRecDepth 100000 in
theorem L_X10_crash (l : Launch) (dC : Nat → ClassId) (dI : Nat → Nat → Nat) (cI cJ cS : ClassId) (a : Nat → Nat) (u : zCls) (Q : Int32 → zCls → Prop) (hf : t_X10_crash u Q) : ∀ sz : Nat, Met l yX10_crash (Cond.code yX10_crash cX10_crash 1 (some .int) :: zT) rm_X10_crash (zPm dC dI cI cJ cS (cl_X10 cI cJ cS a u) [.ref (a 0)] sz) (va_Qi Q (zB dC dI cI cJ cS (va_A (cl_X10 cI cJ cS a u) sz) (fun z => cl_X10 cI cJ cS a z)) (va_A (cl_X10 cI cJ cS a u) sz)) 0 0 (va_A (cl_X10 cI cJ cS a u) sz) := by
  intro sz
  refine z_enterM (Qc := fun A => va_Qi Q (zB dC dI cI cJ cS A (fun z => cl_X10 cI cJ cS a z)) A) (cc := cX10_crash) (maxL := 1) (ret := (some .int)) (by decide) (Nat.le_of_ble_eq_true rfl) ?_
  intro p e s m below meth c ls A X hP hD hS hA hl
  obtain ⟨⟨hx, hb, hml, hown, hts⟩, hr, hlk, hK⟩ := id X
  have hl : lv_has ls 1 [(0, .ref (a 0))] := hl
  unfold t_X10_crash at hf
  refine lv_aload_n hx hb dX10_crash_0 rfl (lv_at hl 0 rfl) ?_
  refine z_pVv (Wn := (fun u_2 => cl_X10 cI cJ cS a u_2)) (As := []) (rest := []) (wr := []) X (c_X10_getReady l dC dI cI cJ cS a u  _ hf _) zc_X10_getReady q_ml_X10_113 ⟨rfl, rfl⟩ ⟨Nat.le_of_ble_eq_true rfl, Nat.le_of_ble_eq_true rfl⟩ hP hD hS hA (List.Perm.refl _) (fun _ => List.Perm.refl _) 9 rfl rfl hl.1 rfl rfl (Nat.le_of_ble_eq_true rfl) ⟨Nat.zero_le _, Nat.zero_le _⟩ dX10_crash_1 (fun u_2 H locs hf hP hD hS => ?_)
  refine lv_aload_n hx hb dX10_crash_4 rfl (lv_at hl 0 rfl) ?_
  refine va_get (D := (dC, dI)) (ci := 9) (v := .ref (a 1)) (C := RX10) (T := TX10) (N := 9) hx hb hts inX10 hown hK hP 0 rfl rfl 0 (by decide) (hts _ q_fl_X10_10) (fun _ h9 => h9) rfl dX10_crash_5 ?_
  refine lv_iconst (v := 5) hx hb dX10_crash_8 (by decide) ?_
  refine lv_iconst (v := 0) hx hb dX10_crash_9 (by decide) ?_
  refine lv_iconst (v := 0) hx hb dX10_crash_10 (by decide) ?_
  refine lv_iconst (v := 0) hx hb dX10_crash_11 (by decide) ?_
  refine lv_iconst (v := 0) hx hb dX10_crash_12 (by decide) ?_
  refine z_pVi (Wn := (fun u_4 => cl_X10 cI cJ cS a (u_4, u_2.2))) (As := [.int (5 : Int32), .int (0 : Int32), .int (0 : Int32), .int (0 : Int32), .int (0 : Int32)]) (rest := []) (wr := rr_X10_n cI cJ cS a u_2) X (c_X5_perform l dC dI cI cJ cS (fun i => a (1 + i)) u_2.1 (5 : Int32) (0 : Int32) (0 : Int32) (0 : Int32) (0 : Int32) _ hf _) zc_X5_perform q_ml_X10_76 ⟨rfl, rfl⟩ ⟨Nat.le_of_ble_eq_true rfl, Nat.le_of_ble_eq_true rfl⟩ hP hD hS hA (pm_X10_n cI cJ cS a u_2) (fun u_4 => pm_X10_n cI cJ cS a (u_4, u_2.2)) 4 rfl rfl hl.1 rfl rfl (Nat.le_of_ble_eq_true rfl) ⟨Nat.zero_le _, Nat.zero_le _⟩ dX10_crash_13 (fun r_3 u_4 H locs hf hP hD hS => ?_)
  exact z_retMi (Wf := (fun z => cl_X10 cI cJ cS a z)) (u := (u_4, u_2.2)) X hf hP hD hS dX10_crash_16
def s_X10_crash (u : zCls) (Q : Int32 → zCls → Prop) : Prop := ∃ (B : Nat) (G : zG), okG B G ∧ B + 20 ≤ 400000 ∧ cG G u ∧ ∀ u' : zCls, cG (fCrash G).2.2 u' → Q (fCrash G).2.1 u'
theorem st_X10_crash {u : zCls} {Q : Int32 → zCls → Prop} (h : s_X10_crash u Q) : t_X10_crash u Q := by
  obtain ⟨B, G, hG, hB, hc, hQ⟩ := h
  exact cact0_of (k := 5) hG hB hc (by decide) trivial rfl hQ
theorem c_X10_crash (l : Launch) (dC : Nat → ClassId) (dI : Nat → Nat → Nat) (cI cJ cS : ClassId) (a : Nat → Nat) (u : zCls) (Q : Int32 → zCls → Prop) (hf : s_X10_crash u Q) : ∀ sz : Nat, Met l yX10_crash (Cond.code yX10_crash cX10_crash 1 (some .int) :: zT) rm_X10_crash (zPm dC dI cI cJ cS (cl_X10 cI cJ cS a u) [.ref (a 0)] sz) (va_Qi Q (zB dC dI cI cJ cS (va_A (cl_X10 cI cJ cS a u) sz) (fun z => cl_X10 cI cJ cS a z)) (va_A (cl_X10 cI cJ cS a u) sz)) 0 0 (va_A (cl_X10 cI cJ cS a u) sz) := L_X10_crash l dC dI cI cJ cS a u Q (st_X10_crash hf)

def t_X10_put (u : zCls) (x1 : Int32) (x2 : Int32) (x3 : Int32) (Q : Int32 → zCls → Prop) (QX : String → zCls → Prop) : Prop := s_X10_lookAtKey x1 (fun (u_2 : Unit) => (∃ k_3 i_4 : Nat, (1 : Int32) = nI k_3 ∧ (1 : Int32) = nI i_4 ∧ k_3 < 10 ∧ i_4 < 4 ∧ (((if inR x2 (nLo k_3 i_4) (nHi k_3 i_4) then (1 : Int32) else 0) = 0 → QX "java/lang/IllegalArgumentException" u) ∧ (¬ (if inR x2 (nLo k_3 i_4) (nHi k_3 i_4) then (1 : Int32) else 0) = 0 → (∃ k_6 i_7 : Nat, (1 : Int32) = nI k_6 ∧ (2 : Int32) = nI i_7 ∧ k_6 < 10 ∧ i_7 < 4 ∧ ((¬ (if inR x3 (nLo k_6 i_7) (nHi k_6 i_7) then (1 : Int32) else 0) = 0 → s_X5_refusalOf u.1 (1 : Int32) x1 x2 (fun r_9 : Int32 => s_X10_lookAtRefusal u r_9 (fun (u_11 : zCls) => s_X5_perform u_11.1 (1 : Int32) x1 x2 x3 (0 : Int32) (fun (r_12 : Int32) (u_13 : zState) => Q r_12 (u_13, u_11.2))) (fun (E : String) (u_11 : zCls) => QX E u_11))) ∧ ((if inR x3 (nLo k_6 i_7) (nHi k_6 i_7) then (1 : Int32) else 0) = 0 → QX "java/lang/IllegalArgumentException" u))))))) (fun (E : String) (u_2 : Unit) => QX E u)
theorem zc_X10_put : zCalV RX10 yX10_put cX10_put 4 (some .int) 3 := ⟨q_im_X10_put, q_se_X10_put, q_in_X10, q_cd_X10_put, ⟨by decide, by decide, by decide +kernel⟩, rfl⟩
abbrev rm_X10_put : Room := { frames := 7, cells := 2, slots := 12, locals := 190 }
set_option maxHeartbeats 4000000 in
set_option maxRecDepth 100000 in
theorem L_X10_put (l : Launch) (hlt : l.stackTraces = false) (dC : Nat → ClassId) (dI : Nat → Nat → Nat) (cI cJ cS : ClassId) (a : Nat → Nat) (u : zCls) (x1 : Int32) (x2 : Int32) (x3 : Int32) (Q : Int32 → zCls → Prop) (QX : String → zCls → Prop) (hf : t_X10_put u x1 x2 x3 Q QX) : ∀ sz : Nat, vx_Met l yX10_put (Cond.code yX10_put cX10_put 4 (some .int) :: zT) rm_X10_put (zPmF zFy dC dI cI cJ cS (cl_X10 cI cJ cS a u) [.ref (a 0), .int x1, .int x2, .int x3] sz) (va_Qi Q (zB dC dI cI cJ cS (va_A (cl_X10 cI cJ cS a u) sz) (fun z => cl_X10 cI cJ cS a z)) (va_A (cl_X10 cI cJ cS a u) sz)) (zXc QX dC dI cI cJ cS (va_A (cl_X10 cI cJ cS a u) sz) (fun z => cl_X10 cI cJ cS a z)) 2 12 (va_A (cl_X10 cI cJ cS a u) sz) := by
  intro sz
  refine z_enterX (Qc := fun A => va_Qi Q (zB dC dI cI cJ cS A (fun z => cl_X10 cI cJ cS a z)) A) (XC := fun A => zXc QX dC dI cI cJ cS A (fun z => cl_X10 cI cJ cS a z)) (cc := cX10_put) (maxL := 4) (ret := (some .int)) (by decide) (Nat.le_of_ble_eq_true rfl) ?_
  intro p e s m below meth c ls A X htb hP hD hS hA hF hl
  obtain ⟨⟨hx, hb, hml, hown, hts⟩, hr, hlk, hK⟩ := id X
  have hl : lv_has ls 4 [(0, .ref (a 0)), (1, .int x1), (2, .int x2), (3, .int x3)] := hl
  unfold t_X10_put at hf
  refine lv_iload_n hx hb dX10_put_0 rfl (lv_at hl 1 rfl) ?_
  refine z_xSvO (Wn := (fun u_2 => cl_X10 cI cJ cS a u)) (As := [.int x1]) (rest := []) (wr := cl_X10 cI cJ cS a u) X fro_Fy hF (c_X10_lookAtKey l hlt dC dI cI cJ cS   x1 _ _ hf _) zc_X10_lookAtKey q_ml_X10_105 ⟨rfl, rfl⟩ ⟨Nat.le_of_ble_eq_true rfl, Nat.le_of_ble_eq_true rfl⟩ hP hD hS hA (pm_0 _) (fun _ => pm_0 _) (Wo := (fun z => cl_X10 cI cJ cS a z)) (fun u_2 => u) (fun _ => rfl) htb (fun _ _ h => h) ⟨Nat.le_of_ble_eq_true rfl, Nat.le_of_ble_eq_true rfl⟩ hl.1 rfl rfl (Nat.le_of_ble_eq_true rfl) ⟨Nat.le_of_ble_eq_true rfl, Nat.le_of_ble_eq_true rfl⟩ dX10_put_1 (fun u_2 H locs hf hP hD hS => ?_)
  refine lv_iconst (v := 1) hx hb dX10_put_4 (by decide) ?_
  refine lv_iconst (v := 1) hx hb dX10_put_5 (by decide) ?_
  refine lv_iload_n hx hb dX10_put_6 rfl (lv_at hl 2 rfl) ?_
  obtain ⟨k_3, i_4, ek_3, ei_4, lk_3, li_4, hf⟩ := hf
  refine z_jS (A := A) (F := zBd) (As := [.int (nI k_3), .int (nI i_4), .int x2]) (rest := []) X.1 fro_Bd ⟨hF.1.2.2.2.2.1, hF.1.2.2.2.2.2⟩ hS (c_X10_mayBe l k_3 i_4 lk_3 li_4 x2) zc_X10_mayBe q_ml_X10_99 ⟨rfl, rfl⟩ ⟨Nat.le_of_ble_eq_true rfl, Nat.le_of_ble_eq_true rfl⟩ hl.1 rfl (z_st3 ek_3 ei_4) (Nat.le_of_ble_eq_true rfl) ⟨Nat.le_of_ble_eq_true rfl, Nat.le_of_ble_eq_true rfl⟩ dX10_put_7 ?_
  refine lv_if_eq (tgt := 22) hx hb dX10_put_10 (by decide) (fun c_5 => ?_) (fun c_5 => ?_)
  · have hf := hf.1 c_5
    exact z_thrS (Wf := (fun z => cl_X10 cI cJ cS a z)) (u := u) 0 (by decide) 2 X hlt hF.2.2.2 htb hf hP hD hS hl.1 dX10_put_22 dX10_put_25 dX10_put_26 dX10_put_28 dX10_put_31 ⟨Nat.le_of_ble_eq_true rfl, Nat.le_of_ble_eq_true rfl⟩ ⟨Nat.le_of_ble_eq_true rfl, Nat.le_of_ble_eq_true rfl⟩ ⟨Nat.le_of_ble_eq_true rfl, Nat.le_of_ble_eq_true rfl⟩
  · have hf := hf.2 c_5
    refine lv_iconst (v := 1) hx hb dX10_put_13 (by decide) ?_
    refine lv_iconst (v := 2) hx hb dX10_put_14 (by decide) ?_
    refine lv_iload_n hx hb dX10_put_15 rfl (lv_at hl 3 rfl) ?_
    obtain ⟨k_6, i_7, ek_6, ei_7, lk_6, li_7, hf⟩ := hf
    refine z_jS (A := A) (F := zBd) (As := [.int (nI k_6), .int (nI i_7), .int x3]) (rest := []) X.1 fro_Bd ⟨hF.1.2.2.2.2.1, hF.1.2.2.2.2.2⟩ hS (c_X10_mayBe l k_6 i_7 lk_6 li_7 x3) zc_X10_mayBe q_ml_X10_99 ⟨rfl, rfl⟩ ⟨Nat.le_of_ble_eq_true rfl, Nat.le_of_ble_eq_true rfl⟩ hl.1 rfl (z_st3 ek_6 ei_7) (Nat.le_of_ble_eq_true rfl) ⟨Nat.le_of_ble_eq_true rfl, Nat.le_of_ble_eq_true rfl⟩ dX10_put_16 ?_
    refine lv_if_ne (tgt := 32) hx hb dX10_put_19 (by decide) (fun c_8 => ?_) (fun c_8 => ?_)
    · have hf := hf.1 c_8
      refine lv_aload_n hx hb dX10_put_32 rfl (lv_at hl 0 rfl) ?_
      refine lv_aload_n hx hb dX10_put_33 rfl (lv_at hl 0 rfl) ?_
      refine va_get (D := (dC, dI)) (ci := 9) (v := .ref (a 1)) (C := RX10) (T := TX10) (N := 9) hx hb hts inX10 hown hK hP 0 rfl rfl 0 (by decide) (hts _ q_fl_X10_10) (fun _ h9 => h9) rfl dX10_put_34 ?_
      refine lv_iconst (v := 1) hx hb dX10_put_37 (by decide) ?_
      refine lv_iload_n hx hb dX10_put_38 rfl (lv_at hl 1 rfl) ?_
      refine lv_iload_n hx hb dX10_put_39 rfl (lv_at hl 2 rfl) ?_
      refine z_cVi (As := [.int (1 : Int32), .int x1, .int x2]) (rest := [.ref (a 0)]) X (c_X5_refusalOf l dC dI cI cJ cS (fun i => a (1 + i)) u.1 (1 : Int32) x1 x2 _ hf) zc_X5_refusalOf q_ml_X10_72 ⟨rfl, rfl⟩ ⟨Nat.le_of_ble_eq_true rfl, Nat.le_of_ble_eq_true rfl⟩ hP [1, 2, 3, 4, 5, 6, 7, 8, 9, 10, 11, 12, 13, 14, 15] rfl 4 rfl rfl hl.1 rfl rfl (Nat.le_of_ble_eq_true rfl) ⟨Nat.le_of_ble_eq_true rfl, Nat.le_of_ble_eq_true rfl⟩ dX10_put_40 (fun r_9 hf => ?_)
      refine z_xVvO (Wn := (fun u_11 => cl_X10 cI cJ cS a u_11)) (As := [.int r_9]) (rest := []) (wr := []) X fro_Fy hF (c_X10_lookAtRefusal l hlt dC dI cI cJ cS a u r_9 _ _ hf _) zc_X10_lookAtRefusal q_ml_X10_110 ⟨rfl, rfl⟩ ⟨Nat.le_of_ble_eq_true rfl, Nat.le_of_ble_eq_true rfl⟩ hP hD hS hA (List.Perm.refl _) (fun _ => List.Perm.refl _) (Wo := (fun z => cl_X10 cI cJ cS a z)) (fun u_11 => u_11) (fun _ => rfl) htb (fun _ _ h => h) ⟨Nat.le_of_ble_eq_true rfl, Nat.le_of_ble_eq_true rfl⟩ 9 rfl rfl hl.1 rfl rfl (Nat.le_of_ble_eq_true rfl) ⟨Nat.le_of_ble_eq_true rfl, Nat.le_of_ble_eq_true rfl⟩ dX10_put_43 (fun u_11 H locs hf hP hD hS => ?_)
      refine lv_aload_n hx hb dX10_put_46 rfl (lv_at hl 0 rfl) ?_
      refine va_get (D := (dC, dI)) (ci := 9) (v := .ref (a 1)) (C := RX10) (T := TX10) (N := 9) hx hb hts inX10 hown hK hP 0 rfl rfl 0 (by decide) (hts _ q_fl_X10_10) (fun _ h9 => h9) rfl dX10_put_47 ?_
      refine lv_iconst (v := 1) hx hb dX10_put_50 (by decide) ?_
      refine lv_iload_n hx hb dX10_put_51 rfl (lv_at hl 1 rfl) ?_
      refine lv_iload_n hx hb dX10_put_52 rfl (lv_at hl 2 rfl) ?_
      refine lv_iload_n hx hb dX10_put_53 rfl (lv_at hl 3 rfl) ?_
      refine lv_iconst (v := 0) hx hb dX10_put_54 (by decide) ?_
      refine z_pVi (Wn := (fun u_13 => cl_X10 cI cJ cS a (u_13, u_11.2))) (As := [.int (1 : Int32), .int x1, .int x2, .int x3, .int (0 : Int32)]) (rest := []) (wr := rr_X10_n cI cJ cS a u_11) X (c_X5_perform l dC dI cI cJ cS (fun i => a (1 + i)) u_11.1 (1 : Int32) x1 x2 x3 (0 : Int32) _ hf _) zc_X5_perform q_ml_X10_76 ⟨rfl, rfl⟩ ⟨Nat.le_of_ble_eq_true rfl, Nat.le_of_ble_eq_true rfl⟩ hP hD hS hA (pm_X10_n cI cJ cS a u_11) (fun u_13 => pm_X10_n cI cJ cS a (u_13, u_11.2)) 4 rfl rfl hl.1 rfl rfl (Nat.le_of_ble_eq_true rfl) ⟨Nat.le_of_ble_eq_true rfl, Nat.le_of_ble_eq_true rfl⟩ dX10_put_55 (fun r_12 u_13 H locs hf hP hD hS => ?_)
      exact vx_ret (W.widen (k := 2) (n := 12) (Nat.le_of_ble_eq_true rfl) (Nat.le_of_ble_eq_true rfl) (z_retMi (Wf := (fun z => cl_X10 cI cJ cS a z)) (u := (u_13, u_11.2)) X hf hP hD hS dX10_put_58))
    · have hf := hf.2 c_8
      exact z_thrS (Wf := (fun z => cl_X10 cI cJ cS a z)) (u := u) 0 (by decide) 2 X hlt hF.2.2.2 htb hf hP hD hS hl.1 dX10_put_22 dX10_put_25 dX10_put_26 dX10_put_28 dX10_put_31 ⟨Nat.le_of_ble_eq_true rfl, Nat.le_of_ble_eq_true rfl⟩ ⟨Nat.le_of_ble_eq_true rfl, Nat.le_of_ble_eq_true rfl⟩ ⟨Nat.le_of_ble_eq_true rfl, Nat.le_of_ble_eq_true rfl⟩
theorem fPut_act {G : zG} {x1 x2 x3 : Int32} (h1 : inR x1 0 63) (h2 : inR x2 1 40 ∧ inR x3 0 255) : fPut G x1 x2 x3 = fAct G 1 x1 x2 x3 0 3 := by
  unfold fPut fAct
  rw [if_pos h1, if_pos h2, doAe_1]
  by_cases c : uFits (gNow G) (4 + x2) = true
  · rw [if_pos c, if_pos c, if_pos rfl]; rfl
  · rw [if_neg c, if_neg c, if_neg (show ¬ (1 : Int32) = 0 by decide)]
def s_X10_put (u : zCls) (x1 x2 x3 : Int32) (Q : Int32 → zCls → Prop) (QX : String → zCls → Prop) : Prop := ∃ (B : Nat) (G : zG), okG B G ∧ B + 20 ≤ 400000 ∧ cG G u ∧ cOut (fPut G x1 x2 x3) (exO 2 0 1) Q QX
theorem st_X10_put {u : zCls} {x1 x2 x3 : Int32} {Q : Int32 → zCls → Prop} {QX : String → zCls → Prop} (h : s_X10_put u x1 x2 x3 Q QX) : t_X10_put u x1 x2 x3 Q QX := by
  obtain ⟨B, G, hG, hB, hc, hQ⟩ := h
  refine lookKey_of (fun c1 => ?_) (fun c1 => ?_)
  · have no : ¬ (inR x2 1 40 ∧ inR x3 0 255) → QX "java/lang/IllegalArgumentException" u := fun q => by
      unfold fPut at hQ
      rw [if_pos c1, if_neg q] at hQ
      exact (hQ u hc).2 (show ¬ (2 : Int32) = 0 by decide)
    refine ⟨1, 1, rfl, rfl, by decide, by decide, mb_of (fun c2 => ⟨1, 2, rfl, rfl, by decide, by decide, mb_ofr (fun c3 => ?_) (fun c3 => no (fun q => c3 q.2))⟩) (fun c2 => no (fun q => c2 q.1))⟩
    rw [fPut_act c1 ⟨c2, c3⟩] at hQ
    exact cact_of (k := 1) hG hB hc (by decide) ⟨c1, c2, c3⟩ (by decide) rfl hQ
  · unfold fPut at hQ
    rw [if_neg c1] at hQ
    exact (hQ u hc).2 (show ¬ (1 : Int32) = 0 by decide)
theorem c_X10_put (l : Launch) (hlt : l.stackTraces = false) (dC : Nat → ClassId) (dI : Nat → Nat → Nat) (cI cJ cS : ClassId) (a : Nat → Nat) (u : zCls) (x1 : Int32) (x2 : Int32) (x3 : Int32) (Q : Int32 → zCls → Prop) (QX : String → zCls → Prop) (hf : s_X10_put u x1 x2 x3 Q QX) : ∀ sz : Nat, vx_Met l yX10_put (Cond.code yX10_put cX10_put 4 (some .int) :: zT) rm_X10_put (zPmF zFy dC dI cI cJ cS (cl_X10 cI cJ cS a u) [.ref (a 0), .int x1, .int x2, .int x3] sz) (va_Qi Q (zB dC dI cI cJ cS (va_A (cl_X10 cI cJ cS a u) sz) (fun z => cl_X10 cI cJ cS a z)) (va_A (cl_X10 cI cJ cS a u) sz)) (zXc QX dC dI cI cJ cS (va_A (cl_X10 cI cJ cS a u) sz) (fun z => cl_X10 cI cJ cS a z)) 2 12 (va_A (cl_X10 cI cJ cS a u) sz) := L_X10_put l hlt dC dI cI cJ cS a u x1 x2 x3 Q QX (st_X10_put hf)

def t_X10_drop (u : zCls) (x1 : Int32) (Q : Int32 → zCls → Prop) (QX : String → zCls → Prop) : Prop := s_X10_lookAtKey x1 (fun (u_2 : Unit) => s_X5_refusalOf u.1 (2 : Int32) x1 (0 : Int32) (fun r_3 : Int32 => s_X10_lookAtRefusal u r_3 (fun (u_5 : zCls) => s_X5_perform u_5.1 (2 : Int32) x1 (0 : Int32) (0 : Int32) (0 : Int32) (fun (r_6 : Int32) (u_7 : zState) => Q r_6 (u_7, u_5.2))) (fun (E : String) (u_5 : zCls) => QX E u_5))) (fun (E : String) (u_2 : Unit) => QX E u)
theorem zc_X10_drop : zCalV RX10 yX10_drop cX10_drop 2 (some .int) 1 := ⟨q_im_X10_drop, q_se_X10_drop, q_in_X10, q_cd_X10_drop, ⟨by decide, by decide, by decide +kernel⟩, rfl⟩
abbrev rm_X10_drop : Room := { frames := 7, cells := 2, slots := 12, locals := 190 }
set_option maxHeartbeats 4000000 in
set_option maxRecDepth 100000 in
theorem L_X10_drop (l : Launch) (hlt : l.stackTraces = false) (dC : Nat → ClassId) (dI : Nat → Nat → Nat) (cI cJ cS : ClassId) (a : Nat → Nat) (u : zCls) (x1 : Int32) (Q : Int32 → zCls → Prop) (QX : String → zCls → Prop) (hf : t_X10_drop u x1 Q QX) : ∀ sz : Nat, vx_Met l yX10_drop (Cond.code yX10_drop cX10_drop 2 (some .int) :: zT) rm_X10_drop (zPmF zFy dC dI cI cJ cS (cl_X10 cI cJ cS a u) [.ref (a 0), .int x1] sz) (va_Qi Q (zB dC dI cI cJ cS (va_A (cl_X10 cI cJ cS a u) sz) (fun z => cl_X10 cI cJ cS a z)) (va_A (cl_X10 cI cJ cS a u) sz)) (zXc QX dC dI cI cJ cS (va_A (cl_X10 cI cJ cS a u) sz) (fun z => cl_X10 cI cJ cS a z)) 2 12 (va_A (cl_X10 cI cJ cS a u) sz) := by
  intro sz
  refine z_enterX (Qc := fun A => va_Qi Q (zB dC dI cI cJ cS A (fun z => cl_X10 cI cJ cS a z)) A) (XC := fun A => zXc QX dC dI cI cJ cS A (fun z => cl_X10 cI cJ cS a z)) (cc := cX10_drop) (maxL := 2) (ret := (some .int)) (by decide) (Nat.le_of_ble_eq_true rfl) ?_
  intro p e s m below meth c ls A X htb hP hD hS hA hF hl
  obtain ⟨⟨hx, hb, hml, hown, hts⟩, hr, hlk, hK⟩ := id X
  have hl : lv_has ls 2 [(0, .ref (a 0)), (1, .int x1)] := hl
  unfold t_X10_drop at hf
  refine lv_iload_n hx hb dX10_drop_0 rfl (lv_at hl 1 rfl) ?_
  refine z_xSvO (Wn := (fun u_2 => cl_X10 cI cJ cS a u)) (As := [.int x1]) (rest := []) (wr := cl_X10 cI cJ cS a u) X fro_Fy hF (c_X10_lookAtKey l hlt dC dI cI cJ cS   x1 _ _ hf _) zc_X10_lookAtKey q_ml_X10_105 ⟨rfl, rfl⟩ ⟨Nat.le_of_ble_eq_true rfl, Nat.le_of_ble_eq_true rfl⟩ hP hD hS hA (pm_0 _) (fun _ => pm_0 _) (Wo := (fun z => cl_X10 cI cJ cS a z)) (fun u_2 => u) (fun _ => rfl) htb (fun _ _ h => h) ⟨Nat.le_of_ble_eq_true rfl, Nat.le_of_ble_eq_true rfl⟩ hl.1 rfl rfl (Nat.le_of_ble_eq_true rfl) ⟨Nat.le_of_ble_eq_true rfl, Nat.le_of_ble_eq_true rfl⟩ dX10_drop_1 (fun u_2 H locs hf hP hD hS => ?_)
  refine lv_aload_n hx hb dX10_drop_4 rfl (lv_at hl 0 rfl) ?_
  refine lv_aload_n hx hb dX10_drop_5 rfl (lv_at hl 0 rfl) ?_
  refine va_get (D := (dC, dI)) (ci := 9) (v := .ref (a 1)) (C := RX10) (T := TX10) (N := 9) hx hb hts inX10 hown hK hP 0 rfl rfl 0 (by decide) (hts _ q_fl_X10_10) (fun _ h9 => h9) rfl dX10_drop_6 ?_
  refine lv_iconst (v := 2) hx hb dX10_drop_9 (by decide) ?_
  refine lv_iload_n hx hb dX10_drop_10 rfl (lv_at hl 1 rfl) ?_
  refine lv_iconst (v := 0) hx hb dX10_drop_11 (by decide) ?_
  refine z_cVi (As := [.int (2 : Int32), .int x1, .int (0 : Int32)]) (rest := [.ref (a 0)]) X (c_X5_refusalOf l dC dI cI cJ cS (fun i => a (1 + i)) u.1 (2 : Int32) x1 (0 : Int32) _ hf) zc_X5_refusalOf q_ml_X10_72 ⟨rfl, rfl⟩ ⟨Nat.le_of_ble_eq_true rfl, Nat.le_of_ble_eq_true rfl⟩ hP [1, 2, 3, 4, 5, 6, 7, 8, 9, 10, 11, 12, 13, 14, 15] rfl 4 rfl rfl hl.1 rfl rfl (Nat.le_of_ble_eq_true rfl) ⟨Nat.le_of_ble_eq_true rfl, Nat.le_of_ble_eq_true rfl⟩ dX10_drop_12 (fun r_3 hf => ?_)
  refine z_xVvO (Wn := (fun u_5 => cl_X10 cI cJ cS a u_5)) (As := [.int r_3]) (rest := []) (wr := []) X fro_Fy hF (c_X10_lookAtRefusal l hlt dC dI cI cJ cS a u r_3 _ _ hf _) zc_X10_lookAtRefusal q_ml_X10_110 ⟨rfl, rfl⟩ ⟨Nat.le_of_ble_eq_true rfl, Nat.le_of_ble_eq_true rfl⟩ hP hD hS hA (List.Perm.refl _) (fun _ => List.Perm.refl _) (Wo := (fun z => cl_X10 cI cJ cS a z)) (fun u_5 => u_5) (fun _ => rfl) htb (fun _ _ h => h) ⟨Nat.le_of_ble_eq_true rfl, Nat.le_of_ble_eq_true rfl⟩ 9 rfl rfl hl.1 rfl rfl (Nat.le_of_ble_eq_true rfl) ⟨Nat.le_of_ble_eq_true rfl, Nat.le_of_ble_eq_true rfl⟩ dX10_drop_15 (fun u_5 H locs hf hP hD hS => ?_)
  refine lv_aload_n hx hb dX10_drop_18 rfl (lv_at hl 0 rfl) ?_
  refine va_get (D := (dC, dI)) (ci := 9) (v := .ref (a 1)) (C := RX10) (T := TX10) (N := 9) hx hb hts inX10 hown hK hP 0 rfl rfl 0 (by decide) (hts _ q_fl_X10_10) (fun _ h9 => h9) rfl dX10_drop_19 ?_
  refine lv_iconst (v := 2) hx hb dX10_drop_22 (by decide) ?_
  refine lv_iload_n hx hb dX10_drop_23 rfl (lv_at hl 1 rfl) ?_
  refine lv_iconst (v := 0) hx hb dX10_drop_24 (by decide) ?_
  refine lv_iconst (v := 0) hx hb dX10_drop_25 (by decide) ?_
  refine lv_iconst (v := 0) hx hb dX10_drop_26 (by decide) ?_
  refine z_pVi (Wn := (fun u_7 => cl_X10 cI cJ cS a (u_7, u_5.2))) (As := [.int (2 : Int32), .int x1, .int (0 : Int32), .int (0 : Int32), .int (0 : Int32)]) (rest := []) (wr := rr_X10_n cI cJ cS a u_5) X (c_X5_perform l dC dI cI cJ cS (fun i => a (1 + i)) u_5.1 (2 : Int32) x1 (0 : Int32) (0 : Int32) (0 : Int32) _ hf _) zc_X5_perform q_ml_X10_76 ⟨rfl, rfl⟩ ⟨Nat.le_of_ble_eq_true rfl, Nat.le_of_ble_eq_true rfl⟩ hP hD hS hA (pm_X10_n cI cJ cS a u_5) (fun u_7 => pm_X10_n cI cJ cS a (u_7, u_5.2)) 4 rfl rfl hl.1 rfl rfl (Nat.le_of_ble_eq_true rfl) ⟨Nat.le_of_ble_eq_true rfl, Nat.le_of_ble_eq_true rfl⟩ dX10_drop_27 (fun r_6 u_7 H locs hf hP hD hS => ?_)
  exact vx_ret (W.widen (k := 2) (n := 12) (Nat.le_of_ble_eq_true rfl) (Nat.le_of_ble_eq_true rfl) (z_retMi (Wf := (fun z => cl_X10 cI cJ cS a z)) (u := (u_7, u_5.2)) X hf hP hD hS dX10_drop_30))
theorem fDrop_act {G : zG} {x1 : Int32} (h1 : inR x1 0 63) : fDrop G x1 = fAct G 2 x1 0 0 0 2 := by
  unfold fDrop fAct
  rw [if_pos h1, doAe_2]
  by_cases c : uFits (gNow G) 4 = true
  · rw [if_pos c, if_pos c]
    by_cases d : uVal (gNow G) x1.toNatClampNeg = true
    · rw [if_pos d, if_pos d, if_pos rfl]; rfl
    · rw [if_neg d, if_neg d, if_neg (show ¬ (2 : Int32) = 0 by decide)]
  · rw [if_neg c, if_neg c, if_neg (show ¬ (1 : Int32) = 0 by decide)]
def s_X10_drop (u : zCls) (x1 : Int32) (Q : Int32 → zCls → Prop) (QX : String → zCls → Prop) : Prop := ∃ (B : Nat) (G : zG), okG B G ∧ B + 20 ≤ 400000 ∧ cG G u ∧ cOut (fDrop G x1) (exO 2 1 1) Q QX
theorem st_X10_drop {u : zCls} {x1 : Int32} {Q : Int32 → zCls → Prop} {QX : String → zCls → Prop} (h : s_X10_drop u x1 Q QX) : t_X10_drop u x1 Q QX := by
  obtain ⟨B, G, hG, hB, hc, hQ⟩ := h
  refine lookKey_of (fun c1 => ?_) (fun c1 => ?_)
  · rw [fDrop_act c1] at hQ
    exact cact_of (k := 2) hG hB hc (by decide) c1 (by decide) rfl hQ
  · unfold fDrop at hQ
    rw [if_neg c1] at hQ
    exact (hQ u hc).2 (show ¬ (1 : Int32) = 0 by decide)
theorem c_X10_drop (l : Launch) (hlt : l.stackTraces = false) (dC : Nat → ClassId) (dI : Nat → Nat → Nat) (cI cJ cS : ClassId) (a : Nat → Nat) (u : zCls) (x1 : Int32) (Q : Int32 → zCls → Prop) (QX : String → zCls → Prop) (hf : s_X10_drop u x1 Q QX) : ∀ sz : Nat, vx_Met l yX10_drop (Cond.code yX10_drop cX10_drop 2 (some .int) :: zT) rm_X10_drop (zPmF zFy dC dI cI cJ cS (cl_X10 cI cJ cS a u) [.ref (a 0), .int x1] sz) (va_Qi Q (zB dC dI cI cJ cS (va_A (cl_X10 cI cJ cS a u) sz) (fun z => cl_X10 cI cJ cS a z)) (va_A (cl_X10 cI cJ cS a u) sz)) (zXc QX dC dI cI cJ cS (va_A (cl_X10 cI cJ cS a u) sz) (fun z => cl_X10 cI cJ cS a z)) 2 12 (va_A (cl_X10 cI cJ cS a u) sz) := L_X10_drop l hlt dC dI cI cJ cS a u x1 Q QX (st_X10_drop hf)

def t_X10_pick (u : zCls) (x1 : Int32) (Q : Int32 → zCls → Prop) (QX : String → zCls → Prop) : Prop := ((x1 = (-1 : Int32) → s_X5_refusalOf u.1 (6 : Int32) x1 (0 : Int32) (fun r_2 : Int32 => s_X10_lookAtRefusal u r_2 (fun (u_4 : zCls) => s_X5_perform u_4.1 (6 : Int32) x1 (0 : Int32) (0 : Int32) (0 : Int32) (fun (r_5 : Int32) (u_6 : zState) => Q r_5 (u_6, u_4.2))) (fun (E : String) (u_4 : zCls) => QX E u_4))) ∧ (¬ x1 = (-1 : Int32) → s_X10_lookAtSegment x1 (fun (u_8 : Unit) => s_X5_refusalOf u.1 (6 : Int32) x1 (0 : Int32) (fun r_9 : Int32 => s_X10_lookAtRefusal u r_9 (fun (u_11 : zCls) => s_X5_perform u_11.1 (6 : Int32) x1 (0 : Int32) (0 : Int32) (0 : Int32) (fun (r_12 : Int32) (u_13 : zState) => Q r_12 (u_13, u_11.2))) (fun (E : String) (u_11 : zCls) => QX E u_11))) (fun (E : String) (u_8 : Unit) => QX E u)))
theorem zc_X10_pick : zCalV RX10 yX10_pick cX10_pick 2 (some .int) 1 := ⟨q_im_X10_pick, q_se_X10_pick, q_in_X10, q_cd_X10_pick, ⟨by decide, by decide, by decide +kernel⟩, rfl⟩
abbrev rm_X10_pick : Room := { frames := 7, cells := 2, slots := 12, locals := 190 }
set_option maxHeartbeats 4000000 in
set_option maxRecDepth 100000 in
theorem L_X10_pick (l : Launch) (hlt : l.stackTraces = false) (dC : Nat → ClassId) (dI : Nat → Nat → Nat) (cI cJ cS : ClassId) (a : Nat → Nat) (u : zCls) (x1 : Int32) (Q : Int32 → zCls → Prop) (QX : String → zCls → Prop) (hf : t_X10_pick u x1 Q QX) : ∀ sz : Nat, vx_Met l yX10_pick (Cond.code yX10_pick cX10_pick 2 (some .int) :: zT) rm_X10_pick (zPmF zFy dC dI cI cJ cS (cl_X10 cI cJ cS a u) [.ref (a 0), .int x1] sz) (va_Qi Q (zB dC dI cI cJ cS (va_A (cl_X10 cI cJ cS a u) sz) (fun z => cl_X10 cI cJ cS a z)) (va_A (cl_X10 cI cJ cS a u) sz)) (zXc QX dC dI cI cJ cS (va_A (cl_X10 cI cJ cS a u) sz) (fun z => cl_X10 cI cJ cS a z)) 2 12 (va_A (cl_X10 cI cJ cS a u) sz) := by
  intro sz
  refine z_enterX (Qc := fun A => va_Qi Q (zB dC dI cI cJ cS A (fun z => cl_X10 cI cJ cS a z)) A) (XC := fun A => zXc QX dC dI cI cJ cS A (fun z => cl_X10 cI cJ cS a z)) (cc := cX10_pick) (maxL := 2) (ret := (some .int)) (by decide) (Nat.le_of_ble_eq_true rfl) ?_
  intro p e s m below meth c ls A X htb hP hD hS hA hF hl
  obtain ⟨⟨hx, hb, hml, hown, hts⟩, hr, hlk, hK⟩ := id X
  have hl : lv_has ls 2 [(0, .ref (a 0)), (1, .int x1)] := hl
  unfold t_X10_pick at hf
  refine lv_iload_n hx hb dX10_pick_0 rfl (lv_at hl 1 rfl) ?_
  refine lv_iconst (v := (-1)) hx hb dX10_pick_1 (by decide) ?_
  refine lv_icmp_eq (tgt := 9) hx hb dX10_pick_2 (by decide) (fun c_1 => ?_) (fun c_1 => ?_)
  · have hf := hf.1 c_1
    refine lv_aload_n hx hb dX10_pick_9 rfl (lv_at hl 0 rfl) ?_
    refine lv_aload_n hx hb dX10_pick_10 rfl (lv_at hl 0 rfl) ?_
    refine va_get (D := (dC, dI)) (ci := 9) (v := .ref (a 1)) (C := RX10) (T := TX10) (N := 9) hx hb hts inX10 hown hK hP 0 rfl rfl 0 (by decide) (hts _ q_fl_X10_10) (fun _ h9 => h9) rfl dX10_pick_11 ?_
    refine lv_bipush (v := 6) hx hb dX10_pick_14 (by decide) ?_
    refine lv_iload_n hx hb dX10_pick_16 rfl (lv_at hl 1 rfl) ?_
    refine lv_iconst (v := 0) hx hb dX10_pick_17 (by decide) ?_
    refine z_cVi (As := [.int (6 : Int32), .int x1, .int (0 : Int32)]) (rest := [.ref (a 0)]) X (c_X5_refusalOf l dC dI cI cJ cS (fun i => a (1 + i)) u.1 (6 : Int32) x1 (0 : Int32) _ hf) zc_X5_refusalOf q_ml_X10_72 ⟨rfl, rfl⟩ ⟨Nat.le_of_ble_eq_true rfl, Nat.le_of_ble_eq_true rfl⟩ hP [1, 2, 3, 4, 5, 6, 7, 8, 9, 10, 11, 12, 13, 14, 15] rfl 4 rfl rfl hl.1 rfl rfl (Nat.le_of_ble_eq_true rfl) ⟨Nat.le_of_ble_eq_true rfl, Nat.le_of_ble_eq_true rfl⟩ dX10_pick_18 (fun r_2 hf => ?_)
    refine z_xVvO (Wn := (fun u_4 => cl_X10 cI cJ cS a u_4)) (As := [.int r_2]) (rest := []) (wr := []) X fro_Fy hF (c_X10_lookAtRefusal l hlt dC dI cI cJ cS a u r_2 _ _ hf _) zc_X10_lookAtRefusal q_ml_X10_110 ⟨rfl, rfl⟩ ⟨Nat.le_of_ble_eq_true rfl, Nat.le_of_ble_eq_true rfl⟩ hP hD hS hA (List.Perm.refl _) (fun _ => List.Perm.refl _) (Wo := (fun z => cl_X10 cI cJ cS a z)) (fun u_4 => u_4) (fun _ => rfl) htb (fun _ _ h => h) ⟨Nat.le_of_ble_eq_true rfl, Nat.le_of_ble_eq_true rfl⟩ 9 rfl rfl hl.1 rfl rfl (Nat.le_of_ble_eq_true rfl) ⟨Nat.le_of_ble_eq_true rfl, Nat.le_of_ble_eq_true rfl⟩ dX10_pick_21 (fun u_4 H locs hf hP hD hS => ?_)
    refine lv_aload_n hx hb dX10_pick_24 rfl (lv_at hl 0 rfl) ?_
    refine va_get (D := (dC, dI)) (ci := 9) (v := .ref (a 1)) (C := RX10) (T := TX10) (N := 9) hx hb hts inX10 hown hK hP 0 rfl rfl 0 (by decide) (hts _ q_fl_X10_10) (fun _ h9 => h9) rfl dX10_pick_25 ?_
    refine lv_bipush (v := 6) hx hb dX10_pick_28 (by decide) ?_
    refine lv_iload_n hx hb dX10_pick_30 rfl (lv_at hl 1 rfl) ?_
    refine lv_iconst (v := 0) hx hb dX10_pick_31 (by decide) ?_
    refine lv_iconst (v := 0) hx hb dX10_pick_32 (by decide) ?_
    refine lv_iconst (v := 0) hx hb dX10_pick_33 (by decide) ?_
    refine z_pVi (Wn := (fun u_6 => cl_X10 cI cJ cS a (u_6, u_4.2))) (As := [.int (6 : Int32), .int x1, .int (0 : Int32), .int (0 : Int32), .int (0 : Int32)]) (rest := []) (wr := rr_X10_n cI cJ cS a u_4) X (c_X5_perform l dC dI cI cJ cS (fun i => a (1 + i)) u_4.1 (6 : Int32) x1 (0 : Int32) (0 : Int32) (0 : Int32) _ hf _) zc_X5_perform q_ml_X10_76 ⟨rfl, rfl⟩ ⟨Nat.le_of_ble_eq_true rfl, Nat.le_of_ble_eq_true rfl⟩ hP hD hS hA (pm_X10_n cI cJ cS a u_4) (fun u_6 => pm_X10_n cI cJ cS a (u_6, u_4.2)) 4 rfl rfl hl.1 rfl rfl (Nat.le_of_ble_eq_true rfl) ⟨Nat.le_of_ble_eq_true rfl, Nat.le_of_ble_eq_true rfl⟩ dX10_pick_34 (fun r_5 u_6 H locs hf hP hD hS => ?_)
    exact vx_ret (W.widen (k := 2) (n := 12) (Nat.le_of_ble_eq_true rfl) (Nat.le_of_ble_eq_true rfl) (z_retMi (Wf := (fun z => cl_X10 cI cJ cS a z)) (u := (u_6, u_4.2)) X hf hP hD hS dX10_pick_37))
  · have hf := hf.2 c_1
    refine lv_iload_n hx hb dX10_pick_5 rfl (lv_at hl 1 rfl) ?_
    refine z_xSvO (Wn := (fun u_8 => cl_X10 cI cJ cS a u)) (As := [.int x1]) (rest := []) (wr := cl_X10 cI cJ cS a u) X fro_Fy hF (c_X10_lookAtSegment l hlt dC dI cI cJ cS   x1 _ _ hf _) zc_X10_lookAtSegment q_ml_X10_116 ⟨rfl, rfl⟩ ⟨Nat.le_of_ble_eq_true rfl, Nat.le_of_ble_eq_true rfl⟩ hP hD hS hA (pm_0 _) (fun _ => pm_0 _) (Wo := (fun z => cl_X10 cI cJ cS a z)) (fun u_8 => u) (fun _ => rfl) htb (fun _ _ h => h) ⟨Nat.le_of_ble_eq_true rfl, Nat.le_of_ble_eq_true rfl⟩ hl.1 rfl rfl (Nat.le_of_ble_eq_true rfl) ⟨Nat.le_of_ble_eq_true rfl, Nat.le_of_ble_eq_true rfl⟩ dX10_pick_6 (fun u_8 H locs hf hP hD hS => ?_)
    refine lv_aload_n hx hb dX10_pick_9 rfl (lv_at hl 0 rfl) ?_
    refine lv_aload_n hx hb dX10_pick_10 rfl (lv_at hl 0 rfl) ?_
    refine va_get (D := (dC, dI)) (ci := 9) (v := .ref (a 1)) (C := RX10) (T := TX10) (N := 9) hx hb hts inX10 hown hK hP 0 rfl rfl 0 (by decide) (hts _ q_fl_X10_10) (fun _ h9 => h9) rfl dX10_pick_11 ?_
    refine lv_bipush (v := 6) hx hb dX10_pick_14 (by decide) ?_
    refine lv_iload_n hx hb dX10_pick_16 rfl (lv_at hl 1 rfl) ?_
    refine lv_iconst (v := 0) hx hb dX10_pick_17 (by decide) ?_
    refine z_cVi (As := [.int (6 : Int32), .int x1, .int (0 : Int32)]) (rest := [.ref (a 0)]) X (c_X5_refusalOf l dC dI cI cJ cS (fun i => a (1 + i)) u.1 (6 : Int32) x1 (0 : Int32) _ hf) zc_X5_refusalOf q_ml_X10_72 ⟨rfl, rfl⟩ ⟨Nat.le_of_ble_eq_true rfl, Nat.le_of_ble_eq_true rfl⟩ hP [1, 2, 3, 4, 5, 6, 7, 8, 9, 10, 11, 12, 13, 14, 15] rfl 4 rfl rfl hl.1 rfl rfl (Nat.le_of_ble_eq_true rfl) ⟨Nat.le_of_ble_eq_true rfl, Nat.le_of_ble_eq_true rfl⟩ dX10_pick_18 (fun r_9 hf => ?_)
    refine z_xVvO (Wn := (fun u_11 => cl_X10 cI cJ cS a u_11)) (As := [.int r_9]) (rest := []) (wr := []) X fro_Fy hF (c_X10_lookAtRefusal l hlt dC dI cI cJ cS a u r_9 _ _ hf _) zc_X10_lookAtRefusal q_ml_X10_110 ⟨rfl, rfl⟩ ⟨Nat.le_of_ble_eq_true rfl, Nat.le_of_ble_eq_true rfl⟩ hP hD hS hA (List.Perm.refl _) (fun _ => List.Perm.refl _) (Wo := (fun z => cl_X10 cI cJ cS a z)) (fun u_11 => u_11) (fun _ => rfl) htb (fun _ _ h => h) ⟨Nat.le_of_ble_eq_true rfl, Nat.le_of_ble_eq_true rfl⟩ 9 rfl rfl hl.1 rfl rfl (Nat.le_of_ble_eq_true rfl) ⟨Nat.le_of_ble_eq_true rfl, Nat.le_of_ble_eq_true rfl⟩ dX10_pick_21 (fun u_11 H locs hf hP hD hS => ?_)
    refine lv_aload_n hx hb dX10_pick_24 rfl (lv_at hl 0 rfl) ?_
    refine va_get (D := (dC, dI)) (ci := 9) (v := .ref (a 1)) (C := RX10) (T := TX10) (N := 9) hx hb hts inX10 hown hK hP 0 rfl rfl 0 (by decide) (hts _ q_fl_X10_10) (fun _ h9 => h9) rfl dX10_pick_25 ?_
    refine lv_bipush (v := 6) hx hb dX10_pick_28 (by decide) ?_
    refine lv_iload_n hx hb dX10_pick_30 rfl (lv_at hl 1 rfl) ?_
    refine lv_iconst (v := 0) hx hb dX10_pick_31 (by decide) ?_
    refine lv_iconst (v := 0) hx hb dX10_pick_32 (by decide) ?_
    refine lv_iconst (v := 0) hx hb dX10_pick_33 (by decide) ?_
    refine z_pVi (Wn := (fun u_13 => cl_X10 cI cJ cS a (u_13, u_11.2))) (As := [.int (6 : Int32), .int x1, .int (0 : Int32), .int (0 : Int32), .int (0 : Int32)]) (rest := []) (wr := rr_X10_n cI cJ cS a u_11) X (c_X5_perform l dC dI cI cJ cS (fun i => a (1 + i)) u_11.1 (6 : Int32) x1 (0 : Int32) (0 : Int32) (0 : Int32) _ hf _) zc_X5_perform q_ml_X10_76 ⟨rfl, rfl⟩ ⟨Nat.le_of_ble_eq_true rfl, Nat.le_of_ble_eq_true rfl⟩ hP hD hS hA (pm_X10_n cI cJ cS a u_11) (fun u_13 => pm_X10_n cI cJ cS a (u_13, u_11.2)) 4 rfl rfl hl.1 rfl rfl (Nat.le_of_ble_eq_true rfl) ⟨Nat.le_of_ble_eq_true rfl, Nat.le_of_ble_eq_true rfl⟩ dX10_pick_34 (fun r_12 u_13 H locs hf hP hD hS => ?_)
    exact vx_ret (W.widen (k := 2) (n := 12) (Nat.le_of_ble_eq_true rfl) (Nat.le_of_ble_eq_true rfl) (z_retMi (Wf := (fun z => cl_X10 cI cJ cS a z)) (u := (u_13, u_11.2)) X hf hP hD hS dX10_pick_37))
theorem fPick_act {G : zG} {x1 : Int32} (h1 : x1 = -1 ∨ inR x1 0 11) : fPick G x1 = fAct G 6 x1 0 0 0 2 := by
  unfold fPick fAct
  rw [if_pos h1, doAe_6]
  by_cases c : uRp (gNow G) (uSel (gNow G) x1) = 0
  · rw [if_pos c, if_pos c, if_pos rfl]; rfl
  · rw [if_neg c, if_neg c, if_neg c]
def s_X10_pick (u : zCls) (x1 : Int32) (Q : Int32 → zCls → Prop) (QX : String → zCls → Prop) : Prop := ∃ (B : Nat) (G : zG), okG B G ∧ B + 20 ≤ 400000 ∧ cG G u ∧ cOut (fPick G x1) (exO 2 1 1) Q QX
theorem st_X10_pick {u : zCls} {x1 : Int32} {Q : Int32 → zCls → Prop} {QX : String → zCls → Prop} (h : s_X10_pick u x1 Q QX) : t_X10_pick u x1 Q QX := by
  obtain ⟨B, G, hG, hB, hc, hQ⟩ := h
  have act : ∀ hx : x1 = -1 ∨ inR x1 0 11, s_X5_refusalOf u.1 (6 : Int32) x1 (0 : Int32) (fun r_9 : Int32 => s_X10_lookAtRefusal u r_9 (fun (u_11 : zCls) => s_X5_perform u_11.1 (6 : Int32) x1 (0 : Int32) (0 : Int32) (0 : Int32) (fun (r_12 : Int32) (u_13 : zState) => Q r_12 (u_13, u_11.2))) (fun (E : String) (u_11 : zCls) => QX E u_11)) := fun hx => by
    rw [fPick_act hx] at hQ
    exact cact_of (k := 6) hG hB hc (by decide) hx (by decide) rfl hQ
  refine ⟨fun c => act (Or.inl c), fun c => lookSeg_of (fun c1 => act (Or.inr c1)) (fun c1 => ?_)⟩
  unfold fPick at hQ
  rw [if_neg (fun q => q.elim c c1)] at hQ
  exact (hQ u hc).2 (show ¬ (1 : Int32) = 0 by decide)
theorem c_X10_pick (l : Launch) (hlt : l.stackTraces = false) (dC : Nat → ClassId) (dI : Nat → Nat → Nat) (cI cJ cS : ClassId) (a : Nat → Nat) (u : zCls) (x1 : Int32) (Q : Int32 → zCls → Prop) (QX : String → zCls → Prop) (hf : s_X10_pick u x1 Q QX) : ∀ sz : Nat, vx_Met l yX10_pick (Cond.code yX10_pick cX10_pick 2 (some .int) :: zT) rm_X10_pick (zPmF zFy dC dI cI cJ cS (cl_X10 cI cJ cS a u) [.ref (a 0), .int x1] sz) (va_Qi Q (zB dC dI cI cJ cS (va_A (cl_X10 cI cJ cS a u) sz) (fun z => cl_X10 cI cJ cS a z)) (va_A (cl_X10 cI cJ cS a u) sz)) (zXc QX dC dI cI cJ cS (va_A (cl_X10 cI cJ cS a u) sz) (fun z => cl_X10 cI cJ cS a z)) 2 12 (va_A (cl_X10 cI cJ cS a u) sz) := L_X10_pick l hlt dC dI cI cJ cS a u x1 Q QX (st_X10_pick hf)

def t_X10_step (u : zCls) (x1 : Int32) (Q : Int32 → zCls → Prop) (QX : String → zCls → Prop) : Prop := (∃ k_1 i_2 : Nat, (7 : Int32) = nI k_1 ∧ (0 : Int32) = nI i_2 ∧ k_1 < 10 ∧ i_2 < 4 ∧ ((¬ (if inR x1 (nLo k_1 i_2) (nHi k_1 i_2) then (1 : Int32) else 0) = 0 → s_X5_refusalOf u.1 (7 : Int32) x1 (0 : Int32) (fun r_4 : Int32 => s_X10_lookAtRefusal u r_4 (fun (u_6 : zCls) => s_X5_perform u_6.1 (7 : Int32) x1 (0 : Int32) (0 : Int32) (0 : Int32) (fun (r_7 : Int32) (u_8 : zState) => Q r_7 (u_8, u_6.2))) (fun (E : String) (u_6 : zCls) => QX E u_6))) ∧ ((if inR x1 (nLo k_1 i_2) (nHi k_1 i_2) then (1 : Int32) else 0) = 0 → QX "java/lang/IllegalArgumentException" u)))
theorem zc_X10_step : zCalV RX10 yX10_step cX10_step 2 (some .int) 1 := ⟨q_im_X10_step, q_se_X10_step, q_in_X10, q_cd_X10_step, ⟨by decide, by decide, by decide +kernel⟩, rfl⟩
abbrev rm_X10_step : Room := { frames := 7, cells := 1, slots := 6, locals := 190 }
set_option maxHeartbeats 4000000 in
set_option maxRecDepth 100000 in
theorem L_X10_step (l : Launch) (hlt : l.stackTraces = false) (dC : Nat → ClassId) (dI : Nat → Nat → Nat) (cI cJ cS : ClassId) (a : Nat → Nat) (u : zCls) (x1 : Int32) (Q : Int32 → zCls → Prop) (QX : String → zCls → Prop) (hf : t_X10_step u x1 Q QX) : ∀ sz : Nat, vx_Met l yX10_step (Cond.code yX10_step cX10_step 2 (some .int) :: zT) rm_X10_step (zPmF zFy dC dI cI cJ cS (cl_X10 cI cJ cS a u) [.ref (a 0), .int x1] sz) (va_Qi Q (zB dC dI cI cJ cS (va_A (cl_X10 cI cJ cS a u) sz) (fun z => cl_X10 cI cJ cS a z)) (va_A (cl_X10 cI cJ cS a u) sz)) (zXc QX dC dI cI cJ cS (va_A (cl_X10 cI cJ cS a u) sz) (fun z => cl_X10 cI cJ cS a z)) 1 6 (va_A (cl_X10 cI cJ cS a u) sz) := by
  intro sz
  refine z_enterX (Qc := fun A => va_Qi Q (zB dC dI cI cJ cS A (fun z => cl_X10 cI cJ cS a z)) A) (XC := fun A => zXc QX dC dI cI cJ cS A (fun z => cl_X10 cI cJ cS a z)) (cc := cX10_step) (maxL := 2) (ret := (some .int)) (by decide) (Nat.le_of_ble_eq_true rfl) ?_
  intro p e s m below meth c ls A X htb hP hD hS hA hF hl
  obtain ⟨⟨hx, hb, hml, hown, hts⟩, hr, hlk, hK⟩ := id X
  have hl : lv_has ls 2 [(0, .ref (a 0)), (1, .int x1)] := hl
  unfold t_X10_step at hf
  refine lv_bipush (v := 7) hx hb dX10_step_0 (by decide) ?_
  refine lv_iconst (v := 0) hx hb dX10_step_2 (by decide) ?_
  refine lv_iload_n hx hb dX10_step_3 rfl (lv_at hl 1 rfl) ?_
  obtain ⟨k_1, i_2, ek_1, ei_2, lk_1, li_2, hf⟩ := hf
  refine z_jS (A := A) (F := zBd) (As := [.int (nI k_1), .int (nI i_2), .int x1]) (rest := []) X.1 fro_Bd ⟨hF.1.2.2.2.2.1, hF.1.2.2.2.2.2⟩ hS (c_X10_mayBe l k_1 i_2 lk_1 li_2 x1) zc_X10_mayBe q_ml_X10_99 ⟨rfl, rfl⟩ ⟨Nat.le_of_ble_eq_true rfl, Nat.le_of_ble_eq_true rfl⟩ hl.1 rfl (z_st3 ek_1 ei_2) (Nat.le_of_ble_eq_true rfl) ⟨Nat.le_of_ble_eq_true rfl, Nat.le_of_ble_eq_true rfl⟩ dX10_step_4 ?_
  refine lv_if_ne (tgt := 20) hx hb dX10_step_7 (by decide) (fun c_3 => ?_) (fun c_3 => ?_)
  · have hf := hf.1 c_3
    refine lv_aload_n hx hb dX10_step_20 rfl (lv_at hl 0 rfl) ?_
    refine lv_aload_n hx hb dX10_step_21 rfl (lv_at hl 0 rfl) ?_
    refine va_get (D := (dC, dI)) (ci := 9) (v := .ref (a 1)) (C := RX10) (T := TX10) (N := 9) hx hb hts inX10 hown hK hP 0 rfl rfl 0 (by decide) (hts _ q_fl_X10_10) (fun _ h9 => h9) rfl dX10_step_22 ?_
    refine lv_bipush (v := 7) hx hb dX10_step_25 (by decide) ?_
    refine lv_iload_n hx hb dX10_step_27 rfl (lv_at hl 1 rfl) ?_
    refine lv_iconst (v := 0) hx hb dX10_step_28 (by decide) ?_
    refine z_cVi (As := [.int (7 : Int32), .int x1, .int (0 : Int32)]) (rest := [.ref (a 0)]) X (c_X5_refusalOf l dC dI cI cJ cS (fun i => a (1 + i)) u.1 (7 : Int32) x1 (0 : Int32) _ hf) zc_X5_refusalOf q_ml_X10_72 ⟨rfl, rfl⟩ ⟨Nat.le_of_ble_eq_true rfl, Nat.le_of_ble_eq_true rfl⟩ hP [1, 2, 3, 4, 5, 6, 7, 8, 9, 10, 11, 12, 13, 14, 15] rfl 4 rfl rfl hl.1 rfl rfl (Nat.le_of_ble_eq_true rfl) ⟨Nat.le_of_ble_eq_true rfl, Nat.le_of_ble_eq_true rfl⟩ dX10_step_29 (fun r_4 hf => ?_)
    refine z_xVvO (Wn := (fun u_6 => cl_X10 cI cJ cS a u_6)) (As := [.int r_4]) (rest := []) (wr := []) X fro_Fy hF (c_X10_lookAtRefusal l hlt dC dI cI cJ cS a u r_4 _ _ hf _) zc_X10_lookAtRefusal q_ml_X10_110 ⟨rfl, rfl⟩ ⟨Nat.le_of_ble_eq_true rfl, Nat.le_of_ble_eq_true rfl⟩ hP hD hS hA (List.Perm.refl _) (fun _ => List.Perm.refl _) (Wo := (fun z => cl_X10 cI cJ cS a z)) (fun u_6 => u_6) (fun _ => rfl) htb (fun _ _ h => h) ⟨Nat.le_of_ble_eq_true rfl, Nat.le_of_ble_eq_true rfl⟩ 9 rfl rfl hl.1 rfl rfl (Nat.le_of_ble_eq_true rfl) ⟨Nat.le_of_ble_eq_true rfl, Nat.le_of_ble_eq_true rfl⟩ dX10_step_32 (fun u_6 H locs hf hP hD hS => ?_)
    refine lv_aload_n hx hb dX10_step_35 rfl (lv_at hl 0 rfl) ?_
    refine va_get (D := (dC, dI)) (ci := 9) (v := .ref (a 1)) (C := RX10) (T := TX10) (N := 9) hx hb hts inX10 hown hK hP 0 rfl rfl 0 (by decide) (hts _ q_fl_X10_10) (fun _ h9 => h9) rfl dX10_step_36 ?_
    refine lv_bipush (v := 7) hx hb dX10_step_39 (by decide) ?_
    refine lv_iload_n hx hb dX10_step_41 rfl (lv_at hl 1 rfl) ?_
    refine lv_iconst (v := 0) hx hb dX10_step_42 (by decide) ?_
    refine lv_iconst (v := 0) hx hb dX10_step_43 (by decide) ?_
    refine lv_iconst (v := 0) hx hb dX10_step_44 (by decide) ?_
    refine z_pVi (Wn := (fun u_8 => cl_X10 cI cJ cS a (u_8, u_6.2))) (As := [.int (7 : Int32), .int x1, .int (0 : Int32), .int (0 : Int32), .int (0 : Int32)]) (rest := []) (wr := rr_X10_n cI cJ cS a u_6) X (c_X5_perform l dC dI cI cJ cS (fun i => a (1 + i)) u_6.1 (7 : Int32) x1 (0 : Int32) (0 : Int32) (0 : Int32) _ hf _) zc_X5_perform q_ml_X10_76 ⟨rfl, rfl⟩ ⟨Nat.le_of_ble_eq_true rfl, Nat.le_of_ble_eq_true rfl⟩ hP hD hS hA (pm_X10_n cI cJ cS a u_6) (fun u_8 => pm_X10_n cI cJ cS a (u_8, u_6.2)) 4 rfl rfl hl.1 rfl rfl (Nat.le_of_ble_eq_true rfl) ⟨Nat.le_of_ble_eq_true rfl, Nat.le_of_ble_eq_true rfl⟩ dX10_step_45 (fun r_7 u_8 H locs hf hP hD hS => ?_)
    exact vx_ret (W.widen (k := 1) (n := 6) (Nat.le_of_ble_eq_true rfl) (Nat.le_of_ble_eq_true rfl) (z_retMi (Wf := (fun z => cl_X10 cI cJ cS a z)) (u := (u_8, u_6.2)) X hf hP hD hS dX10_step_48))
  · have hf := hf.2 c_3
    exact z_thrS (Wf := (fun z => cl_X10 cI cJ cS a z)) (u := u) 0 (by decide) 3 X hlt hF.2.2.2 htb hf hP hD hS hl.1 dX10_step_10 dX10_step_13 dX10_step_14 dX10_step_16 dX10_step_19 ⟨Nat.le_of_ble_eq_true rfl, Nat.le_of_ble_eq_true rfl⟩ ⟨Nat.le_of_ble_eq_true rfl, Nat.le_of_ble_eq_true rfl⟩ ⟨Nat.le_of_ble_eq_true rfl, Nat.le_of_ble_eq_true rfl⟩
theorem fStep_act {G : zG} {x1 : Int32} (h1 : inR x1 1 20) : fStep G x1 = fAct G 7 x1 0 0 0 2 := by
  unfold fStep fAct
  rw [if_pos h1, doAe_7]
  by_cases c : uRst (gNow G) x1.toNatClampNeg = 0
  · rw [if_pos c, if_pos c, if_pos rfl]; rfl
  · rw [if_neg c, if_neg c, if_neg c]
def s_X10_step (u : zCls) (x1 : Int32) (Q : Int32 → zCls → Prop) (QX : String → zCls → Prop) : Prop := ∃ (B : Nat) (G : zG), okG B G ∧ B + 20 ≤ 400000 ∧ cG G u ∧ cOut (fStep G x1) (exO 0 1 1) Q QX
theorem st_X10_step {u : zCls} {x1 : Int32} {Q : Int32 → zCls → Prop} {QX : String → zCls → Prop} (h : s_X10_step u x1 Q QX) : t_X10_step u x1 Q QX := by
  obtain ⟨B, G, hG, hB, hc, hQ⟩ := h
  have yes : inR x1 1 20 → s_X5_refusalOf u.1 (7 : Int32) x1 (0 : Int32) (fun r_9 : Int32 => s_X10_lookAtRefusal u r_9 (fun (u_11 : zCls) => s_X5_perform u_11.1 (7 : Int32) x1 (0 : Int32) (0 : Int32) (0 : Int32) (fun (r_12 : Int32) (u_13 : zState) => Q r_12 (u_13, u_11.2))) (fun (E : String) (u_11 : zCls) => QX E u_11)) := fun c1 => by
    rw [fStep_act c1] at hQ
    exact cact_of (k := 7) hG hB hc (by decide) c1 (by decide) rfl hQ
  have no : ¬ inR x1 1 20 → QX "java/lang/IllegalArgumentException" u := fun c1 => by
    unfold fStep at hQ
    rw [if_neg c1] at hQ
    exact (hQ u hc).2 (show ¬ (1 : Int32) = 0 by decide)
  exact ⟨7, 0, rfl, rfl, by decide, by decide, mb_ofr yes no⟩
theorem c_X10_step (l : Launch) (hlt : l.stackTraces = false) (dC : Nat → ClassId) (dI : Nat → Nat → Nat) (cI cJ cS : ClassId) (a : Nat → Nat) (u : zCls) (x1 : Int32) (Q : Int32 → zCls → Prop) (QX : String → zCls → Prop) (hf : s_X10_step u x1 Q QX) : ∀ sz : Nat, vx_Met l yX10_step (Cond.code yX10_step cX10_step 2 (some .int) :: zT) rm_X10_step (zPmF zFy dC dI cI cJ cS (cl_X10 cI cJ cS a u) [.ref (a 0), .int x1] sz) (va_Qi Q (zB dC dI cI cJ cS (va_A (cl_X10 cI cJ cS a u) sz) (fun z => cl_X10 cI cJ cS a z)) (va_A (cl_X10 cI cJ cS a u) sz)) (zXc QX dC dI cI cJ cS (va_A (cl_X10 cI cJ cS a u) sz) (fun z => cl_X10 cI cJ cS a z)) 1 6 (va_A (cl_X10 cI cJ cS a u) sz) := L_X10_step l hlt dC dI cI cJ cS a u x1 Q QX (st_X10_step hf)

def t_X10_quit (u : zCls) (Q : Int32 → zCls → Prop) (QX : String → zCls → Prop) : Prop := s_X5_refusalOf u.1 (8 : Int32) (0 : Int32) (0 : Int32) (fun r_1 : Int32 => s_X10_lookAtRefusal u r_1 (fun (u_3 : zCls) => s_X5_perform u_3.1 (8 : Int32) (0 : Int32) (0 : Int32) (0 : Int32) (0 : Int32) (fun (r_4 : Int32) (u_5 : zState) => Q r_4 (u_5, u_3.2))) (fun (E : String) (u_3 : zCls) => QX E u_3))
theorem zc_X10_quit : zCalV RX10 yX10_quit cX10_quit 1 (some .int) 0 := ⟨q_im_X10_quit, q_se_X10_quit, q_in_X10, q_cd_X10_quit, ⟨by decide, by decide, by decide +kernel⟩, rfl⟩
abbrev rm_X10_quit : Room := { frames := 7, cells := 1, slots := 6, locals := 190 }
set_option maxHeartbeats 4000000 in
set_option maxRecDepth 100000 in
theorem L_X10_quit (l : Launch) (hlt : l.stackTraces = false) (dC : Nat → ClassId) (dI : Nat → Nat → Nat) (cI cJ cS : ClassId) (a : Nat → Nat) (u : zCls) (Q : Int32 → zCls → Prop) (QX : String → zCls → Prop) (hf : t_X10_quit u Q QX) : ∀ sz : Nat, vx_Met l yX10_quit (Cond.code yX10_quit cX10_quit 1 (some .int) :: zT) rm_X10_quit (zPmF zFy dC dI cI cJ cS (cl_X10 cI cJ cS a u) [.ref (a 0)] sz) (va_Qi Q (zB dC dI cI cJ cS (va_A (cl_X10 cI cJ cS a u) sz) (fun z => cl_X10 cI cJ cS a z)) (va_A (cl_X10 cI cJ cS a u) sz)) (zXc QX dC dI cI cJ cS (va_A (cl_X10 cI cJ cS a u) sz) (fun z => cl_X10 cI cJ cS a z)) 1 6 (va_A (cl_X10 cI cJ cS a u) sz) := by
  intro sz
  refine z_enterX (Qc := fun A => va_Qi Q (zB dC dI cI cJ cS A (fun z => cl_X10 cI cJ cS a z)) A) (XC := fun A => zXc QX dC dI cI cJ cS A (fun z => cl_X10 cI cJ cS a z)) (cc := cX10_quit) (maxL := 1) (ret := (some .int)) (by decide) (Nat.le_of_ble_eq_true rfl) ?_
  intro p e s m below meth c ls A X htb hP hD hS hA hF hl
  obtain ⟨⟨hx, hb, hml, hown, hts⟩, hr, hlk, hK⟩ := id X
  have hl : lv_has ls 1 [(0, .ref (a 0))] := hl
  unfold t_X10_quit at hf
  refine lv_aload_n hx hb dX10_quit_0 rfl (lv_at hl 0 rfl) ?_
  refine lv_aload_n hx hb dX10_quit_1 rfl (lv_at hl 0 rfl) ?_
  refine va_get (D := (dC, dI)) (ci := 9) (v := .ref (a 1)) (C := RX10) (T := TX10) (N := 9) hx hb hts inX10 hown hK hP 0 rfl rfl 0 (by decide) (hts _ q_fl_X10_10) (fun _ h9 => h9) rfl dX10_quit_2 ?_
  refine lv_bipush (v := 8) hx hb dX10_quit_5 (by decide) ?_
  refine lv_iconst (v := 0) hx hb dX10_quit_7 (by decide) ?_
  refine lv_iconst (v := 0) hx hb dX10_quit_8 (by decide) ?_
  refine z_cVi (As := [.int (8 : Int32), .int (0 : Int32), .int (0 : Int32)]) (rest := [.ref (a 0)]) X (c_X5_refusalOf l dC dI cI cJ cS (fun i => a (1 + i)) u.1 (8 : Int32) (0 : Int32) (0 : Int32) _ hf) zc_X5_refusalOf q_ml_X10_72 ⟨rfl, rfl⟩ ⟨Nat.le_of_ble_eq_true rfl, Nat.le_of_ble_eq_true rfl⟩ hP [1, 2, 3, 4, 5, 6, 7, 8, 9, 10, 11, 12, 13, 14, 15] rfl 4 rfl rfl hl.1 rfl rfl (Nat.le_of_ble_eq_true rfl) ⟨Nat.le_of_ble_eq_true rfl, Nat.le_of_ble_eq_true rfl⟩ dX10_quit_9 (fun r_1 hf => ?_)
  refine z_xVvO (Wn := (fun u_3 => cl_X10 cI cJ cS a u_3)) (As := [.int r_1]) (rest := []) (wr := []) X fro_Fy hF (c_X10_lookAtRefusal l hlt dC dI cI cJ cS a u r_1 _ _ hf _) zc_X10_lookAtRefusal q_ml_X10_110 ⟨rfl, rfl⟩ ⟨Nat.le_of_ble_eq_true rfl, Nat.le_of_ble_eq_true rfl⟩ hP hD hS hA (List.Perm.refl _) (fun _ => List.Perm.refl _) (Wo := (fun z => cl_X10 cI cJ cS a z)) (fun u_3 => u_3) (fun _ => rfl) htb (fun _ _ h => h) ⟨Nat.le_of_ble_eq_true rfl, Nat.le_of_ble_eq_true rfl⟩ 9 rfl rfl hl.1 rfl rfl (Nat.le_of_ble_eq_true rfl) ⟨Nat.le_of_ble_eq_true rfl, Nat.le_of_ble_eq_true rfl⟩ dX10_quit_12 (fun u_3 H locs hf hP hD hS => ?_)
  refine lv_aload_n hx hb dX10_quit_15 rfl (lv_at hl 0 rfl) ?_
  refine va_get (D := (dC, dI)) (ci := 9) (v := .ref (a 1)) (C := RX10) (T := TX10) (N := 9) hx hb hts inX10 hown hK hP 0 rfl rfl 0 (by decide) (hts _ q_fl_X10_10) (fun _ h9 => h9) rfl dX10_quit_16 ?_
  refine lv_bipush (v := 8) hx hb dX10_quit_19 (by decide) ?_
  refine lv_iconst (v := 0) hx hb dX10_quit_21 (by decide) ?_
  refine lv_iconst (v := 0) hx hb dX10_quit_22 (by decide) ?_
  refine lv_iconst (v := 0) hx hb dX10_quit_23 (by decide) ?_
  refine lv_iconst (v := 0) hx hb dX10_quit_24 (by decide) ?_
  refine z_pVi (Wn := (fun u_5 => cl_X10 cI cJ cS a (u_5, u_3.2))) (As := [.int (8 : Int32), .int (0 : Int32), .int (0 : Int32), .int (0 : Int32), .int (0 : Int32)]) (rest := []) (wr := rr_X10_n cI cJ cS a u_3) X (c_X5_perform l dC dI cI cJ cS (fun i => a (1 + i)) u_3.1 (8 : Int32) (0 : Int32) (0 : Int32) (0 : Int32) (0 : Int32) _ hf _) zc_X5_perform q_ml_X10_76 ⟨rfl, rfl⟩ ⟨Nat.le_of_ble_eq_true rfl, Nat.le_of_ble_eq_true rfl⟩ hP hD hS hA (pm_X10_n cI cJ cS a u_3) (fun u_5 => pm_X10_n cI cJ cS a (u_5, u_3.2)) 4 rfl rfl hl.1 rfl rfl (Nat.le_of_ble_eq_true rfl) ⟨Nat.le_of_ble_eq_true rfl, Nat.le_of_ble_eq_true rfl⟩ dX10_quit_25 (fun r_4 u_5 H locs hf hP hD hS => ?_)
  exact vx_ret (W.widen (k := 1) (n := 6) (Nat.le_of_ble_eq_true rfl) (Nat.le_of_ble_eq_true rfl) (z_retMi (Wf := (fun z => cl_X10 cI cJ cS a z)) (u := (u_5, u_3.2)) X hf hP hD hS dX10_quit_28))
theorem fQuit_act (G : zG) : fQuit G = fAct G 8 0 0 0 0 1 := by
  unfold fQuit fAct
  rw [doAe_8]
  by_cases c : (gNow G).2.2.2.2.1.2.1 = -1
  · rw [if_pos c, if_pos c, if_neg (show ¬ (5 : Int32) = 0 by decide)]
  · rw [if_neg c, if_neg c, if_pos rfl]; rfl
def s_X10_quit (u : zCls) (Q : Int32 → zCls → Prop) (QX : String → zCls → Prop) : Prop := ∃ (B : Nat) (G : zG), okG B G ∧ B + 20 ≤ 400000 ∧ cG G u ∧ cOut (fQuit G) (exO 1 1 1) Q QX
theorem st_X10_quit {u : zCls} {Q : Int32 → zCls → Prop} {QX : String → zCls → Prop} (h : s_X10_quit u Q QX) : t_X10_quit u Q QX := by
  obtain ⟨B, G, hG, hB, hc, hQ⟩ := h
  rw [fQuit_act G] at hQ
  exact cact_of (k := 8) hG hB hc (by decide) trivial (by decide) rfl hQ
theorem c_X10_quit (l : Launch) (hlt : l.stackTraces = false) (dC : Nat → ClassId) (dI : Nat → Nat → Nat) (cI cJ cS : ClassId) (a : Nat → Nat) (u : zCls) (Q : Int32 → zCls → Prop) (QX : String → zCls → Prop) (hf : s_X10_quit u Q QX) : ∀ sz : Nat, vx_Met l yX10_quit (Cond.code yX10_quit cX10_quit 1 (some .int) :: zT) rm_X10_quit (zPmF zFy dC dI cI cJ cS (cl_X10 cI cJ cS a u) [.ref (a 0)] sz) (va_Qi Q (zB dC dI cI cJ cS (va_A (cl_X10 cI cJ cS a u) sz) (fun z => cl_X10 cI cJ cS a z)) (va_A (cl_X10 cI cJ cS a u) sz)) (zXc QX dC dI cI cJ cS (va_A (cl_X10 cI cJ cS a u) sz) (fun z => cl_X10 cI cJ cS a z)) 1 6 (va_A (cl_X10 cI cJ cS a u) sz) := L_X10_quit l hlt dC dI cI cJ cS a u Q QX (st_X10_quit hf)

def t_X10_undo (u : zCls) (Q : Int32 → zCls → Prop) (QX : String → zCls → Prop) : Prop := s_X3_takeBack u.2.2.2.2.1 u.1 (fun (r_1 : Int32) (u_2 : zMem × zState) => ((¬ r_1 = 0 → Q u_2.1.2.2 (u_2.2, u.2.1, u.2.2.1, u.2.2.2.1, u_2.1, u.2.2.2.2.2)) ∧ (r_1 = 0 → QX "java/lang/IllegalStateException" (u_2.2, u.2.1, u.2.2.1, u.2.2.2.1, u_2.1, u.2.2.2.2.2))))
theorem zc_X10_undo : zCalV RX10 yX10_undo cX10_undo 1 (some .int) 0 := ⟨q_im_X10_undo, q_se_X10_undo, q_in_X10, q_cd_X10_undo, ⟨by decide, by decide, by decide +kernel⟩, rfl⟩
abbrev rm_X10_undo : Room := { frames := 6, cells := 1, slots := 6, locals := 112 }
set_option maxHeartbeats 4000000 in
set_option maxRecDepth 100000 in
theorem L_X10_undo (l : Launch) (hlt : l.stackTraces = false) (dC : Nat → ClassId) (dI : Nat → Nat → Nat) (cI cJ cS : ClassId) (a : Nat → Nat) (u : zCls) (Q : Int32 → zCls → Prop) (QX : String → zCls → Prop) (hf : t_X10_undo u Q QX) : ∀ sz : Nat, vx_Met l yX10_undo (Cond.code yX10_undo cX10_undo 1 (some .int) :: zT) rm_X10_undo (zPmF zFy dC dI cI cJ cS (cl_X10 cI cJ cS a u) [.ref (a 0)] sz) (va_Qi Q (zB dC dI cI cJ cS (va_A (cl_X10 cI cJ cS a u) sz) (fun z => cl_X10 cI cJ cS a z)) (va_A (cl_X10 cI cJ cS a u) sz)) (zXc QX dC dI cI cJ cS (va_A (cl_X10 cI cJ cS a u) sz) (fun z => cl_X10 cI cJ cS a z)) 1 6 (va_A (cl_X10 cI cJ cS a u) sz) := by
  intro sz
  refine z_enterX (Qc := fun A => va_Qi Q (zB dC dI cI cJ cS A (fun z => cl_X10 cI cJ cS a z)) A) (XC := fun A => zXc QX dC dI cI cJ cS A (fun z => cl_X10 cI cJ cS a z)) (cc := cX10_undo) (maxL := 1) (ret := (some .int)) (by decide) (Nat.le_of_ble_eq_true rfl) ?_
  intro p e s m below meth c ls A X htb hP hD hS hA hF hl
  obtain ⟨⟨hx, hb, hml, hown, hts⟩, hr, hlk, hK⟩ := id X
  have hl : lv_has ls 1 [(0, .ref (a 0))] := hl
  unfold t_X10_undo at hf
  refine lv_aload_n hx hb dX10_undo_0 rfl (lv_at hl 0 rfl) ?_
  refine va_get (D := (dC, dI)) (ci := 9) (v := .ref (a 50)) (C := RX10) (T := TX10) (N := 9) hx hb hts inX10 hown hK hP 0 rfl rfl 4 (by decide) (hts _ q_fl_X10_25) (fun _ h9 => h9) rfl dX10_undo_1 ?_
  refine lv_aload_n hx hb dX10_undo_4 rfl (lv_at hl 0 rfl) ?_
  refine va_get (D := (dC, dI)) (ci := 9) (v := .ref (a 1)) (C := RX10) (T := TX10) (N := 9) hx hb hts inX10 hown hK hP 0 rfl rfl 0 (by decide) (hts _ q_fl_X10_10) (fun _ h9 => h9) rfl dX10_undo_5 ?_
  refine z_pVi (Wn := (fun u_2 => cl_X10 cI cJ cS a (u_2.2, u.2.1, u.2.2.1, u.2.2.2.1, u_2.1, u.2.2.2.2.2))) (As := [.ref (a 1)]) (rest := []) (wr := rr_X10_mn cI cJ cS a u) X (c_X3_takeBack l dC dI cI cJ cS (fun i => a (50 + i)) (fun i => a (1 + i)) u.2.2.2.2.1 u.1  _ hf _) zc_X3_takeBack q_ml_X10_121 ⟨rfl, rfl⟩ ⟨Nat.le_of_ble_eq_true rfl, Nat.le_of_ble_eq_true rfl⟩ hP hD hS hA (pm_X10_mn cI cJ cS a u) (fun u_2 => pm_X10_mn cI cJ cS a (u_2.2, u.2.1, u.2.2.1, u.2.2.2.1, u_2.1, u.2.2.2.2.2)) 2 rfl rfl hl.1 rfl rfl (Nat.le_of_ble_eq_true rfl) ⟨Nat.le_of_ble_eq_true rfl, Nat.le_of_ble_eq_true rfl⟩ dX10_undo_8 (fun r_1 u_2 H locs hf hP hD hS => ?_)
  obtain ⟨hbr_1, hf⟩ := hf
  refine lv_if_ne (tgt := 24) hx hb dX10_undo_11 (by decide) (fun c_3 => ?_) (fun c_3 => ?_)
  · have hf := hf.1 c_3
    refine lv_aload_n hx hb dX10_undo_24 rfl (lv_at hl 0 rfl) ?_
    refine va_get (D := (dC, dI)) (ci := 9) (v := .ref (a 50)) (C := RX10) (T := TX10) (N := 9) hx hb hts inX10 hown hK hP 0 rfl rfl 4 (by decide) (hts _ q_fl_X10_25) (fun _ h9 => h9) rfl dX10_undo_25 ?_
    refine va_get (D := (dC, dI)) (ci := 2) (v := .int u_2.1.2.2) (C := RX3) (T := TX3) (N := 3) hx hb hts inX3 hown hK hP 50 rfl rfl 2 (by decide) (hts _ q_fl_X10_130) (fun _ h9 => h9) rfl dX10_undo_28 ?_
    exact vx_ret (W.widen (k := 1) (n := 6) (Nat.le_of_ble_eq_true rfl) (Nat.le_of_ble_eq_true rfl) (z_retMi (Wf := (fun z => cl_X10 cI cJ cS a z)) (u := (u_2.2, u.2.1, u.2.2.1, u.2.2.2.1, u_2.1, u.2.2.2.2.2)) X hf hP hD hS dX10_undo_31))
  · have hf := hf.2 c_3
    exact z_thrS (Wf := (fun z => cl_X10 cI cJ cS a z)) (u := (u_2.2, u.2.1, u.2.2.1, u.2.2.2.1, u_2.1, u.2.2.2.2.2)) 1 (by decide) 4 X hlt hF.2.2.2 htb hf hP hD hS hl.1 dX10_undo_14 dX10_undo_17 dX10_undo_18 dX10_undo_20 dX10_undo_23 ⟨Nat.le_of_ble_eq_true rfl, Nat.le_of_ble_eq_true rfl⟩ ⟨Nat.le_of_ble_eq_true rfl, Nat.le_of_ble_eq_true rfl⟩ ⟨Nat.le_of_ble_eq_true rfl, Nat.le_of_ble_eq_true rfl⟩
def s_X10_undo (u : zCls) (Q : Int32 → zCls → Prop) (QX : String → zCls → Prop) : Prop := ∃ (B : Nat) (G : zG), okG B G ∧ cG G u ∧ cOut (fUndo G) (exO 1 1 1) Q QX
theorem st_X10_undo {u : zCls} {Q : Int32 → zCls → Prop} {QX : String → zCls → Prop} (h : s_X10_undo u Q QX) : t_X10_undo u Q QX := by
  obtain ⟨B, G, hG, hc, hQ⟩ := h
  obtain ⟨c1, ⟨c2, c3, ⟨f, hf, m1, m2, m3⟩, c5, c6⟩, c7⟩ := id hc
  unfold fUndo at hQ
  refine ⟨f, gUnN G, hf, hG.2.2.1.1, m1, m2, fun h0 => ⟨fun q => absurd rfl q, fun _ => ?_⟩, fun h0 => ⟨fun _ => ?_, fun q => absurd q (by decide)⟩⟩
  · rw [if_pos h0] at hQ
    exact (hQ u hc).2 (show ¬ (1 : Int32) = 0 by decide)
  · rw [if_neg (by omega)] at hQ
    refine (hQ (u.2.2.2.2.1.1 (slK f (gUnN G)), u.2.1, u.2.2.1, u.2.2.2.1, (u.2.2.2.2.1.1, nI f, nI (gUnN G - 1)), u.2.2.2.2.2) ⟨?_, ⟨c2, c3, ⟨f, hf, rfl, rfl, fun i hi => m3 i (by have : i < gUnN G - 1 := hi; omega)⟩, c5, c6⟩, c7⟩).1 rfl
    have := m3 (gUnN G - 1) (by omega)
    rw [show (f + (gUnN G - 1)) % 8 = slK f (gUnN G) by unfold slK; omega] at this
    exact this
theorem c_X10_undo (l : Launch) (hlt : l.stackTraces = false) (dC : Nat → ClassId) (dI : Nat → Nat → Nat) (cI cJ cS : ClassId) (a : Nat → Nat) (u : zCls) (Q : Int32 → zCls → Prop) (QX : String → zCls → Prop) (hf : s_X10_undo u Q QX) : ∀ sz : Nat, vx_Met l yX10_undo (Cond.code yX10_undo cX10_undo 1 (some .int) :: zT) rm_X10_undo (zPmF zFy dC dI cI cJ cS (cl_X10 cI cJ cS a u) [.ref (a 0)] sz) (va_Qi Q (zB dC dI cI cJ cS (va_A (cl_X10 cI cJ cS a u) sz) (fun z => cl_X10 cI cJ cS a z)) (va_A (cl_X10 cI cJ cS a u) sz)) (zXc QX dC dI cI cJ cS (va_A (cl_X10 cI cJ cS a u) sz) (fun z => cl_X10 cI cJ cS a z)) 1 6 (va_A (cl_X10 cI cJ cS a u) sz) := L_X10_undo l hlt dC dI cI cJ cS a u Q QX (st_X10_undo hf)

def t_X10_store (u : zCls) (x1 : Int32) (x2 : Int32) (x3 : Int32) (x4 : Int32) (Q : Int32 → zCls → Prop) (QX : String → zCls → Prop) : Prop := (∃ k_1 i_2 : Nat, (0 : Int32) = nI k_1 ∧ (0 : Int32) = nI i_2 ∧ k_1 < 10 ∧ i_2 < 4 ∧ (((if inR x1 (nLo k_1 i_2) (nHi k_1 i_2) then (1 : Int32) else 0) = 0 → QX "java/lang/IllegalArgumentException" u) ∧ (¬ (if inR x1 (nLo k_1 i_2) (nHi k_1 i_2) then (1 : Int32) else 0) = 0 → (∃ k_4 i_5 : Nat, (0 : Int32) = nI k_4 ∧ (1 : Int32) = nI i_5 ∧ k_4 < 10 ∧ i_5 < 4 ∧ (((if inR x2 (nLo k_4 i_5) (nHi k_4 i_5) then (1 : Int32) else 0) = 0 → QX "java/lang/IllegalArgumentException" u) ∧ (¬ (if inR x2 (nLo k_4 i_5) (nHi k_4 i_5) then (1 : Int32) else 0) = 0 → (∃ k_7 i_8 : Nat, (0 : Int32) = nI k_7 ∧ (2 : Int32) = nI i_8 ∧ k_7 < 10 ∧ i_8 < 4 ∧ (((if inR x3 (nLo k_7 i_8) (nHi k_7 i_8) then (1 : Int32) else 0) = 0 → QX "java/lang/IllegalArgumentException" u) ∧ (¬ (if inR x3 (nLo k_7 i_8) (nHi k_7 i_8) then (1 : Int32) else 0) = 0 → (∃ k_10 i_11 : Nat, (0 : Int32) = nI k_10 ∧ (3 : Int32) = nI i_11 ∧ k_10 < 10 ∧ i_11 < 4 ∧ ((¬ (if inR x4 (nLo k_10 i_11) (nHi k_10 i_11) then (1 : Int32) else 0) = 0 → s_X3_forget u.2.2.2.2.1 (fun (u_14 : zMem) => s_X5_perform u.1 (0 : Int32) x1 x2 x3 x4 (fun (r_15 : Int32) (u_16 : zState) => Q r_15 (u_16, u.2.1, u.2.2.1, u.2.2.2.1, u_14, u.2.2.2.2.2.1, u.2.2.2.2.2.2.1, u.2.2.2.2.2.2.2.1, (0 : Int32))))) ∧ ((if inR x4 (nLo k_10 i_11) (nHi k_10 i_11) then (1 : Int32) else 0) = 0 → QX "java/lang/IllegalArgumentException" u))))))))))))
theorem zc_X10_store : zCalV RX10 yX10_store cX10_store 5 (some .int) 4 := ⟨q_im_X10_store, q_se_X10_store, q_in_X10, q_cd_X10_store, ⟨by decide, by decide, by decide +kernel⟩, rfl⟩
abbrev rm_X10_store : Room := { frames := 7, cells := 1, slots := 6, locals := 190 }
set_option maxHeartbeats 4000000 in
set_option maxRecDepth 100000 in
theorem L_X10_store (l : Launch) (hlt : l.stackTraces = false) (dC : Nat → ClassId) (dI : Nat → Nat → Nat) (cI cJ cS : ClassId) (a : Nat → Nat) (u : zCls) (x1 : Int32) (x2 : Int32) (x3 : Int32) (x4 : Int32) (Q : Int32 → zCls → Prop) (QX : String → zCls → Prop) (hf : t_X10_store u x1 x2 x3 x4 Q QX) : ∀ sz : Nat, vx_Met l yX10_store (Cond.code yX10_store cX10_store 5 (some .int) :: zT) rm_X10_store (zPmF zFy dC dI cI cJ cS (cl_X10 cI cJ cS a u) [.ref (a 0), .int x1, .int x2, .int x3, .int x4] sz) (va_Qi Q (zB dC dI cI cJ cS (va_A (cl_X10 cI cJ cS a u) sz) (fun z => cl_X10 cI cJ cS a z)) (va_A (cl_X10 cI cJ cS a u) sz)) (zXc QX dC dI cI cJ cS (va_A (cl_X10 cI cJ cS a u) sz) (fun z => cl_X10 cI cJ cS a z)) 1 6 (va_A (cl_X10 cI cJ cS a u) sz) := by
  intro sz
  refine z_enterX (Qc := fun A => va_Qi Q (zB dC dI cI cJ cS A (fun z => cl_X10 cI cJ cS a z)) A) (XC := fun A => zXc QX dC dI cI cJ cS A (fun z => cl_X10 cI cJ cS a z)) (cc := cX10_store) (maxL := 5) (ret := (some .int)) (by decide) (Nat.le_of_ble_eq_true rfl) ?_
  intro p e s m below meth c ls A X htb hP hD hS hA hF hl
  obtain ⟨⟨hx, hb, hml, hown, hts⟩, hr, hlk, hK⟩ := id X
  have hl : lv_has ls 5 [(0, .ref (a 0)), (1, .int x1), (2, .int x2), (3, .int x3), (4, .int x4)] := hl
  unfold t_X10_store at hf
  refine lv_iconst (v := 0) hx hb dX10_store_0 (by decide) ?_
  refine lv_iconst (v := 0) hx hb dX10_store_1 (by decide) ?_
  refine lv_iload_n hx hb dX10_store_2 rfl (lv_at hl 1 rfl) ?_
  obtain ⟨k_1, i_2, ek_1, ei_2, lk_1, li_2, hf⟩ := hf
  refine z_jS (A := A) (F := zBd) (As := [.int (nI k_1), .int (nI i_2), .int x1]) (rest := []) X.1 fro_Bd ⟨hF.1.2.2.2.2.1, hF.1.2.2.2.2.2⟩ hS (c_X10_mayBe l k_1 i_2 lk_1 li_2 x1) zc_X10_mayBe q_ml_X10_99 ⟨rfl, rfl⟩ ⟨Nat.le_of_ble_eq_true rfl, Nat.le_of_ble_eq_true rfl⟩ hl.1 rfl (z_st3 ek_1 ei_2) (Nat.le_of_ble_eq_true rfl) ⟨Nat.le_of_ble_eq_true rfl, Nat.le_of_ble_eq_true rfl⟩ dX10_store_3 ?_
  refine lv_if_eq (tgt := 37) hx hb dX10_store_6 (by decide) (fun c_3 => ?_) (fun c_3 => ?_)
  · have hf := hf.1 c_3
    exact z_thrS (Wf := (fun z => cl_X10 cI cJ cS a z)) (u := u) 0 (by decide) 1 X hlt hF.2.2.2 htb hf hP hD hS hl.1 dX10_store_37 dX10_store_40 dX10_store_41 dX10_store_43 dX10_store_46 ⟨Nat.le_of_ble_eq_true rfl, Nat.le_of_ble_eq_true rfl⟩ ⟨Nat.le_of_ble_eq_true rfl, Nat.le_of_ble_eq_true rfl⟩ ⟨Nat.le_of_ble_eq_true rfl, Nat.le_of_ble_eq_true rfl⟩
  · have hf := hf.2 c_3
    refine lv_iconst (v := 0) hx hb dX10_store_9 (by decide) ?_
    refine lv_iconst (v := 1) hx hb dX10_store_10 (by decide) ?_
    refine lv_iload_n hx hb dX10_store_11 rfl (lv_at hl 2 rfl) ?_
    obtain ⟨k_4, i_5, ek_4, ei_5, lk_4, li_5, hf⟩ := hf
    refine z_jS (A := A) (F := zBd) (As := [.int (nI k_4), .int (nI i_5), .int x2]) (rest := []) X.1 fro_Bd ⟨hF.1.2.2.2.2.1, hF.1.2.2.2.2.2⟩ hS (c_X10_mayBe l k_4 i_5 lk_4 li_5 x2) zc_X10_mayBe q_ml_X10_99 ⟨rfl, rfl⟩ ⟨Nat.le_of_ble_eq_true rfl, Nat.le_of_ble_eq_true rfl⟩ hl.1 rfl (z_st3 ek_4 ei_5) (Nat.le_of_ble_eq_true rfl) ⟨Nat.le_of_ble_eq_true rfl, Nat.le_of_ble_eq_true rfl⟩ dX10_store_12 ?_
    refine lv_if_eq (tgt := 37) hx hb dX10_store_15 (by decide) (fun c_6 => ?_) (fun c_6 => ?_)
    · have hf := hf.1 c_6
      exact z_thrS (Wf := (fun z => cl_X10 cI cJ cS a z)) (u := u) 0 (by decide) 1 X hlt hF.2.2.2 htb hf hP hD hS hl.1 dX10_store_37 dX10_store_40 dX10_store_41 dX10_store_43 dX10_store_46 ⟨Nat.le_of_ble_eq_true rfl, Nat.le_of_ble_eq_true rfl⟩ ⟨Nat.le_of_ble_eq_true rfl, Nat.le_of_ble_eq_true rfl⟩ ⟨Nat.le_of_ble_eq_true rfl, Nat.le_of_ble_eq_true rfl⟩
    · have hf := hf.2 c_6
      refine lv_iconst (v := 0) hx hb dX10_store_18 (by decide) ?_
      refine lv_iconst (v := 2) hx hb dX10_store_19 (by decide) ?_
      refine lv_iload_n hx hb dX10_store_20 rfl (lv_at hl 3 rfl) ?_
      obtain ⟨k_7, i_8, ek_7, ei_8, lk_7, li_8, hf⟩ := hf
      refine z_jS (A := A) (F := zBd) (As := [.int (nI k_7), .int (nI i_8), .int x3]) (rest := []) X.1 fro_Bd ⟨hF.1.2.2.2.2.1, hF.1.2.2.2.2.2⟩ hS (c_X10_mayBe l k_7 i_8 lk_7 li_8 x3) zc_X10_mayBe q_ml_X10_99 ⟨rfl, rfl⟩ ⟨Nat.le_of_ble_eq_true rfl, Nat.le_of_ble_eq_true rfl⟩ hl.1 rfl (z_st3 ek_7 ei_8) (Nat.le_of_ble_eq_true rfl) ⟨Nat.le_of_ble_eq_true rfl, Nat.le_of_ble_eq_true rfl⟩ dX10_store_21 ?_
      refine lv_if_eq (tgt := 37) hx hb dX10_store_24 (by decide) (fun c_9 => ?_) (fun c_9 => ?_)
      · have hf := hf.1 c_9
        exact z_thrS (Wf := (fun z => cl_X10 cI cJ cS a z)) (u := u) 0 (by decide) 1 X hlt hF.2.2.2 htb hf hP hD hS hl.1 dX10_store_37 dX10_store_40 dX10_store_41 dX10_store_43 dX10_store_46 ⟨Nat.le_of_ble_eq_true rfl, Nat.le_of_ble_eq_true rfl⟩ ⟨Nat.le_of_ble_eq_true rfl, Nat.le_of_ble_eq_true rfl⟩ ⟨Nat.le_of_ble_eq_true rfl, Nat.le_of_ble_eq_true rfl⟩
      · have hf := hf.2 c_9
        refine lv_iconst (v := 0) hx hb dX10_store_27 (by decide) ?_
        refine lv_iconst (v := 3) hx hb dX10_store_28 (by decide) ?_
        refine lv_iload hx hb dX10_store_29 (lv_at hl 4 rfl) ?_
        obtain ⟨k_10, i_11, ek_10, ei_11, lk_10, li_11, hf⟩ := hf
        refine z_jS (A := A) (F := zBd) (As := [.int (nI k_10), .int (nI i_11), .int x4]) (rest := []) X.1 fro_Bd ⟨hF.1.2.2.2.2.1, hF.1.2.2.2.2.2⟩ hS (c_X10_mayBe l k_10 i_11 lk_10 li_11 x4) zc_X10_mayBe q_ml_X10_99 ⟨rfl, rfl⟩ ⟨Nat.le_of_ble_eq_true rfl, Nat.le_of_ble_eq_true rfl⟩ hl.1 rfl (z_st3 ek_10 ei_11) (Nat.le_of_ble_eq_true rfl) ⟨Nat.le_of_ble_eq_true rfl, Nat.le_of_ble_eq_true rfl⟩ dX10_store_31 ?_
        refine lv_if_ne (tgt := 47) hx hb dX10_store_34 (by decide) (fun c_12 => ?_) (fun c_12 => ?_)
        · have hf := hf.1 c_12
          refine lv_aload_n hx hb dX10_store_47 rfl (lv_at hl 0 rfl) ?_
          refine lv_iconst (v := 0) hx hb dX10_store_48 (by decide) ?_
          refine z_put (w' := cl_X10 cI cJ cS a (u.1, u.2.1, u.2.2.1, u.2.2.2.1, u.2.2.2.2.1, u.2.2.2.2.2.1, u.2.2.2.2.2.2.1, u.2.2.2.2.2.2.2.1, (0 : Int32))) (ci := 9) (v := .int (0 : Int32)) (ty := .int) (Cn := RX10) (T := TX10) (N := 9) X inX10 tyX10 tyX10_ok nmX10 hP hD hS 0 rfl rfl 8 (by decide) (hts _ q_fl_X10_86) (fun _ h9 => h9) rfl (tyX10_ok 8 (by decide)) rfl rfl (Nat.le_of_ble_eq_true rfl) rfl dX10_store_49 (fun H locs hP hD hS => ?_)
          refine lv_aload_n hx hb dX10_store_52 rfl (lv_at hl 0 rfl) ?_
          refine va_get (D := (dC, dI)) (ci := 9) (v := .ref (a 50)) (C := RX10) (T := TX10) (N := 9) hx hb hts inX10 hown hK hP 0 rfl rfl 4 (by decide) (hts _ q_fl_X10_25) (fun _ h9 => h9) rfl dX10_store_53 ?_
          refine z_pVv (Wn := (fun u_14 => cl_X10 cI cJ cS a (u.1, u.2.1, u.2.2.1, u.2.2.2.1, u_14, u.2.2.2.2.2.1, u.2.2.2.2.2.2.1, u.2.2.2.2.2.2.2.1, (0 : Int32)))) (As := []) (rest := []) (wr := rr_X10_m cI cJ cS a (u.1, u.2.1, u.2.2.1, u.2.2.2.1, u.2.2.2.2.1, u.2.2.2.2.2.1, u.2.2.2.2.2.2.1, u.2.2.2.2.2.2.2.1, (0 : Int32))) X (c_X3_forget l dC dI cI cJ cS (fun i => a (50 + i)) u.2.2.2.2.1  _ hf _) zc_X3_forget q_ml_X10_96 ⟨rfl, rfl⟩ ⟨Nat.le_of_ble_eq_true rfl, Nat.le_of_ble_eq_true rfl⟩ hP hD hS hA (pm_X10_m cI cJ cS a (u.1, u.2.1, u.2.2.1, u.2.2.2.1, u.2.2.2.2.1, u.2.2.2.2.2.1, u.2.2.2.2.2.2.1, u.2.2.2.2.2.2.2.1, (0 : Int32))) (fun u_14 => pm_X10_m cI cJ cS a (u.1, u.2.1, u.2.2.1, u.2.2.2.1, u_14, u.2.2.2.2.2.1, u.2.2.2.2.2.2.1, u.2.2.2.2.2.2.2.1, (0 : Int32))) 2 rfl rfl hl.1 rfl rfl (Nat.le_of_ble_eq_true rfl) ⟨Nat.le_of_ble_eq_true rfl, Nat.le_of_ble_eq_true rfl⟩ dX10_store_56 (fun u_14 H locs hf hP hD hS => ?_)
          refine lv_aload_n hx hb dX10_store_59 rfl (lv_at hl 0 rfl) ?_
          refine va_get (D := (dC, dI)) (ci := 9) (v := .ref (a 1)) (C := RX10) (T := TX10) (N := 9) hx hb hts inX10 hown hK hP 0 rfl rfl 0 (by decide) (hts _ q_fl_X10_10) (fun _ h9 => h9) rfl dX10_store_60 ?_
          refine lv_iconst (v := 0) hx hb dX10_store_63 (by decide) ?_
          refine lv_iload_n hx hb dX10_store_64 rfl (lv_at hl 1 rfl) ?_
          refine lv_iload_n hx hb dX10_store_65 rfl (lv_at hl 2 rfl) ?_
          refine lv_iload_n hx hb dX10_store_66 rfl (lv_at hl 3 rfl) ?_
          refine lv_iload hx hb dX10_store_67 (lv_at hl 4 rfl) ?_
          refine z_pVi (Wn := (fun u_16 => cl_X10 cI cJ cS a (u_16, u.2.1, u.2.2.1, u.2.2.2.1, u_14, u.2.2.2.2.2.1, u.2.2.2.2.2.2.1, u.2.2.2.2.2.2.2.1, (0 : Int32)))) (As := [.int (0 : Int32), .int x1, .int x2, .int x3, .int x4]) (rest := []) (wr := rr_X10_n cI cJ cS a (u.1, u.2.1, u.2.2.1, u.2.2.2.1, u_14, u.2.2.2.2.2.1, u.2.2.2.2.2.2.1, u.2.2.2.2.2.2.2.1, (0 : Int32))) X (c_X5_perform l dC dI cI cJ cS (fun i => a (1 + i)) u.1 (0 : Int32) x1 x2 x3 x4 _ hf _) zc_X5_perform q_ml_X10_76 ⟨rfl, rfl⟩ ⟨Nat.le_of_ble_eq_true rfl, Nat.le_of_ble_eq_true rfl⟩ hP hD hS hA (pm_X10_n cI cJ cS a (u.1, u.2.1, u.2.2.1, u.2.2.2.1, u_14, u.2.2.2.2.2.1, u.2.2.2.2.2.2.1, u.2.2.2.2.2.2.2.1, (0 : Int32))) (fun u_16 => pm_X10_n cI cJ cS a (u_16, u.2.1, u.2.2.1, u.2.2.2.1, u_14, u.2.2.2.2.2.1, u.2.2.2.2.2.2.1, u.2.2.2.2.2.2.2.1, (0 : Int32))) 4 rfl rfl hl.1 rfl rfl (Nat.le_of_ble_eq_true rfl) ⟨Nat.le_of_ble_eq_true rfl, Nat.le_of_ble_eq_true rfl⟩ dX10_store_69 (fun r_15 u_16 H locs hf hP hD hS => ?_)
          exact vx_ret (W.widen (k := 1) (n := 6) (Nat.le_of_ble_eq_true rfl) (Nat.le_of_ble_eq_true rfl) (z_retMi (Wf := (fun z => cl_X10 cI cJ cS a z)) (u := (u_16, u.2.1, u.2.2.1, u.2.2.2.1, u_14, u.2.2.2.2.2.1, u.2.2.2.2.2.2.1, u.2.2.2.2.2.2.2.1, (0 : Int32))) X hf hP hD hS dX10_store_72))
        · have hf := hf.2 c_12
          exact z_thrS (Wf := (fun z => cl_X10 cI cJ cS a z)) (u := u) 0 (by decide) 1 X hlt hF.2.2.2 htb hf hP hD hS hl.1 dX10_store_37 dX10_store_40 dX10_store_41 dX10_store_43 dX10_store_46 ⟨Nat.le_of_ble_eq_true rfl, Nat.le_of_ble_eq_true rfl⟩ ⟨Nat.le_of_ble_eq_true rfl, Nat.le_of_ble_eq_true rfl⟩ ⟨Nat.le_of_ble_eq_true rfl, Nat.le_of_ble_eq_true rfl⟩
def s_X10_store (u : zCls) (x1 x2 x3 x4 : Int32) (Q : Int32 → zCls → Prop) (QX : String → zCls → Prop) : Prop := ∃ (B : Nat) (G : zG), okG B G ∧ B + 20 ≤ 400000 ∧ cG G u ∧ cOut (fStore G x1 x2 x3 x4) (exO 0 0 0) Q QX
theorem st_X10_store {u : zCls} {x1 x2 x3 x4 : Int32} {Q : Int32 → zCls → Prop} {QX : String → zCls → Prop} (h : s_X10_store u x1 x2 x3 x4 Q QX) : t_X10_store u x1 x2 x3 x4 Q QX := by
  obtain ⟨B, G, hG, hB, hc, hQ⟩ := h
  unfold fStore at hQ
  have no : ¬ (inR x1 50 200 ∧ inR x2 0 40 ∧ inR x3 2 16 ∧ inR x4 1 4) → QX "java/lang/IllegalArgumentException" u := fun c => by
    rw [if_neg c] at hQ
    exact (hQ u hc).2 (show ¬ (1 : Int32) = 0 by decide)
  refine ⟨0, 0, rfl, rfl, by decide, by decide, mb_of (fun i1 => ⟨0, 1, rfl, rfl, by decide, by decide, mb_of (fun i2 => ⟨0, 2, rfl, rfl, by decide, by decide, mb_of (fun i3 => ⟨0, 3, rfl, rfl, by decide, by decide, mb_ofr (fun i4 => ?_) (fun i4 => no (fun q => i4 q.2.2.2))⟩) (fun i3 => no (fun q => i3 q.2.2.1))⟩) (fun i2 => no (fun q => i2 q.2.1))⟩) (fun i1 => no (fun q => i1 q.1))⟩
  rw [if_pos ⟨i1, i2, i3, i4⟩] at hQ
  obtain ⟨c1, ⟨c2, c3, ⟨f, hf, m1, m2, m3⟩, c5, c6⟩, c7⟩ := id hc
  show s_X5_perform u.1 (nI 0) x1 x2 x3 x4 _
  rw [c1]
  refine perf_of (k := 0) hG.1 hB (by decide) ⟨i1, i2, i3, i4⟩ rfl ?_
  exact (hQ (uBegin (gNow G) x1 x2 x3 x4, u.2.1, u.2.2.1, u.2.2.2.1, (u.2.2.2.2.1.1, u.2.2.2.2.1.2.1, 0), u.2.2.2.2.2.1, u.2.2.2.2.2.2.1, u.2.2.2.2.2.2.2.1, 0) ⟨rfl, ⟨c2, c3, ⟨f, hf, m1, rfl, fun i hi => absurd hi (Nat.not_lt_zero i)⟩, c5, c6⟩, rfl⟩).1 rfl
theorem c_X10_store (l : Launch) (hlt : l.stackTraces = false) (dC : Nat → ClassId) (dI : Nat → Nat → Nat) (cI cJ cS : ClassId) (a : Nat → Nat) (u : zCls) (x1 : Int32) (x2 : Int32) (x3 : Int32) (x4 : Int32) (Q : Int32 → zCls → Prop) (QX : String → zCls → Prop) (hf : s_X10_store u x1 x2 x3 x4 Q QX) : ∀ sz : Nat, vx_Met l yX10_store (Cond.code yX10_store cX10_store 5 (some .int) :: zT) rm_X10_store (zPmF zFy dC dI cI cJ cS (cl_X10 cI cJ cS a u) [.ref (a 0), .int x1, .int x2, .int x3, .int x4] sz) (va_Qi Q (zB dC dI cI cJ cS (va_A (cl_X10 cI cJ cS a u) sz) (fun z => cl_X10 cI cJ cS a z)) (va_A (cl_X10 cI cJ cS a u) sz)) (zXc QX dC dI cI cJ cS (va_A (cl_X10 cI cJ cS a u) sz) (fun z => cl_X10 cI cJ cS a z)) 1 6 (va_A (cl_X10 cI cJ cS a u) sz) := L_X10_store l hlt dC dI cI cJ cS a u x1 x2 x3 x4 Q QX (st_X10_store hf)

def t_X10_feed (u : zCls) (x1 : Int32) (x2 : Int32) (x3 : Int32) (x4 : Int32) (x5 : Int32) (Q : Int32 → zCls → Prop) : Prop := s_X6_hasRoom u.2.2.2.2.2.1 (20 : Int32) (fun r_1 : Int32 => ((¬ r_1 = 0 → s_X6_take u.2.2.2.2.2.1 x1 (fun (u_4 : zTape) => s_X6_take u_4 x2 (fun (u_6 : zTape) => s_X6_take u_6 x3 (fun (u_8 : zTape) => s_X6_take u_8 x4 (fun (u_10 : zTape) => s_X6_take u_10 x5 (fun (u_12 : zTape) => Q u_12.2.2.1 (u.1, u.2.1, u.2.2.1, u.2.2.2.1, u.2.2.2.2.1, u_12, u.2.2.2.2.2.2))))))) ∧ (r_1 = 0 → Q (-1 : Int32) u)))
theorem zc_X10_feed : zCalV RX10 yX10_feed cX10_feed 6 (some .int) 5 := ⟨q_im_X10_feed, q_se_X10_feed, q_in_X10, q_cd_X10_feed, ⟨by decide, by decide, by decide +kernel⟩, rfl⟩
abbrev rm_X10_feed : Room := { frames := 2, cells := 0, slots := 0, locals := 43 }
set_option maxHeartbeats 4000000 in
set_option maxRecDepth 100000 in
theorem L_X10_feed (l : Launch) (dC : Nat → ClassId) (dI : Nat → Nat → Nat) (cI cJ cS : ClassId) (a : Nat → Nat) (u : zCls) (x1 : Int32) (x2 : Int32) (x3 : Int32) (x4 : Int32) (x5 : Int32) (Q : Int32 → zCls → Prop) (hf : t_X10_feed u x1 x2 x3 x4 x5 Q) : ∀ sz : Nat, Met l yX10_feed (Cond.code yX10_feed cX10_feed 6 (some .int) :: zT) rm_X10_feed (zPm dC dI cI cJ cS (cl_X10 cI cJ cS a u) [.ref (a 0), .int x1, .int x2, .int x3, .int x4, .int x5] sz) (va_Qi Q (zB dC dI cI cJ cS (va_A (cl_X10 cI cJ cS a u) sz) (fun z => cl_X10 cI cJ cS a z)) (va_A (cl_X10 cI cJ cS a u) sz)) 0 0 (va_A (cl_X10 cI cJ cS a u) sz) := by
  intro sz
  refine z_enterM (Qc := fun A => va_Qi Q (zB dC dI cI cJ cS A (fun z => cl_X10 cI cJ cS a z)) A) (cc := cX10_feed) (maxL := 6) (ret := (some .int)) (by decide) (Nat.le_of_ble_eq_true rfl) ?_
  intro p e s m below meth c ls A X hP hD hS hA hl
  obtain ⟨⟨hx, hb, hml, hown, hts⟩, hr, hlk, hK⟩ := id X
  have hl : lv_has ls 6 [(0, .ref (a 0)), (1, .int x1), (2, .int x2), (3, .int x3), (4, .int x4), (5, .int x5)] := hl
  unfold t_X10_feed at hf
  refine lv_aload_n hx hb dX10_feed_0 rfl (lv_at hl 0 rfl) ?_
  refine va_get (D := (dC, dI)) (ci := 9) (v := .ref (a 46)) (C := RX10) (T := TX10) (N := 9) hx hb hts inX10 hown hK hP 0 rfl rfl 5 (by decide) (hts _ q_fl_X10_32) (fun _ h9 => h9) rfl dX10_feed_1 ?_
  refine lv_bipush (v := 20) hx hb dX10_feed_4 (by decide) ?_
  refine z_cVi (As := [.int (20 : Int32)]) (rest := []) X (c_X6_hasRoom l dC dI cI cJ cS (fun i => a (46 + i)) u.2.2.2.2.2.1 (20 : Int32) _ hf) zc_X6_hasRoom q_ml_X10_44 ⟨rfl, rfl⟩ ⟨Nat.le_of_ble_eq_true rfl, Nat.le_of_ble_eq_true rfl⟩ hP [46, 47, 48] rfl 5 rfl rfl hl.1 rfl rfl (Nat.le_of_ble_eq_true rfl) ⟨Nat.zero_le _, Nat.zero_le _⟩ dX10_feed_6 (fun r_1 hf => ?_)
  obtain ⟨hbr_1, hf⟩ := hf
  refine lv_if_ne (tgt := 14) hx hb dX10_feed_9 (by decide) (fun c_2 => ?_) (fun c_2 => ?_)
  · have hf := hf.1 c_2
    refine lv_aload_n hx hb dX10_feed_14 rfl (lv_at hl 0 rfl) ?_
    refine va_get (D := (dC, dI)) (ci := 9) (v := .ref (a 46)) (C := RX10) (T := TX10) (N := 9) hx hb hts inX10 hown hK hP 0 rfl rfl 5 (by decide) (hts _ q_fl_X10_32) (fun _ h9 => h9) rfl dX10_feed_15 ?_
    refine lv_iload_n hx hb dX10_feed_18 rfl (lv_at hl 1 rfl) ?_
    refine z_pVv (Wn := (fun u_4 => cl_X10 cI cJ cS a (u.1, u.2.1, u.2.2.1, u.2.2.2.1, u.2.2.2.2.1, u_4, u.2.2.2.2.2.2))) (As := [.int x1]) (rest := []) (wr := rr_X10_t cI cJ cS a u) X (c_X6_take l dC dI cI cJ cS (fun i => a (46 + i)) u.2.2.2.2.2.1 x1 _ hf _) zc_X6_take q_ml_X10_48 ⟨rfl, rfl⟩ ⟨Nat.le_of_ble_eq_true rfl, Nat.le_of_ble_eq_true rfl⟩ hP hD hS hA (pm_X10_t cI cJ cS a u) (fun u_4 => pm_X10_t cI cJ cS a (u.1, u.2.1, u.2.2.1, u.2.2.2.1, u.2.2.2.2.1, u_4, u.2.2.2.2.2.2)) 5 rfl rfl hl.1 rfl rfl (Nat.le_of_ble_eq_true rfl) ⟨Nat.zero_le _, Nat.zero_le _⟩ dX10_feed_19 (fun u_4 H locs hf hP hD hS => ?_)
    refine lv_aload_n hx hb dX10_feed_22 rfl (lv_at hl 0 rfl) ?_
    refine va_get (D := (dC, dI)) (ci := 9) (v := .ref (a 46)) (C := RX10) (T := TX10) (N := 9) hx hb hts inX10 hown hK hP 0 rfl rfl 5 (by decide) (hts _ q_fl_X10_32) (fun _ h9 => h9) rfl dX10_feed_23 ?_
    refine lv_iload_n hx hb dX10_feed_26 rfl (lv_at hl 2 rfl) ?_
    refine z_pVv (Wn := (fun u_6 => cl_X10 cI cJ cS a (u.1, u.2.1, u.2.2.1, u.2.2.2.1, u.2.2.2.2.1, u_6, u.2.2.2.2.2.2))) (As := [.int x2]) (rest := []) (wr := rr_X10_t cI cJ cS a (u.1, u.2.1, u.2.2.1, u.2.2.2.1, u.2.2.2.2.1, u_4, u.2.2.2.2.2.2)) X (c_X6_take l dC dI cI cJ cS (fun i => a (46 + i)) u_4 x2 _ hf _) zc_X6_take q_ml_X10_48 ⟨rfl, rfl⟩ ⟨Nat.le_of_ble_eq_true rfl, Nat.le_of_ble_eq_true rfl⟩ hP hD hS hA (pm_X10_t cI cJ cS a (u.1, u.2.1, u.2.2.1, u.2.2.2.1, u.2.2.2.2.1, u_4, u.2.2.2.2.2.2)) (fun u_6 => pm_X10_t cI cJ cS a (u.1, u.2.1, u.2.2.1, u.2.2.2.1, u.2.2.2.2.1, u_6, u.2.2.2.2.2.2)) 5 rfl rfl hl.1 rfl rfl (Nat.le_of_ble_eq_true rfl) ⟨Nat.zero_le _, Nat.zero_le _⟩ dX10_feed_27 (fun u_6 H locs hf hP hD hS => ?_)
    refine lv_aload_n hx hb dX10_feed_30 rfl (lv_at hl 0 rfl) ?_
    refine va_get (D := (dC, dI)) (ci := 9) (v := .ref (a 46)) (C := RX10) (T := TX10) (N := 9) hx hb hts inX10 hown hK hP 0 rfl rfl 5 (by decide) (hts _ q_fl_X10_32) (fun _ h9 => h9) rfl dX10_feed_31 ?_
    refine lv_iload_n hx hb dX10_feed_34 rfl (lv_at hl 3 rfl) ?_
    refine z_pVv (Wn := (fun u_8 => cl_X10 cI cJ cS a (u.1, u.2.1, u.2.2.1, u.2.2.2.1, u.2.2.2.2.1, u_8, u.2.2.2.2.2.2))) (As := [.int x3]) (rest := []) (wr := rr_X10_t cI cJ cS a (u.1, u.2.1, u.2.2.1, u.2.2.2.1, u.2.2.2.2.1, u_6, u.2.2.2.2.2.2)) X (c_X6_take l dC dI cI cJ cS (fun i => a (46 + i)) u_6 x3 _ hf _) zc_X6_take q_ml_X10_48 ⟨rfl, rfl⟩ ⟨Nat.le_of_ble_eq_true rfl, Nat.le_of_ble_eq_true rfl⟩ hP hD hS hA (pm_X10_t cI cJ cS a (u.1, u.2.1, u.2.2.1, u.2.2.2.1, u.2.2.2.2.1, u_6, u.2.2.2.2.2.2)) (fun u_8 => pm_X10_t cI cJ cS a (u.1, u.2.1, u.2.2.1, u.2.2.2.1, u.2.2.2.2.1, u_8, u.2.2.2.2.2.2)) 5 rfl rfl hl.1 rfl rfl (Nat.le_of_ble_eq_true rfl) ⟨Nat.zero_le _, Nat.zero_le _⟩ dX10_feed_35 (fun u_8 H locs hf hP hD hS => ?_)
    refine lv_aload_n hx hb dX10_feed_38 rfl (lv_at hl 0 rfl) ?_
    refine va_get (D := (dC, dI)) (ci := 9) (v := .ref (a 46)) (C := RX10) (T := TX10) (N := 9) hx hb hts inX10 hown hK hP 0 rfl rfl 5 (by decide) (hts _ q_fl_X10_32) (fun _ h9 => h9) rfl dX10_feed_39 ?_
    refine lv_iload hx hb dX10_feed_42 (lv_at hl 4 rfl) ?_
    refine z_pVv (Wn := (fun u_10 => cl_X10 cI cJ cS a (u.1, u.2.1, u.2.2.1, u.2.2.2.1, u.2.2.2.2.1, u_10, u.2.2.2.2.2.2))) (As := [.int x4]) (rest := []) (wr := rr_X10_t cI cJ cS a (u.1, u.2.1, u.2.2.1, u.2.2.2.1, u.2.2.2.2.1, u_8, u.2.2.2.2.2.2)) X (c_X6_take l dC dI cI cJ cS (fun i => a (46 + i)) u_8 x4 _ hf _) zc_X6_take q_ml_X10_48 ⟨rfl, rfl⟩ ⟨Nat.le_of_ble_eq_true rfl, Nat.le_of_ble_eq_true rfl⟩ hP hD hS hA (pm_X10_t cI cJ cS a (u.1, u.2.1, u.2.2.1, u.2.2.2.1, u.2.2.2.2.1, u_8, u.2.2.2.2.2.2)) (fun u_10 => pm_X10_t cI cJ cS a (u.1, u.2.1, u.2.2.1, u.2.2.2.1, u.2.2.2.2.1, u_10, u.2.2.2.2.2.2)) 5 rfl rfl hl.1 rfl rfl (Nat.le_of_ble_eq_true rfl) ⟨Nat.zero_le _, Nat.zero_le _⟩ dX10_feed_44 (fun u_10 H locs hf hP hD hS => ?_)
    refine lv_aload_n hx hb dX10_feed_47 rfl (lv_at hl 0 rfl) ?_
    refine va_get (D := (dC, dI)) (ci := 9) (v := .ref (a 46)) (C := RX10) (T := TX10) (N := 9) hx hb hts inX10 hown hK hP 0 rfl rfl 5 (by decide) (hts _ q_fl_X10_32) (fun _ h9 => h9) rfl dX10_feed_48 ?_
    refine lv_iload hx hb dX10_feed_51 (lv_at hl 5 rfl) ?_
    refine z_pVv (Wn := (fun u_12 => cl_X10 cI cJ cS a (u.1, u.2.1, u.2.2.1, u.2.2.2.1, u.2.2.2.2.1, u_12, u.2.2.2.2.2.2))) (As := [.int x5]) (rest := []) (wr := rr_X10_t cI cJ cS a (u.1, u.2.1, u.2.2.1, u.2.2.2.1, u.2.2.2.2.1, u_10, u.2.2.2.2.2.2)) X (c_X6_take l dC dI cI cJ cS (fun i => a (46 + i)) u_10 x5 _ hf _) zc_X6_take q_ml_X10_48 ⟨rfl, rfl⟩ ⟨Nat.le_of_ble_eq_true rfl, Nat.le_of_ble_eq_true rfl⟩ hP hD hS hA (pm_X10_t cI cJ cS a (u.1, u.2.1, u.2.2.1, u.2.2.2.1, u.2.2.2.2.1, u_10, u.2.2.2.2.2.2)) (fun u_12 => pm_X10_t cI cJ cS a (u.1, u.2.1, u.2.2.1, u.2.2.2.1, u.2.2.2.2.1, u_12, u.2.2.2.2.2.2)) 5 rfl rfl hl.1 rfl rfl (Nat.le_of_ble_eq_true rfl) ⟨Nat.zero_le _, Nat.zero_le _⟩ dX10_feed_53 (fun u_12 H locs hf hP hD hS => ?_)
    refine lv_aload_n hx hb dX10_feed_56 rfl (lv_at hl 0 rfl) ?_
    refine va_get (D := (dC, dI)) (ci := 9) (v := .ref (a 46)) (C := RX10) (T := TX10) (N := 9) hx hb hts inX10 hown hK hP 0 rfl rfl 5 (by decide) (hts _ q_fl_X10_32) (fun _ h9 => h9) rfl dX10_feed_57 ?_
    refine va_get (D := (dC, dI)) (ci := 5) (v := .int u_12.2.2.1) (C := RX6) (T := TX6) (N := 7) hx hb hts inX6 hown hK hP 46 rfl rfl 2 (by decide) (hts _ q_fl_X10_52) (fun _ h9 => h9) rfl dX10_feed_60 ?_
    exact z_retMi (Wf := (fun z => cl_X10 cI cJ cS a z)) (u := (u.1, u.2.1, u.2.2.1, u.2.2.2.1, u.2.2.2.2.1, u_12, u.2.2.2.2.2.2)) X hf hP hD hS dX10_feed_63
  · have hf := hf.2 c_2
    refine lv_iconst (v := (-1)) hx hb dX10_feed_12 (by decide) ?_
    exact z_retMi (Wf := (fun z => cl_X10 cI cJ cS a z)) (u := u) X hf hP hD hS dX10_feed_13
theorem tk5 {t : Nat → Int32} {N : Nat} (a b c d e : Int32) : tk4 (tk4 (tk4 (tk4 (tk4 t N a 4) (N + 4) b 4) (N + 4 + 4) c 4) (N + 4 + 4 + 4) d 4) (N + 4 + 4 + 4 + 4) e 4 = fdT t N a b c d e 20 := funext fun j => by
  have fb : ∀ (x : Int32) (k m : Nat), k % 4 = m % 4 → fdB x k = fdB x m := fun x k m h => by unfold fdB; rw [h]
  unfold tk4 fdT fdV
  by_cases h : N ≤ j ∧ j < N + 20
  · rw [if_pos h]
    by_cases h1 : j - N < 4
    · rw [if_neg (by omega), if_neg (by omega), if_neg (by omega), if_neg (by omega), if_pos (by omega), if_pos h1]
    · by_cases h2 : j - N < 8
      · rw [if_neg (by omega), if_neg (by omega), if_neg (by omega), if_pos (by omega), if_neg h1, if_pos h2]
        exact fb _ _ _ (by omega)
      · by_cases h3 : j - N < 12
        · rw [if_neg (by omega), if_neg (by omega), if_pos (by omega), if_neg h1, if_neg h2, if_pos h3]
          exact fb _ _ _ (by omega)
        · by_cases h4 : j - N < 16
          · rw [if_neg (by omega), if_pos (by omega), if_neg h1, if_neg h2, if_neg h3, if_pos h4]
            exact fb _ _ _ (by omega)
          · rw [if_pos (by omega), if_neg h1, if_neg h2, if_neg h3, if_neg h4]
            exact fb _ _ _ (by omega)
  · rw [if_neg h, if_neg (by omega), if_neg (by omega), if_neg (by omega), if_neg (by omega), if_neg (by omega)]
def s_X10_feed (u : zCls) (x1 x2 x3 x4 x5 : Int32) (Q : Int32 → zCls → Prop) : Prop := ∃ (B : Nat) (G : zG), okG B G ∧ cG G u ∧ ∀ u' : zCls, cG (fFeed G x1 x2 x3 x4 x5).2 u' → Q (fFeed G x1 x2 x3 x4 x5).1 u'
theorem st_X10_feed {u : zCls} {x1 x2 x3 x4 x5 : Int32} {Q : Int32 → zCls → Prop} (h : s_X10_feed u x1 x2 x3 x4 x5 Q) : t_X10_feed u x1 x2 x3 x4 x5 Q := by
  obtain ⟨B, G, hG, hc, hQ⟩ := h
  obtain ⟨c1, ⟨c2, c3, c4, ⟨t1, t2⟩, c6⟩, c7⟩ := id hc
  have hN : gTpN G ≤ 400 := hG.2.2.2
  unfold fFeed at hQ
  generalize eN : gTpN G = N at hQ t1 t2 hN
  unfold t_X10_feed s_X6_hasRoom
  rw [t1, show nI N + (20 : Int32) = nI (N + 20) from nI_add N 20]
  refine ⟨fun c => ⟨fun q => absurd rfl q, fun _ => ?_⟩, fun c => ⟨fun _ => ?_, fun q => absurd q (by decide)⟩⟩
  · have : ¬ N + 20 ≤ 400 := fun z => absurd c (nI_nlt (a := 400) (b := N + 20) z (by decide))
    rw [if_neg this] at hQ
    exact hQ u hc
  · have h20 : N + 20 ≤ 400 := by
      by_cases z : N + 20 ≤ 400
      · exact z
      · exact absurd (nI_lt (a := 400) (b := N + 20) (by omega) (by omega)) c
    rw [if_pos h20] at hQ
    refine ⟨N, by omega, t1, N + 4, by omega, rfl, N + 4 + 4, by omega, rfl, N + 4 + 4 + 4, by omega, rfl, N + 4 + 4 + 4 + 4, by omega, rfl, ?_⟩
    have := hQ (u.1, u.2.1, u.2.2.1, u.2.2.2.1, u.2.2.2.2.1, (fdT u.2.2.2.2.2.1.1 N x1 x2 x3 x4 x5 20, u.2.2.2.2.2.1.2.1, nI (N + 20), u.2.2.2.2.2.1.2.2.2.1, u.2.2.2.2.2.1.2.2.2.2.1, u.2.2.2.2.2.1.2.2.2.2.2.1, u.2.2.2.2.2.1.2.2.2.2.2.2), u.2.2.2.2.2.2) ⟨c1, ⟨c2, c3, c4, ⟨rfl, fun j hj => ?_⟩, c6⟩, c7⟩
    · show Q (nI (N + 4 + 4 + 4 + 4 + 4)) (u.1, u.2.1, u.2.2.1, u.2.2.2.1, u.2.2.2.2.1, (tk4 (tk4 (tk4 (tk4 (tk4 u.2.2.2.2.2.1.1 N x1 4) (N + 4) x2 4) (N + 4 + 4) x3 4) (N + 4 + 4 + 4) x4 4) (N + 4 + 4 + 4 + 4) x5 4, u.2.2.2.2.2.1.2.1, nI (N + 4 + 4 + 4 + 4 + 4), u.2.2.2.2.2.1.2.2.2.1, u.2.2.2.2.2.1.2.2.2.2.1, u.2.2.2.2.2.1.2.2.2.2.2.1, u.2.2.2.2.2.1.2.2.2.2.2.2), u.2.2.2.2.2.2)
      rw [tk5]
      exact this
    · have hj : j < N + 20 := hj
      show fdT u.2.2.2.2.2.1.1 N x1 x2 x3 x4 x5 20 j = fdT (gTp G) N x1 x2 x3 x4 x5 20 j
      unfold fdT
      by_cases z : N ≤ j ∧ j < N + 20
      · rw [if_pos z, if_pos z]
      · rw [if_neg z, if_neg z]; exact t2 j (by omega)
theorem c_X10_feed (l : Launch) (dC : Nat → ClassId) (dI : Nat → Nat → Nat) (cI cJ cS : ClassId) (a : Nat → Nat) (u : zCls) (x1 : Int32) (x2 : Int32) (x3 : Int32) (x4 : Int32) (x5 : Int32) (Q : Int32 → zCls → Prop) (hf : s_X10_feed u x1 x2 x3 x4 x5 Q) : ∀ sz : Nat, Met l yX10_feed (Cond.code yX10_feed cX10_feed 6 (some .int) :: zT) rm_X10_feed (zPm dC dI cI cJ cS (cl_X10 cI cJ cS a u) [.ref (a 0), .int x1, .int x2, .int x3, .int x4, .int x5] sz) (va_Qi Q (zB dC dI cI cJ cS (va_A (cl_X10 cI cJ cS a u) sz) (fun z => cl_X10 cI cJ cS a z)) (va_A (cl_X10 cI cJ cS a u) sz)) 0 0 (va_A (cl_X10 cI cJ cS a u) sz) := L_X10_feed l dC dI cI cJ cS a u x1 x2 x3 x4 x5 Q (st_X10_feed hf)
