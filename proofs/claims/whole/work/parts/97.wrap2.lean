theorem w_cw_acts : zCalL yL_acts cL_acts 3 (some .int) [(0, 8, 11, 13)] 2 := ⟨zT_mem (List.mem_of_getElem? (i := 812) (by decide +kernel)) (by decide +kernel), q_in_L, zT_mem (List.mem_of_getElem? (i := 813) (by decide +kernel)) (by decide +kernel), ⟨by decide, by decide, by decide +kernel⟩⟩
abbrev rm_L_acts : Room := { frames := 9, cells := 1, slots := 6, locals := 212 }
set_option maxHeartbeats 4000000 in
set_option maxRecDepth 100000 in
theorem c_L_acts (l : Launch) (hlt : l.stackTraces = false) (dC : Nat → ClassId) (dI : Nat → Nat → Nat) (cI cJ cS : ClassId) (a : Nat → Nat) (u : zCls) (o : Nat) (f : Nat → Int64)  (Q : Int32 → zCls × (Nat → Int64) → Prop) (hf : s_X10_acts u  (fun r z => Q 0 (z, vp_updL f 0 r.toInt64)) (fun E z => (E = exC 0 ∧ Q 1 (z, f)))) : ∀ sz : Nat, Met l yL_acts (Cond.codeWith yL_acts cL_acts 3 (some .int) [(0, 8, 11, 13)] :: zT) rm_L_acts (zPmF zFw dC dI cI cJ cS (wO cJ o f ++ cl_X10 cI cJ cS a u) [.ref (a 0), .ref o] sz) (va_Qi Q (zB dC dI cI cJ cS (va_A (wO cJ o f ++ cl_X10 cI cJ cS a u) sz) (fun z : zCls × (Nat → Int64) => wO cJ o z.2 ++ cl_X10 cI cJ cS a z.1)) (va_A (wO cJ o f ++ cl_X10 cI cJ cS a u) sz)) 1 6 (va_A (wO cJ o f ++ cl_X10 cI cJ cS a u) sz) := by
  intro sz
  refine z_enterL (Qc := fun A => va_Qi Q (zB dC dI cI cJ cS A (fun z : zCls × (Nat → Int64) => wO cJ o z.2 ++ cl_X10 cI cJ cS a z.1)) A) (cc := cL_acts) (maxL := 3) (ret := some .int) (hh := [(0, 8, 11, 13)]) (by decide) (Nat.le_of_ble_eq_true rfl) ?_
  intro p e s m below meth c ls A X htb hP hD hS hA hF hl
  obtain ⟨⟨hx, hb, hml, hown, hts⟩, hr, hlk, hK⟩ := id X
  have hl : lv_has ls 3 [(0, .ref (a 0)), (1, .ref o)] := hl
  refine lv_aload_n hx hb dL_acts_0 rfl (lv_at hl 1 rfl) ?_
  refine lv_iconst (v := 0) hx hb dL_acts_1 (by decide) ?_
  refine lv_aload_n hx hb dL_acts_2 rfl (lv_at hl 0 rfl) ?_
  refine z_xVi (Wn := fun z => wO cJ o f ++ cl_X10 cI cJ cS a z) (wr := wO cJ o f) (As := []) (rest := [.int 0, .ref o]) X fro_Fy hF.1 (c_X10_acts l hlt dC dI cI cJ cS a u  (fun r z => Q 0 (z, vp_updL f 0 r.toInt64)) (fun E z => (E = exC 0 ∧ Q 1 (z, f))) hf _) zc_X10_acts q_ml_L_7 ⟨rfl, rfl⟩ ⟨Nat.le_of_ble_eq_true rfl, Nat.le_of_ble_eq_true rfl⟩ hP hD hS hA (List.Perm.refl _) (fun _ => List.Perm.refl _) 9 rfl rfl hl.1 rfl rfl (Nat.le_of_ble_eq_true rfl) ⟨Nat.le_of_ble_eq_true rfl, Nat.le_of_ble_eq_true rfl⟩ dL_acts_3 (fun E z H locs q9 ce hq hP hD hS hce hcv hcl => ?_) (fun r z H locs hq hP hD hS => ?_)
  · obtain ⟨rfl, hq⟩ := hq
    refine z_cat (j := 0) X hF.1.2.2.2 [] ⟨0, 8, 11, 13⟩ [] htb (fun z hz => absurd hz (List.not_mem_nil)) rfl (by decide) w_cl_0 hce hcv hcl ?_
    refine lv_astore_n (lv' := [(2, .ref q9), (0, .ref (a 0)), (1, .ref o)]) hx hb dL_acts_11 rfl hl (by decide) rfl (fun ls hl => ?_)
    refine lv_iconst (v := 1) hx hb dL_acts_12 (by decide) ?_
    exact z_retMi (Wf := (fun z : zCls × (Nat → Int64) => wO cJ o z.2 ++ cl_X10 cI cJ cS a z.1)) (u := (z, f)) X hq hP hD hS dL_acts_13
  · refine lv_i2l (v := r.toInt64) hx hb dL_acts_6 rfl ?_
    refine z_last (Wn := fun g => wO cJ o g ++ cl_X10 cI cJ cS a z) (n := 1) (f := f) X hP hD hS 0 1 rfl rfl (vp_in_nI (n := 0) (by decide) (by decide)) (fun _ => rfl) dL_acts_7 (fun g H locs eg hP hD hS => ?_)
    refine lv_goto (tgt := 14) hx hb dL_acts_8 (by decide) ?_
    refine lv_iconst (v := 0) hx hb dL_acts_14 (by decide) ?_
    subst eg
    exact z_retMi (Wf := (fun z : zCls × (Nat → Int64) => wO cJ o z.2 ++ cl_X10 cI cJ cS a z.1)) (u := (z, _)) X hq hP hD hS dL_acts_15
theorem w_cw_store : zCalL yL_store cL_store 7 (some .int) [(0, 14, 17, 13)] 6 := ⟨zT_mem (List.mem_of_getElem? (i := 1019) (by decide +kernel)) (by decide +kernel), q_in_L, zT_mem (List.mem_of_getElem? (i := 1020) (by decide +kernel)) (by decide +kernel), ⟨by decide, by decide, by decide +kernel⟩⟩
abbrev rm_L_store : Room := { frames := 8, cells := 1, slots := 6, locals := 214 }
set_option maxHeartbeats 4000000 in
set_option maxRecDepth 100000 in
theorem c_L_store (l : Launch) (hlt : l.stackTraces = false) (dC : Nat → ClassId) (dI : Nat → Nat → Nat) (cI cJ cS : ClassId) (a : Nat → Nat) (u : zCls) (o : Nat) (f : Nat → Int64) (x1 : Int32) (x2 : Int32) (x3 : Int32) (x4 : Int32) (Q : Int32 → zCls × (Nat → Int64) → Prop) (hf : s_X10_store u x1 x2 x3 x4 (fun r z => Q 0 (z, vp_updL f 0 r.toInt64)) (fun E z => (E = exC 0 ∧ Q 1 (z, f)))) : ∀ sz : Nat, Met l yL_store (Cond.codeWith yL_store cL_store 7 (some .int) [(0, 14, 17, 13)] :: zT) rm_L_store (zPmF zFw dC dI cI cJ cS (wO cJ o f ++ cl_X10 cI cJ cS a u) [.ref (a 0), .int x1, .int x2, .int x3, .int x4, .ref o] sz) (va_Qi Q (zB dC dI cI cJ cS (va_A (wO cJ o f ++ cl_X10 cI cJ cS a u) sz) (fun z : zCls × (Nat → Int64) => wO cJ o z.2 ++ cl_X10 cI cJ cS a z.1)) (va_A (wO cJ o f ++ cl_X10 cI cJ cS a u) sz)) 1 6 (va_A (wO cJ o f ++ cl_X10 cI cJ cS a u) sz) := by
  intro sz
  refine z_enterL (Qc := fun A => va_Qi Q (zB dC dI cI cJ cS A (fun z : zCls × (Nat → Int64) => wO cJ o z.2 ++ cl_X10 cI cJ cS a z.1)) A) (cc := cL_store) (maxL := 7) (ret := some .int) (hh := [(0, 14, 17, 13)]) (by decide) (Nat.le_of_ble_eq_true rfl) ?_
  intro p e s m below meth c ls A X htb hP hD hS hA hF hl
  obtain ⟨⟨hx, hb, hml, hown, hts⟩, hr, hlk, hK⟩ := id X
  have hl : lv_has ls 7 [(0, .ref (a 0)), (1, .int x1), (2, .int x2), (3, .int x3), (4, .int x4), (5, .ref o)] := hl
  refine lv_aload hx hb dL_store_0 (lv_at hl 5 rfl) ?_
  refine lv_iconst (v := 0) hx hb dL_store_2 (by decide) ?_
  refine lv_aload_n hx hb dL_store_3 rfl (lv_at hl 0 rfl) ?_
  refine lv_iload_n hx hb dL_store_4 rfl (lv_at hl 1 rfl) ?_
  refine lv_iload_n hx hb dL_store_5 rfl (lv_at hl 2 rfl) ?_
  refine lv_iload_n hx hb dL_store_6 rfl (lv_at hl 3 rfl) ?_
  refine lv_iload hx hb dL_store_7 (lv_at hl 4 rfl) ?_
  refine z_xVi (Wn := fun z => wO cJ o f ++ cl_X10 cI cJ cS a z) (wr := wO cJ o f) (As := [.int x1, .int x2, .int x3, .int x4]) (rest := [.int 0, .ref o]) X fro_Fy hF.1 (c_X10_store l hlt dC dI cI cJ cS a u x1 x2 x3 x4 (fun r z => Q 0 (z, vp_updL f 0 r.toInt64)) (fun E z => (E = exC 0 ∧ Q 1 (z, f))) hf _) zc_X10_store q_ml_L_15 ⟨rfl, rfl⟩ ⟨Nat.le_of_ble_eq_true rfl, Nat.le_of_ble_eq_true rfl⟩ hP hD hS hA (List.Perm.refl _) (fun _ => List.Perm.refl _) 9 rfl rfl hl.1 rfl rfl (Nat.le_of_ble_eq_true rfl) ⟨Nat.le_of_ble_eq_true rfl, Nat.le_of_ble_eq_true rfl⟩ dL_store_9 (fun E z H locs q9 ce hq hP hD hS hce hcv hcl => ?_) (fun r z H locs hq hP hD hS => ?_)
  · obtain ⟨rfl, hq⟩ := hq
    refine z_cat (j := 0) X hF.1.2.2.2 [] ⟨0, 14, 17, 13⟩ [] htb (fun z hz => absurd hz (List.not_mem_nil)) rfl (by decide) w_cl_0 hce hcv hcl ?_
    refine lv_astore (lv' := [(6, .ref q9), (0, .ref (a 0)), (1, .int x1), (2, .int x2), (3, .int x3), (4, .int x4), (5, .ref o)]) hx hb dL_store_17 hl (by decide) rfl (fun ls hl => ?_)
    refine lv_iconst (v := 1) hx hb dL_store_19 (by decide) ?_
    exact z_retMi (Wf := (fun z : zCls × (Nat → Int64) => wO cJ o z.2 ++ cl_X10 cI cJ cS a z.1)) (u := (z, f)) X hq hP hD hS dL_store_20
  · refine lv_i2l (v := r.toInt64) hx hb dL_store_12 rfl ?_
    refine z_last (Wn := fun g => wO cJ o g ++ cl_X10 cI cJ cS a z) (n := 1) (f := f) X hP hD hS 0 1 rfl rfl (vp_in_nI (n := 0) (by decide) (by decide)) (fun _ => rfl) dL_store_13 (fun g H locs eg hP hD hS => ?_)
    refine lv_goto (tgt := 21) hx hb dL_store_14 (by decide) ?_
    refine lv_iconst (v := 0) hx hb dL_store_21 (by decide) ?_
    subst eg
    exact z_retMi (Wf := (fun z : zCls × (Nat → Int64) => wO cJ o z.2 ++ cl_X10 cI cJ cS a z.1)) (u := (z, _)) X hq hP hD hS dL_store_22
theorem w_cw_drop : zCalL yL_drop cL_drop 4 (some .int) [(0, 9, 12, 23), (0, 9, 15, 25)] 3 := ⟨zT_mem (List.mem_of_getElem? (i := 1077) (by decide +kernel)) (by decide +kernel), q_in_L, zT_mem (List.mem_of_getElem? (i := 1078) (by decide +kernel)) (by decide +kernel), ⟨by decide, by decide, by decide +kernel⟩⟩
abbrev rm_L_drop : Room := { frames := 8, cells := 2, slots := 12, locals := 211 }
set_option maxHeartbeats 4000000 in
set_option maxRecDepth 100000 in
theorem c_L_drop (l : Launch) (hlt : l.stackTraces = false) (dC : Nat → ClassId) (dI : Nat → Nat → Nat) (cI cJ cS : ClassId) (a : Nat → Nat) (u : zCls) (o : Nat) (f : Nat → Int64) (x1 : Int32) (Q : Int32 → zCls × (Nat → Int64) → Prop) (hf : s_X10_drop u x1 (fun r z => Q 0 (z, vp_updL f 0 r.toInt64)) (fun E z => (E = exC 2 ∧ Q 1 (z, f)) ∨ (E = exC 1 ∧ Q 2 (z, f)))) : ∀ sz : Nat, Met l yL_drop (Cond.codeWith yL_drop cL_drop 4 (some .int) [(0, 9, 12, 23), (0, 9, 15, 25)] :: zT) rm_L_drop (zPmF zFw dC dI cI cJ cS (wO cJ o f ++ cl_X10 cI cJ cS a u) [.ref (a 0), .int x1, .ref o] sz) (va_Qi Q (zB dC dI cI cJ cS (va_A (wO cJ o f ++ cl_X10 cI cJ cS a u) sz) (fun z : zCls × (Nat → Int64) => wO cJ o z.2 ++ cl_X10 cI cJ cS a z.1)) (va_A (wO cJ o f ++ cl_X10 cI cJ cS a u) sz)) 2 12 (va_A (wO cJ o f ++ cl_X10 cI cJ cS a u) sz) := by
  intro sz
  refine z_enterL (Qc := fun A => va_Qi Q (zB dC dI cI cJ cS A (fun z : zCls × (Nat → Int64) => wO cJ o z.2 ++ cl_X10 cI cJ cS a z.1)) A) (cc := cL_drop) (maxL := 4) (ret := some .int) (hh := [(0, 9, 12, 23), (0, 9, 15, 25)]) (by decide) (Nat.le_of_ble_eq_true rfl) ?_
  intro p e s m below meth c ls A X htb hP hD hS hA hF hl
  obtain ⟨⟨hx, hb, hml, hown, hts⟩, hr, hlk, hK⟩ := id X
  have hl : lv_has ls 4 [(0, .ref (a 0)), (1, .int x1), (2, .ref o)] := hl
  refine lv_aload_n hx hb dL_drop_0 rfl (lv_at hl 2 rfl) ?_
  refine lv_iconst (v := 0) hx hb dL_drop_1 (by decide) ?_
  refine lv_aload_n hx hb dL_drop_2 rfl (lv_at hl 0 rfl) ?_
  refine lv_iload_n hx hb dL_drop_3 rfl (lv_at hl 1 rfl) ?_
  refine z_xVi (Wn := fun z => wO cJ o f ++ cl_X10 cI cJ cS a z) (wr := wO cJ o f) (As := [.int x1]) (rest := [.int 0, .ref o]) X fro_Fy hF.1 (c_X10_drop l hlt dC dI cI cJ cS a u x1 (fun r z => Q 0 (z, vp_updL f 0 r.toInt64)) (fun E z => (E = exC 2 ∧ Q 1 (z, f)) ∨ (E = exC 1 ∧ Q 2 (z, f))) hf _) zc_X10_drop q_ml_L_27 ⟨rfl, rfl⟩ ⟨Nat.le_of_ble_eq_true rfl, Nat.le_of_ble_eq_true rfl⟩ hP hD hS hA (List.Perm.refl _) (fun _ => List.Perm.refl _) 9 rfl rfl hl.1 rfl rfl (Nat.le_of_ble_eq_true rfl) ⟨Nat.le_of_ble_eq_true rfl, Nat.le_of_ble_eq_true rfl⟩ dL_drop_4 (fun E z H locs q9 ce hq hP hD hS hce hcv hcl => ?_) (fun r z H locs hq hP hD hS => ?_)
  · rcases hq with ⟨rfl, hq⟩ | ⟨rfl, hq⟩
    · refine z_cat (j := 2) X hF.1.2.2.2 [] ⟨0, 9, 12, 23⟩ [⟨0, 9, 15, 25⟩] htb (fun z hz => absurd hz (List.not_mem_nil)) rfl (by decide) w_cl_2 hce hcv hcl ?_
      refine lv_astore_n (lv' := [(3, .ref q9), (0, .ref (a 0)), (1, .int x1), (2, .ref o)]) hx hb dL_drop_12 rfl hl (by decide) rfl (fun ls hl => ?_)
      refine lv_iconst (v := 1) hx hb dL_drop_13 (by decide) ?_
      exact z_retMi (Wf := (fun z : zCls × (Nat → Int64) => wO cJ o z.2 ++ cl_X10 cI cJ cS a z.1)) (u := (z, f)) X hq hP hD hS dL_drop_14
    · refine z_cat (j := 1) X hF.1.2.2.2 [⟨0, 9, 12, 23⟩] ⟨0, 9, 15, 25⟩ [] htb (fun z hz => by
        simp only [List.mem_cons, List.not_mem_nil, or_false] at hz
        rcases hz with rfl
        · exact ⟨by decide, 2, w_cl_2, hF.2.2.1⟩) rfl (by decide) w_cl_1 hce hcv hcl ?_
      refine lv_astore_n (lv' := [(3, .ref q9), (0, .ref (a 0)), (1, .int x1), (2, .ref o)]) hx hb dL_drop_15 rfl hl (by decide) rfl (fun ls hl => ?_)
      refine lv_iconst (v := 2) hx hb dL_drop_16 (by decide) ?_
      exact z_retMi (Wf := (fun z : zCls × (Nat → Int64) => wO cJ o z.2 ++ cl_X10 cI cJ cS a z.1)) (u := (z, f)) X hq hP hD hS dL_drop_17
  · refine lv_i2l (v := r.toInt64) hx hb dL_drop_7 rfl ?_
    refine z_last (Wn := fun g => wO cJ o g ++ cl_X10 cI cJ cS a z) (n := 1) (f := f) X hP hD hS 0 1 rfl rfl (vp_in_nI (n := 0) (by decide) (by decide)) (fun _ => rfl) dL_drop_8 (fun g H locs eg hP hD hS => ?_)
    refine lv_goto (tgt := 18) hx hb dL_drop_9 (by decide) ?_
    refine lv_iconst (v := 0) hx hb dL_drop_18 (by decide) ?_
    subst eg
    exact z_retMi (Wf := (fun z : zCls × (Nat → Int64) => wO cJ o z.2 ++ cl_X10 cI cJ cS a z.1)) (u := (z, _)) X hq hP hD hS dL_drop_19
theorem w_cw_pick : zCalL yL_pick cL_pick 4 (some .int) [(0, 9, 12, 23), (0, 9, 15, 25)] 3 := ⟨zT_mem (List.mem_of_getElem? (i := 1084) (by decide +kernel)) (by decide +kernel), q_in_L, zT_mem (List.mem_of_getElem? (i := 1085) (by decide +kernel)) (by decide +kernel), ⟨by decide, by decide, by decide +kernel⟩⟩
abbrev rm_L_pick : Room := { frames := 8, cells := 2, slots := 12, locals := 211 }
set_option maxHeartbeats 4000000 in
set_option maxRecDepth 100000 in
theorem c_L_pick (l : Launch) (hlt : l.stackTraces = false) (dC : Nat → ClassId) (dI : Nat → Nat → Nat) (cI cJ cS : ClassId) (a : Nat → Nat) (u : zCls) (o : Nat) (f : Nat → Int64) (x1 : Int32) (Q : Int32 → zCls × (Nat → Int64) → Prop) (hf : s_X10_pick u x1 (fun r z => Q 0 (z, vp_updL f 0 r.toInt64)) (fun E z => (E = exC 2 ∧ Q 1 (z, f)) ∨ (E = exC 1 ∧ Q 2 (z, f)))) : ∀ sz : Nat, Met l yL_pick (Cond.codeWith yL_pick cL_pick 4 (some .int) [(0, 9, 12, 23), (0, 9, 15, 25)] :: zT) rm_L_pick (zPmF zFw dC dI cI cJ cS (wO cJ o f ++ cl_X10 cI cJ cS a u) [.ref (a 0), .int x1, .ref o] sz) (va_Qi Q (zB dC dI cI cJ cS (va_A (wO cJ o f ++ cl_X10 cI cJ cS a u) sz) (fun z : zCls × (Nat → Int64) => wO cJ o z.2 ++ cl_X10 cI cJ cS a z.1)) (va_A (wO cJ o f ++ cl_X10 cI cJ cS a u) sz)) 2 12 (va_A (wO cJ o f ++ cl_X10 cI cJ cS a u) sz) := by
  intro sz
  refine z_enterL (Qc := fun A => va_Qi Q (zB dC dI cI cJ cS A (fun z : zCls × (Nat → Int64) => wO cJ o z.2 ++ cl_X10 cI cJ cS a z.1)) A) (cc := cL_pick) (maxL := 4) (ret := some .int) (hh := [(0, 9, 12, 23), (0, 9, 15, 25)]) (by decide) (Nat.le_of_ble_eq_true rfl) ?_
  intro p e s m below meth c ls A X htb hP hD hS hA hF hl
  obtain ⟨⟨hx, hb, hml, hown, hts⟩, hr, hlk, hK⟩ := id X
  have hl : lv_has ls 4 [(0, .ref (a 0)), (1, .int x1), (2, .ref o)] := hl
  refine lv_aload_n hx hb dL_pick_0 rfl (lv_at hl 2 rfl) ?_
  refine lv_iconst (v := 0) hx hb dL_pick_1 (by decide) ?_
  refine lv_aload_n hx hb dL_pick_2 rfl (lv_at hl 0 rfl) ?_
  refine lv_iload_n hx hb dL_pick_3 rfl (lv_at hl 1 rfl) ?_
  refine z_xVi (Wn := fun z => wO cJ o f ++ cl_X10 cI cJ cS a z) (wr := wO cJ o f) (As := [.int x1]) (rest := [.int 0, .ref o]) X fro_Fy hF.1 (c_X10_pick l hlt dC dI cI cJ cS a u x1 (fun r z => Q 0 (z, vp_updL f 0 r.toInt64)) (fun E z => (E = exC 2 ∧ Q 1 (z, f)) ∨ (E = exC 1 ∧ Q 2 (z, f))) hf _) zc_X10_pick q_ml_L_31 ⟨rfl, rfl⟩ ⟨Nat.le_of_ble_eq_true rfl, Nat.le_of_ble_eq_true rfl⟩ hP hD hS hA (List.Perm.refl _) (fun _ => List.Perm.refl _) 9 rfl rfl hl.1 rfl rfl (Nat.le_of_ble_eq_true rfl) ⟨Nat.le_of_ble_eq_true rfl, Nat.le_of_ble_eq_true rfl⟩ dL_pick_4 (fun E z H locs q9 ce hq hP hD hS hce hcv hcl => ?_) (fun r z H locs hq hP hD hS => ?_)
  · rcases hq with ⟨rfl, hq⟩ | ⟨rfl, hq⟩
    · refine z_cat (j := 2) X hF.1.2.2.2 [] ⟨0, 9, 12, 23⟩ [⟨0, 9, 15, 25⟩] htb (fun z hz => absurd hz (List.not_mem_nil)) rfl (by decide) w_cl_2 hce hcv hcl ?_
      refine lv_astore_n (lv' := [(3, .ref q9), (0, .ref (a 0)), (1, .int x1), (2, .ref o)]) hx hb dL_pick_12 rfl hl (by decide) rfl (fun ls hl => ?_)
      refine lv_iconst (v := 1) hx hb dL_pick_13 (by decide) ?_
      exact z_retMi (Wf := (fun z : zCls × (Nat → Int64) => wO cJ o z.2 ++ cl_X10 cI cJ cS a z.1)) (u := (z, f)) X hq hP hD hS dL_pick_14
    · refine z_cat (j := 1) X hF.1.2.2.2 [⟨0, 9, 12, 23⟩] ⟨0, 9, 15, 25⟩ [] htb (fun z hz => by
        simp only [List.mem_cons, List.not_mem_nil, or_false] at hz
        rcases hz with rfl
        · exact ⟨by decide, 2, w_cl_2, hF.2.2.1⟩) rfl (by decide) w_cl_1 hce hcv hcl ?_
      refine lv_astore_n (lv' := [(3, .ref q9), (0, .ref (a 0)), (1, .int x1), (2, .ref o)]) hx hb dL_pick_15 rfl hl (by decide) rfl (fun ls hl => ?_)
      refine lv_iconst (v := 2) hx hb dL_pick_16 (by decide) ?_
      exact z_retMi (Wf := (fun z : zCls × (Nat → Int64) => wO cJ o z.2 ++ cl_X10 cI cJ cS a z.1)) (u := (z, f)) X hq hP hD hS dL_pick_17
  · refine lv_i2l (v := r.toInt64) hx hb dL_pick_7 rfl ?_
    refine z_last (Wn := fun g => wO cJ o g ++ cl_X10 cI cJ cS a z) (n := 1) (f := f) X hP hD hS 0 1 rfl rfl (vp_in_nI (n := 0) (by decide) (by decide)) (fun _ => rfl) dL_pick_8 (fun g H locs eg hP hD hS => ?_)
    refine lv_goto (tgt := 18) hx hb dL_pick_9 (by decide) ?_
    refine lv_iconst (v := 0) hx hb dL_pick_18 (by decide) ?_
    subst eg
    exact z_retMi (Wf := (fun z : zCls × (Nat → Int64) => wO cJ o z.2 ++ cl_X10 cI cJ cS a z.1)) (u := (z, _)) X hq hP hD hS dL_pick_19
theorem w_cw_step : zCalL yL_step cL_step 4 (some .int) [(0, 9, 12, 13), (0, 9, 15, 25)] 3 := ⟨zT_mem (List.mem_of_getElem? (i := 1095) (by decide +kernel)) (by decide +kernel), q_in_L, zT_mem (List.mem_of_getElem? (i := 1096) (by decide +kernel)) (by decide +kernel), ⟨by decide, by decide, by decide +kernel⟩⟩
abbrev rm_L_step : Room := { frames := 8, cells := 1, slots := 6, locals := 211 }
set_option maxHeartbeats 4000000 in
set_option maxRecDepth 100000 in
theorem c_L_step (l : Launch) (hlt : l.stackTraces = false) (dC : Nat → ClassId) (dI : Nat → Nat → Nat) (cI cJ cS : ClassId) (a : Nat → Nat) (u : zCls) (o : Nat) (f : Nat → Int64) (x1 : Int32) (Q : Int32 → zCls × (Nat → Int64) → Prop) (hf : s_X10_step u x1 (fun r z => Q 0 (z, vp_updL f 0 r.toInt64)) (fun E z => (E = exC 0 ∧ Q 1 (z, f)) ∨ (E = exC 1 ∧ Q 2 (z, f)))) : ∀ sz : Nat, Met l yL_step (Cond.codeWith yL_step cL_step 4 (some .int) [(0, 9, 12, 13), (0, 9, 15, 25)] :: zT) rm_L_step (zPmF zFw dC dI cI cJ cS (wO cJ o f ++ cl_X10 cI cJ cS a u) [.ref (a 0), .int x1, .ref o] sz) (va_Qi Q (zB dC dI cI cJ cS (va_A (wO cJ o f ++ cl_X10 cI cJ cS a u) sz) (fun z : zCls × (Nat → Int64) => wO cJ o z.2 ++ cl_X10 cI cJ cS a z.1)) (va_A (wO cJ o f ++ cl_X10 cI cJ cS a u) sz)) 1 6 (va_A (wO cJ o f ++ cl_X10 cI cJ cS a u) sz) := by
  intro sz
  refine z_enterL (Qc := fun A => va_Qi Q (zB dC dI cI cJ cS A (fun z : zCls × (Nat → Int64) => wO cJ o z.2 ++ cl_X10 cI cJ cS a z.1)) A) (cc := cL_step) (maxL := 4) (ret := some .int) (hh := [(0, 9, 12, 13), (0, 9, 15, 25)]) (by decide) (Nat.le_of_ble_eq_true rfl) ?_
  intro p e s m below meth c ls A X htb hP hD hS hA hF hl
  obtain ⟨⟨hx, hb, hml, hown, hts⟩, hr, hlk, hK⟩ := id X
  have hl : lv_has ls 4 [(0, .ref (a 0)), (1, .int x1), (2, .ref o)] := hl
  refine lv_aload_n hx hb dL_step_0 rfl (lv_at hl 2 rfl) ?_
  refine lv_iconst (v := 0) hx hb dL_step_1 (by decide) ?_
  refine lv_aload_n hx hb dL_step_2 rfl (lv_at hl 0 rfl) ?_
  refine lv_iload_n hx hb dL_step_3 rfl (lv_at hl 1 rfl) ?_
  refine z_xVi (Wn := fun z => wO cJ o f ++ cl_X10 cI cJ cS a z) (wr := wO cJ o f) (As := [.int x1]) (rest := [.int 0, .ref o]) X fro_Fy hF.1 (c_X10_step l hlt dC dI cI cJ cS a u x1 (fun r z => Q 0 (z, vp_updL f 0 r.toInt64)) (fun E z => (E = exC 0 ∧ Q 1 (z, f)) ∨ (E = exC 1 ∧ Q 2 (z, f))) hf _) zc_X10_step q_ml_L_34 ⟨rfl, rfl⟩ ⟨Nat.le_of_ble_eq_true rfl, Nat.le_of_ble_eq_true rfl⟩ hP hD hS hA (List.Perm.refl _) (fun _ => List.Perm.refl _) 9 rfl rfl hl.1 rfl rfl (Nat.le_of_ble_eq_true rfl) ⟨Nat.le_of_ble_eq_true rfl, Nat.le_of_ble_eq_true rfl⟩ dL_step_4 (fun E z H locs q9 ce hq hP hD hS hce hcv hcl => ?_) (fun r z H locs hq hP hD hS => ?_)
  · rcases hq with ⟨rfl, hq⟩ | ⟨rfl, hq⟩
    · refine z_cat (j := 0) X hF.1.2.2.2 [] ⟨0, 9, 12, 13⟩ [⟨0, 9, 15, 25⟩] htb (fun z hz => absurd hz (List.not_mem_nil)) rfl (by decide) w_cl_0 hce hcv hcl ?_
      refine lv_astore_n (lv' := [(3, .ref q9), (0, .ref (a 0)), (1, .int x1), (2, .ref o)]) hx hb dL_step_12 rfl hl (by decide) rfl (fun ls hl => ?_)
      refine lv_iconst (v := 1) hx hb dL_step_13 (by decide) ?_
      exact z_retMi (Wf := (fun z : zCls × (Nat → Int64) => wO cJ o z.2 ++ cl_X10 cI cJ cS a z.1)) (u := (z, f)) X hq hP hD hS dL_step_14
    · refine z_cat (j := 1) X hF.1.2.2.2 [⟨0, 9, 12, 13⟩] ⟨0, 9, 15, 25⟩ [] htb (fun z hz => by
        simp only [List.mem_cons, List.not_mem_nil, or_false] at hz
        rcases hz with rfl
        · exact ⟨by decide, 0, w_cl_0, hF.2.2.2.1⟩) rfl (by decide) w_cl_1 hce hcv hcl ?_
      refine lv_astore_n (lv' := [(3, .ref q9), (0, .ref (a 0)), (1, .int x1), (2, .ref o)]) hx hb dL_step_15 rfl hl (by decide) rfl (fun ls hl => ?_)
      refine lv_iconst (v := 2) hx hb dL_step_16 (by decide) ?_
      exact z_retMi (Wf := (fun z : zCls × (Nat → Int64) => wO cJ o z.2 ++ cl_X10 cI cJ cS a z.1)) (u := (z, f)) X hq hP hD hS dL_step_17
  · refine lv_i2l (v := r.toInt64) hx hb dL_step_7 rfl ?_
    refine z_last (Wn := fun g => wO cJ o g ++ cl_X10 cI cJ cS a z) (n := 1) (f := f) X hP hD hS 0 1 rfl rfl (vp_in_nI (n := 0) (by decide) (by decide)) (fun _ => rfl) dL_step_8 (fun g H locs eg hP hD hS => ?_)
    refine lv_goto (tgt := 18) hx hb dL_step_9 (by decide) ?_
    refine lv_iconst (v := 0) hx hb dL_step_18 (by decide) ?_
    subst eg
    exact z_retMi (Wf := (fun z : zCls × (Nat → Int64) => wO cJ o z.2 ++ cl_X10 cI cJ cS a z.1)) (u := (z, _)) X hq hP hD hS dL_step_19
theorem w_cw_quit : zCalL yL_quit cL_quit 3 (some .int) [(0, 8, 11, 25)] 2 := ⟨zT_mem (List.mem_of_getElem? (i := 1103) (by decide +kernel)) (by decide +kernel), q_in_L, zT_mem (List.mem_of_getElem? (i := 1104) (by decide +kernel)) (by decide +kernel), ⟨by decide, by decide, by decide +kernel⟩⟩
abbrev rm_L_quit : Room := { frames := 8, cells := 1, slots := 6, locals := 210 }
set_option maxHeartbeats 4000000 in
set_option maxRecDepth 100000 in
theorem c_L_quit (l : Launch) (hlt : l.stackTraces = false) (dC : Nat → ClassId) (dI : Nat → Nat → Nat) (cI cJ cS : ClassId) (a : Nat → Nat) (u : zCls) (o : Nat) (f : Nat → Int64)  (Q : Int32 → zCls × (Nat → Int64) → Prop) (hf : s_X10_quit u  (fun r z => Q 0 (z, vp_updL f 0 r.toInt64)) (fun E z => (E = exC 1 ∧ Q 1 (z, f)))) : ∀ sz : Nat, Met l yL_quit (Cond.codeWith yL_quit cL_quit 3 (some .int) [(0, 8, 11, 25)] :: zT) rm_L_quit (zPmF zFw dC dI cI cJ cS (wO cJ o f ++ cl_X10 cI cJ cS a u) [.ref (a 0), .ref o] sz) (va_Qi Q (zB dC dI cI cJ cS (va_A (wO cJ o f ++ cl_X10 cI cJ cS a u) sz) (fun z : zCls × (Nat → Int64) => wO cJ o z.2 ++ cl_X10 cI cJ cS a z.1)) (va_A (wO cJ o f ++ cl_X10 cI cJ cS a u) sz)) 1 6 (va_A (wO cJ o f ++ cl_X10 cI cJ cS a u) sz) := by
  intro sz
  refine z_enterL (Qc := fun A => va_Qi Q (zB dC dI cI cJ cS A (fun z : zCls × (Nat → Int64) => wO cJ o z.2 ++ cl_X10 cI cJ cS a z.1)) A) (cc := cL_quit) (maxL := 3) (ret := some .int) (hh := [(0, 8, 11, 25)]) (by decide) (Nat.le_of_ble_eq_true rfl) ?_
  intro p e s m below meth c ls A X htb hP hD hS hA hF hl
  obtain ⟨⟨hx, hb, hml, hown, hts⟩, hr, hlk, hK⟩ := id X
  have hl : lv_has ls 3 [(0, .ref (a 0)), (1, .ref o)] := hl
  refine lv_aload_n hx hb dL_quit_0 rfl (lv_at hl 1 rfl) ?_
  refine lv_iconst (v := 0) hx hb dL_quit_1 (by decide) ?_
  refine lv_aload_n hx hb dL_quit_2 rfl (lv_at hl 0 rfl) ?_
  refine z_xVi (Wn := fun z => wO cJ o f ++ cl_X10 cI cJ cS a z) (wr := wO cJ o f) (As := []) (rest := [.int 0, .ref o]) X fro_Fy hF.1 (c_X10_quit l hlt dC dI cI cJ cS a u  (fun r z => Q 0 (z, vp_updL f 0 r.toInt64)) (fun E z => (E = exC 1 ∧ Q 1 (z, f))) hf _) zc_X10_quit q_ml_L_37 ⟨rfl, rfl⟩ ⟨Nat.le_of_ble_eq_true rfl, Nat.le_of_ble_eq_true rfl⟩ hP hD hS hA (List.Perm.refl _) (fun _ => List.Perm.refl _) 9 rfl rfl hl.1 rfl rfl (Nat.le_of_ble_eq_true rfl) ⟨Nat.le_of_ble_eq_true rfl, Nat.le_of_ble_eq_true rfl⟩ dL_quit_3 (fun E z H locs q9 ce hq hP hD hS hce hcv hcl => ?_) (fun r z H locs hq hP hD hS => ?_)
  · obtain ⟨rfl, hq⟩ := hq
    refine z_cat (j := 1) X hF.1.2.2.2 [] ⟨0, 8, 11, 25⟩ [] htb (fun z hz => absurd hz (List.not_mem_nil)) rfl (by decide) w_cl_1 hce hcv hcl ?_
    refine lv_astore_n (lv' := [(2, .ref q9), (0, .ref (a 0)), (1, .ref o)]) hx hb dL_quit_11 rfl hl (by decide) rfl (fun ls hl => ?_)
    refine lv_iconst (v := 1) hx hb dL_quit_12 (by decide) ?_
    exact z_retMi (Wf := (fun z : zCls × (Nat → Int64) => wO cJ o z.2 ++ cl_X10 cI cJ cS a z.1)) (u := (z, f)) X hq hP hD hS dL_quit_13
  · refine lv_i2l (v := r.toInt64) hx hb dL_quit_6 rfl ?_
    refine z_last (Wn := fun g => wO cJ o g ++ cl_X10 cI cJ cS a z) (n := 1) (f := f) X hP hD hS 0 1 rfl rfl (vp_in_nI (n := 0) (by decide) (by decide)) (fun _ => rfl) dL_quit_7 (fun g H locs eg hP hD hS => ?_)
    refine lv_goto (tgt := 14) hx hb dL_quit_8 (by decide) ?_
    refine lv_iconst (v := 0) hx hb dL_quit_14 (by decide) ?_
    subst eg
    exact z_retMi (Wf := (fun z : zCls × (Nat → Int64) => wO cJ o z.2 ++ cl_X10 cI cJ cS a z.1)) (u := (z, _)) X hq hP hD hS dL_quit_15
theorem w_cw_undo : zCalL yL_undo cL_undo 3 (some .int) [(0, 8, 11, 25)] 2 := ⟨zT_mem (List.mem_of_getElem? (i := 1110) (by decide +kernel)) (by decide +kernel), q_in_L, zT_mem (List.mem_of_getElem? (i := 1111) (by decide +kernel)) (by decide +kernel), ⟨by decide, by decide, by decide +kernel⟩⟩
abbrev rm_L_undo : Room := { frames := 7, cells := 1, slots := 6, locals := 132 }
set_option maxHeartbeats 4000000 in
set_option maxRecDepth 100000 in
theorem c_L_undo (l : Launch) (hlt : l.stackTraces = false) (dC : Nat → ClassId) (dI : Nat → Nat → Nat) (cI cJ cS : ClassId) (a : Nat → Nat) (u : zCls) (o : Nat) (f : Nat → Int64)  (Q : Int32 → zCls × (Nat → Int64) → Prop) (hf : s_X10_undo u  (fun r z => Q 0 (z, vp_updL f 0 r.toInt64)) (fun E z => (E = exC 1 ∧ Q 1 (z, f)))) : ∀ sz : Nat, Met l yL_undo (Cond.codeWith yL_undo cL_undo 3 (some .int) [(0, 8, 11, 25)] :: zT) rm_L_undo (zPmF zFw dC dI cI cJ cS (wO cJ o f ++ cl_X10 cI cJ cS a u) [.ref (a 0), .ref o] sz) (va_Qi Q (zB dC dI cI cJ cS (va_A (wO cJ o f ++ cl_X10 cI cJ cS a u) sz) (fun z : zCls × (Nat → Int64) => wO cJ o z.2 ++ cl_X10 cI cJ cS a z.1)) (va_A (wO cJ o f ++ cl_X10 cI cJ cS a u) sz)) 1 6 (va_A (wO cJ o f ++ cl_X10 cI cJ cS a u) sz) := by
  intro sz
  refine z_enterL (Qc := fun A => va_Qi Q (zB dC dI cI cJ cS A (fun z : zCls × (Nat → Int64) => wO cJ o z.2 ++ cl_X10 cI cJ cS a z.1)) A) (cc := cL_undo) (maxL := 3) (ret := some .int) (hh := [(0, 8, 11, 25)]) (by decide) (Nat.le_of_ble_eq_true rfl) ?_
  intro p e s m below meth c ls A X htb hP hD hS hA hF hl
  obtain ⟨⟨hx, hb, hml, hown, hts⟩, hr, hlk, hK⟩ := id X
  have hl : lv_has ls 3 [(0, .ref (a 0)), (1, .ref o)] := hl
  refine lv_aload_n hx hb dL_undo_0 rfl (lv_at hl 1 rfl) ?_
  refine lv_iconst (v := 0) hx hb dL_undo_1 (by decide) ?_
  refine lv_aload_n hx hb dL_undo_2 rfl (lv_at hl 0 rfl) ?_
  refine z_xVi (Wn := fun z => wO cJ o f ++ cl_X10 cI cJ cS a z) (wr := wO cJ o f) (As := []) (rest := [.int 0, .ref o]) X fro_Fy hF.1 (c_X10_undo l hlt dC dI cI cJ cS a u  (fun r z => Q 0 (z, vp_updL f 0 r.toInt64)) (fun E z => (E = exC 1 ∧ Q 1 (z, f))) hf _) zc_X10_undo q_ml_L_40 ⟨rfl, rfl⟩ ⟨Nat.le_of_ble_eq_true rfl, Nat.le_of_ble_eq_true rfl⟩ hP hD hS hA (List.Perm.refl _) (fun _ => List.Perm.refl _) 9 rfl rfl hl.1 rfl rfl (Nat.le_of_ble_eq_true rfl) ⟨Nat.le_of_ble_eq_true rfl, Nat.le_of_ble_eq_true rfl⟩ dL_undo_3 (fun E z H locs q9 ce hq hP hD hS hce hcv hcl => ?_) (fun r z H locs hq hP hD hS => ?_)
  · obtain ⟨rfl, hq⟩ := hq
    refine z_cat (j := 1) X hF.1.2.2.2 [] ⟨0, 8, 11, 25⟩ [] htb (fun z hz => absurd hz (List.not_mem_nil)) rfl (by decide) w_cl_1 hce hcv hcl ?_
    refine lv_astore_n (lv' := [(2, .ref q9), (0, .ref (a 0)), (1, .ref o)]) hx hb dL_undo_11 rfl hl (by decide) rfl (fun ls hl => ?_)
    refine lv_iconst (v := 1) hx hb dL_undo_12 (by decide) ?_
    exact z_retMi (Wf := (fun z : zCls × (Nat → Int64) => wO cJ o z.2 ++ cl_X10 cI cJ cS a z.1)) (u := (z, f)) X hq hP hD hS dL_undo_13
  · refine lv_i2l (v := r.toInt64) hx hb dL_undo_6 rfl ?_
    refine z_last (Wn := fun g => wO cJ o g ++ cl_X10 cI cJ cS a z) (n := 1) (f := f) X hP hD hS 0 1 rfl rfl (vp_in_nI (n := 0) (by decide) (by decide)) (fun _ => rfl) dL_undo_7 (fun g H locs eg hP hD hS => ?_)
    refine lv_goto (tgt := 14) hx hb dL_undo_8 (by decide) ?_
    refine lv_iconst (v := 0) hx hb dL_undo_14 (by decide) ?_
    subst eg
    exact z_retMi (Wf := (fun z : zCls × (Nat → Int64) => wO cJ o z.2 ++ cl_X10 cI cJ cS a z.1)) (u := (z, _)) X hq hP hD hS dL_undo_15
theorem w_cw_key : zCalL yL_key cL_key 5 (some .int) [(0, 10, 13, 23), (0, 10, 17, 47)] 4 := ⟨zT_mem (List.mem_of_getElem? (i := 1122) (by decide +kernel)) (by decide +kernel), q_in_L, zT_mem (List.mem_of_getElem? (i := 1123) (by decide +kernel)) (by decide +kernel), ⟨by decide, by decide, by decide +kernel⟩⟩
abbrev rm_L_key : Room := { frames := 8, cells := 2, slots := 12, locals := 133 }
set_option maxHeartbeats 4000000 in
set_option maxRecDepth 100000 in
theorem c_L_key (l : Launch) (hlt : l.stackTraces = false) (dC : Nat → ClassId) (dI : Nat → Nat → Nat) (cI cJ cS : ClassId) (a : Nat → Nat) (u : zCls) (o : Nat) (f : Nat → Int64) (x1 : Int32) (x2 : Int32) (Q : Int32 → zCls × (Nat → Int64) → Prop) (hf : s_X10_key u x1 x2 (fun r z => Q 0 (z, vp_updL f 0 r.toInt64)) (fun E z => (E = exC 2 ∧ Q 1 (z, f)) ∨ (E = exC 3 ∧ Q 2 (z, f)))) : ∀ sz : Nat, Met l yL_key (Cond.codeWith yL_key cL_key 5 (some .int) [(0, 10, 13, 23), (0, 10, 17, 47)] :: zT) rm_L_key (zPmF zFw dC dI cI cJ cS (wO cJ o f ++ cl_X10 cI cJ cS a u) [.ref (a 0), .int x1, .int x2, .ref o] sz) (va_Qi Q (zB dC dI cI cJ cS (va_A (wO cJ o f ++ cl_X10 cI cJ cS a u) sz) (fun z : zCls × (Nat → Int64) => wO cJ o z.2 ++ cl_X10 cI cJ cS a z.1)) (va_A (wO cJ o f ++ cl_X10 cI cJ cS a u) sz)) 2 12 (va_A (wO cJ o f ++ cl_X10 cI cJ cS a u) sz) := by
  intro sz
  refine z_enterL (Qc := fun A => va_Qi Q (zB dC dI cI cJ cS A (fun z : zCls × (Nat → Int64) => wO cJ o z.2 ++ cl_X10 cI cJ cS a z.1)) A) (cc := cL_key) (maxL := 5) (ret := some .int) (hh := [(0, 10, 13, 23), (0, 10, 17, 47)]) (by decide) (Nat.le_of_ble_eq_true rfl) ?_
  intro p e s m below meth c ls A X htb hP hD hS hA hF hl
  obtain ⟨⟨hx, hb, hml, hown, hts⟩, hr, hlk, hK⟩ := id X
  have hl : lv_has ls 5 [(0, .ref (a 0)), (1, .int x1), (2, .int x2), (3, .ref o)] := hl
  refine lv_aload_n hx hb dL_key_0 rfl (lv_at hl 3 rfl) ?_
  refine lv_iconst (v := 0) hx hb dL_key_1 (by decide) ?_
  refine lv_aload_n hx hb dL_key_2 rfl (lv_at hl 0 rfl) ?_
  refine lv_iload_n hx hb dL_key_3 rfl (lv_at hl 1 rfl) ?_
  refine lv_iload_n hx hb dL_key_4 rfl (lv_at hl 2 rfl) ?_
  refine z_xVi (Wn := fun z => wO cJ o f ++ cl_X10 cI cJ cS a z) (wr := wO cJ o f) (As := [.int x1, .int x2]) (rest := [.int 0, .ref o]) X fro_Fy hF.1 (c_X10_key l hlt dC dI cI cJ cS a u x1 x2 (fun r z => Q 0 (z, vp_updL f 0 r.toInt64)) (fun E z => (E = exC 2 ∧ Q 1 (z, f)) ∨ (E = exC 3 ∧ Q 2 (z, f))) hf _) zc_X10_key q_ml_L_43 ⟨rfl, rfl⟩ ⟨Nat.le_of_ble_eq_true rfl, Nat.le_of_ble_eq_true rfl⟩ hP hD hS hA (List.Perm.refl _) (fun _ => List.Perm.refl _) 9 rfl rfl hl.1 rfl rfl (Nat.le_of_ble_eq_true rfl) ⟨Nat.le_of_ble_eq_true rfl, Nat.le_of_ble_eq_true rfl⟩ dL_key_5 (fun E z H locs q9 ce hq hP hD hS hce hcv hcl => ?_) (fun r z H locs hq hP hD hS => ?_)
  · rcases hq with ⟨rfl, hq⟩ | ⟨rfl, hq⟩
    · refine z_cat (j := 2) X hF.1.2.2.2 [] ⟨0, 10, 13, 23⟩ [⟨0, 10, 17, 47⟩] htb (fun z hz => absurd hz (List.not_mem_nil)) rfl (by decide) w_cl_2 hce hcv hcl ?_
      refine lv_astore (lv' := [(4, .ref q9), (0, .ref (a 0)), (1, .int x1), (2, .int x2), (3, .ref o)]) hx hb dL_key_13 hl (by decide) rfl (fun ls hl => ?_)
      refine lv_iconst (v := 1) hx hb dL_key_15 (by decide) ?_
      exact z_retMi (Wf := (fun z : zCls × (Nat → Int64) => wO cJ o z.2 ++ cl_X10 cI cJ cS a z.1)) (u := (z, f)) X hq hP hD hS dL_key_16
    · refine z_cat (j := 3) X hF.1.2.2.2 [⟨0, 10, 13, 23⟩] ⟨0, 10, 17, 47⟩ [] htb (fun z hz => by
        simp only [List.mem_cons, List.not_mem_nil, or_false] at hz
        rcases hz with rfl
        · exact ⟨by decide, 2, w_cl_2, hF.2.2.2.2.1⟩) rfl (by decide) w_cl_3 hce hcv hcl ?_
      refine lv_astore (lv' := [(4, .ref q9), (0, .ref (a 0)), (1, .int x1), (2, .int x2), (3, .ref o)]) hx hb dL_key_17 hl (by decide) rfl (fun ls hl => ?_)
      refine lv_iconst (v := 2) hx hb dL_key_19 (by decide) ?_
      exact z_retMi (Wf := (fun z : zCls × (Nat → Int64) => wO cJ o z.2 ++ cl_X10 cI cJ cS a z.1)) (u := (z, f)) X hq hP hD hS dL_key_20
  · refine lv_i2l (v := r.toInt64) hx hb dL_key_8 rfl ?_
    refine z_last (Wn := fun g => wO cJ o g ++ cl_X10 cI cJ cS a z) (n := 1) (f := f) X hP hD hS 0 1 rfl rfl (vp_in_nI (n := 0) (by decide) (by decide)) (fun _ => rfl) dL_key_9 (fun g H locs eg hP hD hS => ?_)
    refine lv_goto (tgt := 21) hx hb dL_key_10 (by decide) ?_
    refine lv_iconst (v := 0) hx hb dL_key_21 (by decide) ?_
    subst eg
    exact z_retMi (Wf := (fun z : zCls × (Nat → Int64) => wO cJ o z.2 ++ cl_X10 cI cJ cS a z.1)) (u := (z, _)) X hq hP hD hS dL_key_22
theorem w_cw_octet : zCalL yL_octet cL_octet 5 (some .int) [(0, 10, 13, 23)] 4 := ⟨zT_mem (List.mem_of_getElem? (i := 1182) (by decide +kernel)) (by decide +kernel), q_in_L, zT_mem (List.mem_of_getElem? (i := 1183) (by decide +kernel)) (by decide +kernel), ⟨by decide, by decide, by decide +kernel⟩⟩
abbrev rm_L_octet : Room := { frames := 8, cells := 1, slots := 6, locals := 132 }
set_option maxHeartbeats 4000000 in
set_option maxRecDepth 100000 in
theorem c_L_octet (l : Launch) (hlt : l.stackTraces = false) (dC : Nat → ClassId) (dI : Nat → Nat → Nat) (cI cJ cS : ClassId) (a : Nat → Nat) (u : zCls) (o : Nat) (f : Nat → Int64) (x1 : Int32) (x2 : Int32) (Q : Int32 → zCls × (Nat → Int64) → Prop) (hf : s_X10_octet u x1 x2 (fun r z => Q 0 (z, vp_updL f 0 r.toInt64)) (fun E z => (E = exC 2 ∧ Q 1 (z, f)))) : ∀ sz : Nat, Met l yL_octet (Cond.codeWith yL_octet cL_octet 5 (some .int) [(0, 10, 13, 23)] :: zT) rm_L_octet (zPmF zFw dC dI cI cJ cS (wO cJ o f ++ cl_X10 cI cJ cS a u) [.ref (a 0), .int x1, .int x2, .ref o] sz) (va_Qi Q (zB dC dI cI cJ cS (va_A (wO cJ o f ++ cl_X10 cI cJ cS a u) sz) (fun z : zCls × (Nat → Int64) => wO cJ o z.2 ++ cl_X10 cI cJ cS a z.1)) (va_A (wO cJ o f ++ cl_X10 cI cJ cS a u) sz)) 1 6 (va_A (wO cJ o f ++ cl_X10 cI cJ cS a u) sz) := by
  intro sz
  refine z_enterL (Qc := fun A => va_Qi Q (zB dC dI cI cJ cS A (fun z : zCls × (Nat → Int64) => wO cJ o z.2 ++ cl_X10 cI cJ cS a z.1)) A) (cc := cL_octet) (maxL := 5) (ret := some .int) (hh := [(0, 10, 13, 23)]) (by decide) (Nat.le_of_ble_eq_true rfl) ?_
  intro p e s m below meth c ls A X htb hP hD hS hA hF hl
  obtain ⟨⟨hx, hb, hml, hown, hts⟩, hr, hlk, hK⟩ := id X
  have hl : lv_has ls 5 [(0, .ref (a 0)), (1, .int x1), (2, .int x2), (3, .ref o)] := hl
  refine lv_aload_n hx hb dL_octet_0 rfl (lv_at hl 3 rfl) ?_
  refine lv_iconst (v := 0) hx hb dL_octet_1 (by decide) ?_
  refine lv_aload_n hx hb dL_octet_2 rfl (lv_at hl 0 rfl) ?_
  refine lv_iload_n hx hb dL_octet_3 rfl (lv_at hl 1 rfl) ?_
  refine lv_iload_n hx hb dL_octet_4 rfl (lv_at hl 2 rfl) ?_
  refine z_xVi (Wn := fun z => wO cJ o f ++ cl_X10 cI cJ cS a z) (wr := wO cJ o f) (As := [.int x1, .int x2]) (rest := [.int 0, .ref o]) X fro_Fy hF.1 (c_X10_octet l hlt dC dI cI cJ cS a u x1 x2 (fun r z => Q 0 (z, vp_updL f 0 r.toInt64)) (fun E z => (E = exC 2 ∧ Q 1 (z, f))) hf _) zc_X10_octet q_ml_L_49 ⟨rfl, rfl⟩ ⟨Nat.le_of_ble_eq_true rfl, Nat.le_of_ble_eq_true rfl⟩ hP hD hS hA (List.Perm.refl _) (fun _ => List.Perm.refl _) 9 rfl rfl hl.1 rfl rfl (Nat.le_of_ble_eq_true rfl) ⟨Nat.le_of_ble_eq_true rfl, Nat.le_of_ble_eq_true rfl⟩ dL_octet_5 (fun E z H locs q9 ce hq hP hD hS hce hcv hcl => ?_) (fun r z H locs hq hP hD hS => ?_)
  · obtain ⟨rfl, hq⟩ := hq
    refine z_cat (j := 2) X hF.1.2.2.2 [] ⟨0, 10, 13, 23⟩ [] htb (fun z hz => absurd hz (List.not_mem_nil)) rfl (by decide) w_cl_2 hce hcv hcl ?_
    refine lv_astore (lv' := [(4, .ref q9), (0, .ref (a 0)), (1, .int x1), (2, .int x2), (3, .ref o)]) hx hb dL_octet_13 hl (by decide) rfl (fun ls hl => ?_)
    refine lv_iconst (v := 1) hx hb dL_octet_15 (by decide) ?_
    exact z_retMi (Wf := (fun z : zCls × (Nat → Int64) => wO cJ o z.2 ++ cl_X10 cI cJ cS a z.1)) (u := (z, f)) X hq hP hD hS dL_octet_16
  · refine lv_i2l (v := r.toInt64) hx hb dL_octet_8 rfl ?_
    refine z_last (Wn := fun g => wO cJ o g ++ cl_X10 cI cJ cS a z) (n := 1) (f := f) X hP hD hS 0 1 rfl rfl (vp_in_nI (n := 0) (by decide) (by decide)) (fun _ => rfl) dL_octet_9 (fun g H locs eg hP hD hS => ?_)
    refine lv_goto (tgt := 17) hx hb dL_octet_10 (by decide) ?_
    refine lv_iconst (v := 0) hx hb dL_octet_17 (by decide) ?_
    subst eg
    exact z_retMi (Wf := (fun z : zCls × (Nat → Int64) => wO cJ o z.2 ++ cl_X10 cI cJ cS a z.1)) (u := (z, _)) X hq hP hD hS dL_octet_18
theorem w_cw_from : zCalL yL_from cL_from 5 (some .int) [(0, 10, 13, 23)] 4 := ⟨zT_mem (List.mem_of_getElem? (i := 1189) (by decide +kernel)) (by decide +kernel), q_in_L, zT_mem (List.mem_of_getElem? (i := 1190) (by decide +kernel)) (by decide +kernel), ⟨by decide, by decide, by decide +kernel⟩⟩
abbrev rm_L_from : Room := { frames := 8, cells := 1, slots := 6, locals := 134 }
set_option maxHeartbeats 4000000 in
set_option maxRecDepth 100000 in
theorem c_L_from (l : Launch) (hlt : l.stackTraces = false) (dC : Nat → ClassId) (dI : Nat → Nat → Nat) (cI cJ cS : ClassId) (a : Nat → Nat) (u : zCls) (o : Nat) (f : Nat → Int64) (x1 : Int32) (x2 : Int32) (Q : Int32 → zCls × (Nat → Int64) → Prop) (hf : s_X10_from u x1 x2 (fun r z => Q 0 (z, vp_updL f 0 r.toInt64)) (fun E z => (E = exC 2 ∧ Q 1 (z, f)))) : ∀ sz : Nat, Met l yL_from (Cond.codeWith yL_from cL_from 5 (some .int) [(0, 10, 13, 23)] :: zT) rm_L_from (zPmF zFw dC dI cI cJ cS (wO cJ o f ++ cl_X10 cI cJ cS a u) [.ref (a 0), .int x1, .int x2, .ref o] sz) (va_Qi Q (zB dC dI cI cJ cS (va_A (wO cJ o f ++ cl_X10 cI cJ cS a u) sz) (fun z : zCls × (Nat → Int64) => wO cJ o z.2 ++ cl_X10 cI cJ cS a z.1)) (va_A (wO cJ o f ++ cl_X10 cI cJ cS a u) sz)) 1 6 (va_A (wO cJ o f ++ cl_X10 cI cJ cS a u) sz) := by
  intro sz
  refine z_enterL (Qc := fun A => va_Qi Q (zB dC dI cI cJ cS A (fun z : zCls × (Nat → Int64) => wO cJ o z.2 ++ cl_X10 cI cJ cS a z.1)) A) (cc := cL_from) (maxL := 5) (ret := some .int) (hh := [(0, 10, 13, 23)]) (by decide) (Nat.le_of_ble_eq_true rfl) ?_
  intro p e s m below meth c ls A X htb hP hD hS hA hF hl
  obtain ⟨⟨hx, hb, hml, hown, hts⟩, hr, hlk, hK⟩ := id X
  have hl : lv_has ls 5 [(0, .ref (a 0)), (1, .int x1), (2, .int x2), (3, .ref o)] := hl
  refine lv_aload_n hx hb dL_from_0 rfl (lv_at hl 3 rfl) ?_
  refine lv_iconst (v := 0) hx hb dL_from_1 (by decide) ?_
  refine lv_aload_n hx hb dL_from_2 rfl (lv_at hl 0 rfl) ?_
  refine lv_iload_n hx hb dL_from_3 rfl (lv_at hl 1 rfl) ?_
  refine lv_iload_n hx hb dL_from_4 rfl (lv_at hl 2 rfl) ?_
  refine z_xVi (Wn := fun z => wO cJ o f ++ cl_X10 cI cJ cS a z) (wr := wO cJ o f) (As := [.int x1, .int x2]) (rest := [.int 0, .ref o]) X fro_Fy hF.1 (c_X10_from l hlt dC dI cI cJ cS a u x1 x2 (fun r z => Q 0 (z, vp_updL f 0 r.toInt64)) (fun E z => (E = exC 2 ∧ Q 1 (z, f))) hf _) zc_X10_from q_ml_L_52 ⟨rfl, rfl⟩ ⟨Nat.le_of_ble_eq_true rfl, Nat.le_of_ble_eq_true rfl⟩ hP hD hS hA (List.Perm.refl _) (fun _ => List.Perm.refl _) 9 rfl rfl hl.1 rfl rfl (Nat.le_of_ble_eq_true rfl) ⟨Nat.le_of_ble_eq_true rfl, Nat.le_of_ble_eq_true rfl⟩ dL_from_5 (fun E z H locs q9 ce hq hP hD hS hce hcv hcl => ?_) (fun r z H locs hq hP hD hS => ?_)
  · obtain ⟨rfl, hq⟩ := hq
    refine z_cat (j := 2) X hF.1.2.2.2 [] ⟨0, 10, 13, 23⟩ [] htb (fun z hz => absurd hz (List.not_mem_nil)) rfl (by decide) w_cl_2 hce hcv hcl ?_
    refine lv_astore (lv' := [(4, .ref q9), (0, .ref (a 0)), (1, .int x1), (2, .int x2), (3, .ref o)]) hx hb dL_from_13 hl (by decide) rfl (fun ls hl => ?_)
    refine lv_iconst (v := 1) hx hb dL_from_15 (by decide) ?_
    exact z_retMi (Wf := (fun z : zCls × (Nat → Int64) => wO cJ o z.2 ++ cl_X10 cI cJ cS a z.1)) (u := (z, f)) X hq hP hD hS dL_from_16
  · refine lv_i2l (v := r.toInt64) hx hb dL_from_8 rfl ?_
    refine z_last (Wn := fun g => wO cJ o g ++ cl_X10 cI cJ cS a z) (n := 1) (f := f) X hP hD hS 0 1 rfl rfl (vp_in_nI (n := 0) (by decide) (by decide)) (fun _ => rfl) dL_from_9 (fun g H locs eg hP hD hS => ?_)
    refine lv_goto (tgt := 17) hx hb dL_from_10 (by decide) ?_
    refine lv_iconst (v := 0) hx hb dL_from_17 (by decide) ?_
    subst eg
    exact z_retMi (Wf := (fun z : zCls × (Nat → Int64) => wO cJ o z.2 ++ cl_X10 cI cJ cS a z.1)) (u := (z, _)) X hq hP hD hS dL_from_18
theorem w_cw_below : zCalL yL_below cL_below 4 (some .int) [(0, 9, 12, 23)] 3 := ⟨zT_mem (List.mem_of_getElem? (i := 1196) (by decide +kernel)) (by decide +kernel), q_in_L, zT_mem (List.mem_of_getElem? (i := 1197) (by decide +kernel)) (by decide +kernel), ⟨by decide, by decide, by decide +kernel⟩⟩
abbrev rm_L_below : Room := { frames := 8, cells := 1, slots := 6, locals := 131 }
set_option maxHeartbeats 4000000 in
set_option maxRecDepth 100000 in
theorem c_L_below (l : Launch) (hlt : l.stackTraces = false) (dC : Nat → ClassId) (dI : Nat → Nat → Nat) (cI cJ cS : ClassId) (a : Nat → Nat) (u : zCls) (o : Nat) (f : Nat → Int64) (x1 : Int32) (Q : Int32 → zCls × (Nat → Int64) → Prop) (hf : s_X10_below u x1 (fun r z => Q 0 (z, vp_updL f 0 r.toInt64)) (fun E z => (E = exC 2 ∧ Q 1 (z, f)))) : ∀ sz : Nat, Met l yL_below (Cond.codeWith yL_below cL_below 4 (some .int) [(0, 9, 12, 23)] :: zT) rm_L_below (zPmF zFw dC dI cI cJ cS (wO cJ o f ++ cl_X10 cI cJ cS a u) [.ref (a 0), .int x1, .ref o] sz) (va_Qi Q (zB dC dI cI cJ cS (va_A (wO cJ o f ++ cl_X10 cI cJ cS a u) sz) (fun z : zCls × (Nat → Int64) => wO cJ o z.2 ++ cl_X10 cI cJ cS a z.1)) (va_A (wO cJ o f ++ cl_X10 cI cJ cS a u) sz)) 1 6 (va_A (wO cJ o f ++ cl_X10 cI cJ cS a u) sz) := by
  intro sz
  refine z_enterL (Qc := fun A => va_Qi Q (zB dC dI cI cJ cS A (fun z : zCls × (Nat → Int64) => wO cJ o z.2 ++ cl_X10 cI cJ cS a z.1)) A) (cc := cL_below) (maxL := 4) (ret := some .int) (hh := [(0, 9, 12, 23)]) (by decide) (Nat.le_of_ble_eq_true rfl) ?_
  intro p e s m below meth c ls A X htb hP hD hS hA hF hl
  obtain ⟨⟨hx, hb, hml, hown, hts⟩, hr, hlk, hK⟩ := id X
  have hl : lv_has ls 4 [(0, .ref (a 0)), (1, .int x1), (2, .ref o)] := hl
  refine lv_aload_n hx hb dL_below_0 rfl (lv_at hl 2 rfl) ?_
  refine lv_iconst (v := 0) hx hb dL_below_1 (by decide) ?_
  refine lv_aload_n hx hb dL_below_2 rfl (lv_at hl 0 rfl) ?_
  refine lv_iload_n hx hb dL_below_3 rfl (lv_at hl 1 rfl) ?_
  refine z_xVi (Wn := fun z => wO cJ o f ++ cl_X10 cI cJ cS a z) (wr := wO cJ o f) (As := [.int x1]) (rest := [.int 0, .ref o]) X fro_Fy hF.1 (c_X10_below l hlt dC dI cI cJ cS a u x1 (fun r z => Q 0 (z, vp_updL f 0 r.toInt64)) (fun E z => (E = exC 2 ∧ Q 1 (z, f))) hf _) zc_X10_below q_ml_L_55 ⟨rfl, rfl⟩ ⟨Nat.le_of_ble_eq_true rfl, Nat.le_of_ble_eq_true rfl⟩ hP hD hS hA (List.Perm.refl _) (fun _ => List.Perm.refl _) 9 rfl rfl hl.1 rfl rfl (Nat.le_of_ble_eq_true rfl) ⟨Nat.le_of_ble_eq_true rfl, Nat.le_of_ble_eq_true rfl⟩ dL_below_4 (fun E z H locs q9 ce hq hP hD hS hce hcv hcl => ?_) (fun r z H locs hq hP hD hS => ?_)
  · obtain ⟨rfl, hq⟩ := hq
    refine z_cat (j := 2) X hF.1.2.2.2 [] ⟨0, 9, 12, 23⟩ [] htb (fun z hz => absurd hz (List.not_mem_nil)) rfl (by decide) w_cl_2 hce hcv hcl ?_
    refine lv_astore_n (lv' := [(3, .ref q9), (0, .ref (a 0)), (1, .int x1), (2, .ref o)]) hx hb dL_below_12 rfl hl (by decide) rfl (fun ls hl => ?_)
    refine lv_iconst (v := 1) hx hb dL_below_13 (by decide) ?_
    exact z_retMi (Wf := (fun z : zCls × (Nat → Int64) => wO cJ o z.2 ++ cl_X10 cI cJ cS a z.1)) (u := (z, f)) X hq hP hD hS dL_below_14
  · refine lv_i2l (v := r.toInt64) hx hb dL_below_7 rfl ?_
    refine z_last (Wn := fun g => wO cJ o g ++ cl_X10 cI cJ cS a z) (n := 1) (f := f) X hP hD hS 0 1 rfl rfl (vp_in_nI (n := 0) (by decide) (by decide)) (fun _ => rfl) dL_below_8 (fun g H locs eg hP hD hS => ?_)
    refine lv_goto (tgt := 15) hx hb dL_below_9 (by decide) ?_
    refine lv_iconst (v := 0) hx hb dL_below_15 (by decide) ?_
    subst eg
    exact z_retMi (Wf := (fun z : zCls × (Nat → Int64) => wO cJ o z.2 ++ cl_X10 cI cJ cS a z.1)) (u := (z, _)) X hq hP hD hS dL_below_16
theorem w_cw_segment : zCalL yL_segment cL_segment 5 (some .int) [(0, 10, 13, 23), (0, 10, 17, 47)] 4 := ⟨zT_mem (List.mem_of_getElem? (i := 1203) (by decide +kernel)) (by decide +kernel), q_in_L, zT_mem (List.mem_of_getElem? (i := 1204) (by decide +kernel)) (by decide +kernel), ⟨by decide, by decide, by decide +kernel⟩⟩
abbrev rm_L_segment : Room := { frames := 8, cells := 2, slots := 12, locals := 135 }
set_option maxHeartbeats 4000000 in
set_option maxRecDepth 100000 in
theorem c_L_segment (l : Launch) (hlt : l.stackTraces = false) (dC : Nat → ClassId) (dI : Nat → Nat → Nat) (cI cJ cS : ClassId) (a : Nat → Nat) (u : zCls) (o : Nat) (f : Nat → Int64) (x1 : Int32) (x2 : Int32) (Q : Int32 → zCls × (Nat → Int64) → Prop) (hf : s_X10_segment u x1 x2 (fun r z => Q 0 (z, vp_updL f 0 r.toInt64)) (fun E z => (E = exC 2 ∧ Q 1 (z, f)) ∨ (E = exC 3 ∧ Q 2 (z, f)))) : ∀ sz : Nat, Met l yL_segment (Cond.codeWith yL_segment cL_segment 5 (some .int) [(0, 10, 13, 23), (0, 10, 17, 47)] :: zT) rm_L_segment (zPmF zFw dC dI cI cJ cS (wO cJ o f ++ cl_X10 cI cJ cS a u) [.ref (a 0), .int x1, .int x2, .ref o] sz) (va_Qi Q (zB dC dI cI cJ cS (va_A (wO cJ o f ++ cl_X10 cI cJ cS a u) sz) (fun z : zCls × (Nat → Int64) => wO cJ o z.2 ++ cl_X10 cI cJ cS a z.1)) (va_A (wO cJ o f ++ cl_X10 cI cJ cS a u) sz)) 2 12 (va_A (wO cJ o f ++ cl_X10 cI cJ cS a u) sz) := by
  intro sz
  refine z_enterL (Qc := fun A => va_Qi Q (zB dC dI cI cJ cS A (fun z : zCls × (Nat → Int64) => wO cJ o z.2 ++ cl_X10 cI cJ cS a z.1)) A) (cc := cL_segment) (maxL := 5) (ret := some .int) (hh := [(0, 10, 13, 23), (0, 10, 17, 47)]) (by decide) (Nat.le_of_ble_eq_true rfl) ?_
  intro p e s m below meth c ls A X htb hP hD hS hA hF hl
  obtain ⟨⟨hx, hb, hml, hown, hts⟩, hr, hlk, hK⟩ := id X
  have hl : lv_has ls 5 [(0, .ref (a 0)), (1, .int x1), (2, .int x2), (3, .ref o)] := hl
  refine lv_aload_n hx hb dL_segment_0 rfl (lv_at hl 3 rfl) ?_
  refine lv_iconst (v := 0) hx hb dL_segment_1 (by decide) ?_
  refine lv_aload_n hx hb dL_segment_2 rfl (lv_at hl 0 rfl) ?_
  refine lv_iload_n hx hb dL_segment_3 rfl (lv_at hl 1 rfl) ?_
  refine lv_iload_n hx hb dL_segment_4 rfl (lv_at hl 2 rfl) ?_
  refine z_xVi (Wn := fun z => wO cJ o f ++ cl_X10 cI cJ cS a z) (wr := wO cJ o f) (As := [.int x1, .int x2]) (rest := [.int 0, .ref o]) X fro_Fy hF.1 (c_X10_segment l hlt dC dI cI cJ cS a u x1 x2 (fun r z => Q 0 (z, vp_updL f 0 r.toInt64)) (fun E z => (E = exC 2 ∧ Q 1 (z, f)) ∨ (E = exC 3 ∧ Q 2 (z, f))) hf _) zc_X10_segment q_ml_L_58 ⟨rfl, rfl⟩ ⟨Nat.le_of_ble_eq_true rfl, Nat.le_of_ble_eq_true rfl⟩ hP hD hS hA (List.Perm.refl _) (fun _ => List.Perm.refl _) 9 rfl rfl hl.1 rfl rfl (Nat.le_of_ble_eq_true rfl) ⟨Nat.le_of_ble_eq_true rfl, Nat.le_of_ble_eq_true rfl⟩ dL_segment_5 (fun E z H locs q9 ce hq hP hD hS hce hcv hcl => ?_) (fun r z H locs hq hP hD hS => ?_)
  · rcases hq with ⟨rfl, hq⟩ | ⟨rfl, hq⟩
    · refine z_cat (j := 2) X hF.1.2.2.2 [] ⟨0, 10, 13, 23⟩ [⟨0, 10, 17, 47⟩] htb (fun z hz => absurd hz (List.not_mem_nil)) rfl (by decide) w_cl_2 hce hcv hcl ?_
      refine lv_astore (lv' := [(4, .ref q9), (0, .ref (a 0)), (1, .int x1), (2, .int x2), (3, .ref o)]) hx hb dL_segment_13 hl (by decide) rfl (fun ls hl => ?_)
      refine lv_iconst (v := 1) hx hb dL_segment_15 (by decide) ?_
      exact z_retMi (Wf := (fun z : zCls × (Nat → Int64) => wO cJ o z.2 ++ cl_X10 cI cJ cS a z.1)) (u := (z, f)) X hq hP hD hS dL_segment_16
    · refine z_cat (j := 3) X hF.1.2.2.2 [⟨0, 10, 13, 23⟩] ⟨0, 10, 17, 47⟩ [] htb (fun z hz => by
        simp only [List.mem_cons, List.not_mem_nil, or_false] at hz
        rcases hz with rfl
        · exact ⟨by decide, 2, w_cl_2, hF.2.2.2.2.1⟩) rfl (by decide) w_cl_3 hce hcv hcl ?_
      refine lv_astore (lv' := [(4, .ref q9), (0, .ref (a 0)), (1, .int x1), (2, .int x2), (3, .ref o)]) hx hb dL_segment_17 hl (by decide) rfl (fun ls hl => ?_)
      refine lv_iconst (v := 2) hx hb dL_segment_19 (by decide) ?_
      exact z_retMi (Wf := (fun z : zCls × (Nat → Int64) => wO cJ o z.2 ++ cl_X10 cI cJ cS a z.1)) (u := (z, f)) X hq hP hD hS dL_segment_20
  · refine lv_i2l (v := r.toInt64) hx hb dL_segment_8 rfl ?_
    refine z_last (Wn := fun g => wO cJ o g ++ cl_X10 cI cJ cS a z) (n := 1) (f := f) X hP hD hS 0 1 rfl rfl (vp_in_nI (n := 0) (by decide) (by decide)) (fun _ => rfl) dL_segment_9 (fun g H locs eg hP hD hS => ?_)
    refine lv_goto (tgt := 21) hx hb dL_segment_10 (by decide) ?_
    refine lv_iconst (v := 0) hx hb dL_segment_21 (by decide) ?_
    subst eg
    exact z_retMi (Wf := (fun z : zCls × (Nat → Int64) => wO cJ o z.2 ++ cl_X10 cI cJ cS a z.1)) (u := (z, _)) X hq hP hD hS dL_segment_22
theorem w_cw_record : zCalL yL_record cL_record 6 (some .int) [(0, 12, 15, 23), (0, 12, 19, 47)] 5 := ⟨zT_mem (List.mem_of_getElem? (i := 1219) (by decide +kernel)) (by decide +kernel), q_in_L, zT_mem (List.mem_of_getElem? (i := 1220) (by decide +kernel)) (by decide +kernel), ⟨by decide, by decide, by decide +kernel⟩⟩
abbrev rm_L_record : Room := { frames := 8, cells := 2, slots := 12, locals := 136 }
set_option maxHeartbeats 4000000 in
set_option maxRecDepth 100000 in
theorem c_L_record (l : Launch) (hlt : l.stackTraces = false) (dC : Nat → ClassId) (dI : Nat → Nat → Nat) (cI cJ cS : ClassId) (a : Nat → Nat) (u : zCls) (o : Nat) (f : Nat → Int64) (x1 : Int32) (x2 : Int32) (x3 : Int32) (Q : Int32 → zCls × (Nat → Int64) → Prop) (hf : s_X10_record u x1 x2 x3 (fun r z => Q 0 (z, vp_updL f 0 r.toInt64)) (fun E z => (E = exC 2 ∧ Q 1 (z, f)) ∨ (E = exC 3 ∧ Q 2 (z, f)))) : ∀ sz : Nat, Met l yL_record (Cond.codeWith yL_record cL_record 6 (some .int) [(0, 12, 15, 23), (0, 12, 19, 47)] :: zT) rm_L_record (zPmF zFw dC dI cI cJ cS (wO cJ o f ++ cl_X10 cI cJ cS a u) [.ref (a 0), .int x1, .int x2, .int x3, .ref o] sz) (va_Qi Q (zB dC dI cI cJ cS (va_A (wO cJ o f ++ cl_X10 cI cJ cS a u) sz) (fun z : zCls × (Nat → Int64) => wO cJ o z.2 ++ cl_X10 cI cJ cS a z.1)) (va_A (wO cJ o f ++ cl_X10 cI cJ cS a u) sz)) 2 12 (va_A (wO cJ o f ++ cl_X10 cI cJ cS a u) sz) := by
  intro sz
  refine z_enterL (Qc := fun A => va_Qi Q (zB dC dI cI cJ cS A (fun z : zCls × (Nat → Int64) => wO cJ o z.2 ++ cl_X10 cI cJ cS a z.1)) A) (cc := cL_record) (maxL := 6) (ret := some .int) (hh := [(0, 12, 15, 23), (0, 12, 19, 47)]) (by decide) (Nat.le_of_ble_eq_true rfl) ?_
  intro p e s m below meth c ls A X htb hP hD hS hA hF hl
  obtain ⟨⟨hx, hb, hml, hown, hts⟩, hr, hlk, hK⟩ := id X
  have hl : lv_has ls 6 [(0, .ref (a 0)), (1, .int x1), (2, .int x2), (3, .int x3), (4, .ref o)] := hl
  refine lv_aload hx hb dL_record_0 (lv_at hl 4 rfl) ?_
  refine lv_iconst (v := 0) hx hb dL_record_2 (by decide) ?_
  refine lv_aload_n hx hb dL_record_3 rfl (lv_at hl 0 rfl) ?_
  refine lv_iload_n hx hb dL_record_4 rfl (lv_at hl 1 rfl) ?_
  refine lv_iload_n hx hb dL_record_5 rfl (lv_at hl 2 rfl) ?_
  refine lv_iload_n hx hb dL_record_6 rfl (lv_at hl 3 rfl) ?_
  refine z_xVi (Wn := fun z => wO cJ o f ++ cl_X10 cI cJ cS a z) (wr := wO cJ o f) (As := [.int x1, .int x2, .int x3]) (rest := [.int 0, .ref o]) X fro_Fy hF.1 (c_X10_record l hlt dC dI cI cJ cS a u x1 x2 x3 (fun r z => Q 0 (z, vp_updL f 0 r.toInt64)) (fun E z => (E = exC 2 ∧ Q 1 (z, f)) ∨ (E = exC 3 ∧ Q 2 (z, f))) hf _) zc_X10_record q_ml_L_61 ⟨rfl, rfl⟩ ⟨Nat.le_of_ble_eq_true rfl, Nat.le_of_ble_eq_true rfl⟩ hP hD hS hA (List.Perm.refl _) (fun _ => List.Perm.refl _) 9 rfl rfl hl.1 rfl rfl (Nat.le_of_ble_eq_true rfl) ⟨Nat.le_of_ble_eq_true rfl, Nat.le_of_ble_eq_true rfl⟩ dL_record_7 (fun E z H locs q9 ce hq hP hD hS hce hcv hcl => ?_) (fun r z H locs hq hP hD hS => ?_)
  · rcases hq with ⟨rfl, hq⟩ | ⟨rfl, hq⟩
    · refine z_cat (j := 2) X hF.1.2.2.2 [] ⟨0, 12, 15, 23⟩ [⟨0, 12, 19, 47⟩] htb (fun z hz => absurd hz (List.not_mem_nil)) rfl (by decide) w_cl_2 hce hcv hcl ?_
      refine lv_astore (lv' := [(5, .ref q9), (0, .ref (a 0)), (1, .int x1), (2, .int x2), (3, .int x3), (4, .ref o)]) hx hb dL_record_15 hl (by decide) rfl (fun ls hl => ?_)
      refine lv_iconst (v := 1) hx hb dL_record_17 (by decide) ?_
      exact z_retMi (Wf := (fun z : zCls × (Nat → Int64) => wO cJ o z.2 ++ cl_X10 cI cJ cS a z.1)) (u := (z, f)) X hq hP hD hS dL_record_18
    · refine z_cat (j := 3) X hF.1.2.2.2 [⟨0, 12, 15, 23⟩] ⟨0, 12, 19, 47⟩ [] htb (fun z hz => by
        simp only [List.mem_cons, List.not_mem_nil, or_false] at hz
        rcases hz with rfl
        · exact ⟨by decide, 2, w_cl_2, hF.2.2.2.2.1⟩) rfl (by decide) w_cl_3 hce hcv hcl ?_
      refine lv_astore (lv' := [(5, .ref q9), (0, .ref (a 0)), (1, .int x1), (2, .int x2), (3, .int x3), (4, .ref o)]) hx hb dL_record_19 hl (by decide) rfl (fun ls hl => ?_)
      refine lv_iconst (v := 2) hx hb dL_record_21 (by decide) ?_
      exact z_retMi (Wf := (fun z : zCls × (Nat → Int64) => wO cJ o z.2 ++ cl_X10 cI cJ cS a z.1)) (u := (z, f)) X hq hP hD hS dL_record_22
  · refine lv_i2l (v := r.toInt64) hx hb dL_record_10 rfl ?_
    refine z_last (Wn := fun g => wO cJ o g ++ cl_X10 cI cJ cS a z) (n := 1) (f := f) X hP hD hS 0 1 rfl rfl (vp_in_nI (n := 0) (by decide) (by decide)) (fun _ => rfl) dL_record_11 (fun g H locs eg hP hD hS => ?_)
    refine lv_goto (tgt := 23) hx hb dL_record_12 (by decide) ?_
    refine lv_iconst (v := 0) hx hb dL_record_23 (by decide) ?_
    subst eg
    exact z_retMi (Wf := (fun z : zCls × (Nat → Int64) => wO cJ o z.2 ++ cl_X10 cI cJ cS a z.1)) (u := (z, _)) X hq hP hD hS dL_record_24
theorem w_cw_run : zCalL yL_run cL_run 5 (some .int) [(0, 10, 13, 23), (0, 10, 17, 47)] 4 := ⟨zT_mem (List.mem_of_getElem? (i := 1230) (by decide +kernel)) (by decide +kernel), q_in_L, zT_mem (List.mem_of_getElem? (i := 1231) (by decide +kernel)) (by decide +kernel), ⟨by decide, by decide, by decide +kernel⟩⟩
abbrev rm_L_run : Room := { frames := 8, cells := 2, slots := 12, locals := 135 }
set_option maxHeartbeats 4000000 in
set_option maxRecDepth 100000 in
theorem c_L_run (l : Launch) (hlt : l.stackTraces = false) (dC : Nat → ClassId) (dI : Nat → Nat → Nat) (cI cJ cS : ClassId) (a : Nat → Nat) (u : zCls) (o : Nat) (f : Nat → Int64) (x1 : Int32) (x2 : Int32) (Q : Int32 → zCls × (Nat → Int64) → Prop) (hf : s_X10_run u x1 x2 (fun r z => Q 0 (z, vp_updL f 0 r.toInt64)) (fun E z => (E = exC 2 ∧ Q 1 (z, f)) ∨ (E = exC 3 ∧ Q 2 (z, f)))) : ∀ sz : Nat, Met l yL_run (Cond.codeWith yL_run cL_run 5 (some .int) [(0, 10, 13, 23), (0, 10, 17, 47)] :: zT) rm_L_run (zPmF zFw dC dI cI cJ cS (wO cJ o f ++ cl_X10 cI cJ cS a u) [.ref (a 0), .int x1, .int x2, .ref o] sz) (va_Qi Q (zB dC dI cI cJ cS (va_A (wO cJ o f ++ cl_X10 cI cJ cS a u) sz) (fun z : zCls × (Nat → Int64) => wO cJ o z.2 ++ cl_X10 cI cJ cS a z.1)) (va_A (wO cJ o f ++ cl_X10 cI cJ cS a u) sz)) 2 12 (va_A (wO cJ o f ++ cl_X10 cI cJ cS a u) sz) := by
  intro sz
  refine z_enterL (Qc := fun A => va_Qi Q (zB dC dI cI cJ cS A (fun z : zCls × (Nat → Int64) => wO cJ o z.2 ++ cl_X10 cI cJ cS a z.1)) A) (cc := cL_run) (maxL := 5) (ret := some .int) (hh := [(0, 10, 13, 23), (0, 10, 17, 47)]) (by decide) (Nat.le_of_ble_eq_true rfl) ?_
  intro p e s m below meth c ls A X htb hP hD hS hA hF hl
  obtain ⟨⟨hx, hb, hml, hown, hts⟩, hr, hlk, hK⟩ := id X
  have hl : lv_has ls 5 [(0, .ref (a 0)), (1, .int x1), (2, .int x2), (3, .ref o)] := hl
  refine lv_aload_n hx hb dL_run_0 rfl (lv_at hl 3 rfl) ?_
  refine lv_iconst (v := 0) hx hb dL_run_1 (by decide) ?_
  refine lv_aload_n hx hb dL_run_2 rfl (lv_at hl 0 rfl) ?_
  refine lv_iload_n hx hb dL_run_3 rfl (lv_at hl 1 rfl) ?_
  refine lv_iload_n hx hb dL_run_4 rfl (lv_at hl 2 rfl) ?_
  refine z_xVi (Wn := fun z => wO cJ o f ++ cl_X10 cI cJ cS a z) (wr := wO cJ o f) (As := [.int x1, .int x2]) (rest := [.int 0, .ref o]) X fro_Fy hF.1 (c_X10_run l hlt dC dI cI cJ cS a u x1 x2 (fun r z => Q 0 (z, vp_updL f 0 r.toInt64)) (fun E z => (E = exC 2 ∧ Q 1 (z, f)) ∨ (E = exC 3 ∧ Q 2 (z, f))) hf _) zc_X10_run q_ml_L_64 ⟨rfl, rfl⟩ ⟨Nat.le_of_ble_eq_true rfl, Nat.le_of_ble_eq_true rfl⟩ hP hD hS hA (List.Perm.refl _) (fun _ => List.Perm.refl _) 9 rfl rfl hl.1 rfl rfl (Nat.le_of_ble_eq_true rfl) ⟨Nat.le_of_ble_eq_true rfl, Nat.le_of_ble_eq_true rfl⟩ dL_run_5 (fun E z H locs q9 ce hq hP hD hS hce hcv hcl => ?_) (fun r z H locs hq hP hD hS => ?_)
  · rcases hq with ⟨rfl, hq⟩ | ⟨rfl, hq⟩
    · refine z_cat (j := 2) X hF.1.2.2.2 [] ⟨0, 10, 13, 23⟩ [⟨0, 10, 17, 47⟩] htb (fun z hz => absurd hz (List.not_mem_nil)) rfl (by decide) w_cl_2 hce hcv hcl ?_
      refine lv_astore (lv' := [(4, .ref q9), (0, .ref (a 0)), (1, .int x1), (2, .int x2), (3, .ref o)]) hx hb dL_run_13 hl (by decide) rfl (fun ls hl => ?_)
      refine lv_iconst (v := 1) hx hb dL_run_15 (by decide) ?_
      exact z_retMi (Wf := (fun z : zCls × (Nat → Int64) => wO cJ o z.2 ++ cl_X10 cI cJ cS a z.1)) (u := (z, f)) X hq hP hD hS dL_run_16
    · refine z_cat (j := 3) X hF.1.2.2.2 [⟨0, 10, 13, 23⟩] ⟨0, 10, 17, 47⟩ [] htb (fun z hz => by
        simp only [List.mem_cons, List.not_mem_nil, or_false] at hz
        rcases hz with rfl
        · exact ⟨by decide, 2, w_cl_2, hF.2.2.2.2.1⟩) rfl (by decide) w_cl_3 hce hcv hcl ?_
      refine lv_astore (lv' := [(4, .ref q9), (0, .ref (a 0)), (1, .int x1), (2, .int x2), (3, .ref o)]) hx hb dL_run_17 hl (by decide) rfl (fun ls hl => ?_)
      refine lv_iconst (v := 2) hx hb dL_run_19 (by decide) ?_
      exact z_retMi (Wf := (fun z : zCls × (Nat → Int64) => wO cJ o z.2 ++ cl_X10 cI cJ cS a z.1)) (u := (z, f)) X hq hP hD hS dL_run_20
  · refine lv_i2l (v := r.toInt64) hx hb dL_run_8 rfl ?_
    refine z_last (Wn := fun g => wO cJ o g ++ cl_X10 cI cJ cS a z) (n := 1) (f := f) X hP hD hS 0 1 rfl rfl (vp_in_nI (n := 0) (by decide) (by decide)) (fun _ => rfl) dL_run_9 (fun g H locs eg hP hD hS => ?_)
    refine lv_goto (tgt := 21) hx hb dL_run_10 (by decide) ?_
    refine lv_iconst (v := 0) hx hb dL_run_21 (by decide) ?_
    subst eg
    exact z_retMi (Wf := (fun z : zCls × (Nat → Int64) => wO cJ o z.2 ++ cl_X10 cI cJ cS a z.1)) (u := (z, _)) X hq hP hD hS dL_run_22
theorem w_cw_entry : zCalL yL_entry cL_entry 5 (some .int) [(0, 10, 13, 23)] 4 := ⟨zT_mem (List.mem_of_getElem? (i := 1256) (by decide +kernel)) (by decide +kernel), q_in_L, zT_mem (List.mem_of_getElem? (i := 1257) (by decide +kernel)) (by decide +kernel), ⟨by decide, by decide, by decide +kernel⟩⟩
abbrev rm_L_entry : Room := { frames := 8, cells := 1, slots := 6, locals := 133 }
set_option maxHeartbeats 4000000 in
set_option maxRecDepth 100000 in
theorem c_L_entry (l : Launch) (hlt : l.stackTraces = false) (dC : Nat → ClassId) (dI : Nat → Nat → Nat) (cI cJ cS : ClassId) (a : Nat → Nat) (u : zCls) (o : Nat) (f : Nat → Int64) (x1 : Int32) (x2 : Int32) (Q : Int32 → zCls × (Nat → Int64) → Prop) (hf : s_X10_entry u x1 x2 (fun r z => Q 0 (z, vp_updL f 0 r.toInt64)) (fun E z => (E = exC 2 ∧ Q 1 (z, f)))) : ∀ sz : Nat, Met l yL_entry (Cond.codeWith yL_entry cL_entry 5 (some .int) [(0, 10, 13, 23)] :: zT) rm_L_entry (zPmF zFw dC dI cI cJ cS (wO cJ o f ++ cl_X10 cI cJ cS a u) [.ref (a 0), .int x1, .int x2, .ref o] sz) (va_Qi Q (zB dC dI cI cJ cS (va_A (wO cJ o f ++ cl_X10 cI cJ cS a u) sz) (fun z : zCls × (Nat → Int64) => wO cJ o z.2 ++ cl_X10 cI cJ cS a z.1)) (va_A (wO cJ o f ++ cl_X10 cI cJ cS a u) sz)) 1 6 (va_A (wO cJ o f ++ cl_X10 cI cJ cS a u) sz) := by
  intro sz
  refine z_enterL (Qc := fun A => va_Qi Q (zB dC dI cI cJ cS A (fun z : zCls × (Nat → Int64) => wO cJ o z.2 ++ cl_X10 cI cJ cS a z.1)) A) (cc := cL_entry) (maxL := 5) (ret := some .int) (hh := [(0, 10, 13, 23)]) (by decide) (Nat.le_of_ble_eq_true rfl) ?_
  intro p e s m below meth c ls A X htb hP hD hS hA hF hl
  obtain ⟨⟨hx, hb, hml, hown, hts⟩, hr, hlk, hK⟩ := id X
  have hl : lv_has ls 5 [(0, .ref (a 0)), (1, .int x1), (2, .int x2), (3, .ref o)] := hl
  refine lv_aload_n hx hb dL_entry_0 rfl (lv_at hl 3 rfl) ?_
  refine lv_iconst (v := 0) hx hb dL_entry_1 (by decide) ?_
  refine lv_aload_n hx hb dL_entry_2 rfl (lv_at hl 0 rfl) ?_
  refine lv_iload_n hx hb dL_entry_3 rfl (lv_at hl 1 rfl) ?_
  refine lv_iload_n hx hb dL_entry_4 rfl (lv_at hl 2 rfl) ?_
  refine z_xVi (Wn := fun z => wO cJ o f ++ cl_X10 cI cJ cS a z) (wr := wO cJ o f) (As := [.int x1, .int x2]) (rest := [.int 0, .ref o]) X fro_Fy hF.1 (c_X10_entry l hlt dC dI cI cJ cS a u x1 x2 (fun r z => Q 0 (z, vp_updL f 0 r.toInt64)) (fun E z => (E = exC 2 ∧ Q 1 (z, f))) hf _) zc_X10_entry q_ml_L_67 ⟨rfl, rfl⟩ ⟨Nat.le_of_ble_eq_true rfl, Nat.le_of_ble_eq_true rfl⟩ hP hD hS hA (List.Perm.refl _) (fun _ => List.Perm.refl _) 9 rfl rfl hl.1 rfl rfl (Nat.le_of_ble_eq_true rfl) ⟨Nat.le_of_ble_eq_true rfl, Nat.le_of_ble_eq_true rfl⟩ dL_entry_5 (fun E z H locs q9 ce hq hP hD hS hce hcv hcl => ?_) (fun r z H locs hq hP hD hS => ?_)
  · obtain ⟨rfl, hq⟩ := hq
    refine z_cat (j := 2) X hF.1.2.2.2 [] ⟨0, 10, 13, 23⟩ [] htb (fun z hz => absurd hz (List.not_mem_nil)) rfl (by decide) w_cl_2 hce hcv hcl ?_
    refine lv_astore (lv' := [(4, .ref q9), (0, .ref (a 0)), (1, .int x1), (2, .int x2), (3, .ref o)]) hx hb dL_entry_13 hl (by decide) rfl (fun ls hl => ?_)
    refine lv_iconst (v := 1) hx hb dL_entry_15 (by decide) ?_
    exact z_retMi (Wf := (fun z : zCls × (Nat → Int64) => wO cJ o z.2 ++ cl_X10 cI cJ cS a z.1)) (u := (z, f)) X hq hP hD hS dL_entry_16
  · refine lv_i2l (v := r.toInt64) hx hb dL_entry_8 rfl ?_
    refine z_last (Wn := fun g => wO cJ o g ++ cl_X10 cI cJ cS a z) (n := 1) (f := f) X hP hD hS 0 1 rfl rfl (vp_in_nI (n := 0) (by decide) (by decide)) (fun _ => rfl) dL_entry_9 (fun g H locs eg hP hD hS => ?_)
    refine lv_goto (tgt := 17) hx hb dL_entry_10 (by decide) ?_
    refine lv_iconst (v := 0) hx hb dL_entry_17 (by decide) ?_
    subst eg
    exact z_retMi (Wf := (fun z : zCls × (Nat → Int64) => wO cJ o z.2 ++ cl_X10 cI cJ cS a z.1)) (u := (z, _)) X hq hP hD hS dL_entry_18
theorem w_cw_overlap : zCalL yL_overlap cL_overlap 5 (some .int) [(0, 10, 13, 23), (0, 10, 17, 13)] 4 := ⟨zT_mem (List.mem_of_getElem? (i := 1263) (by decide +kernel)) (by decide +kernel), q_in_L, zT_mem (List.mem_of_getElem? (i := 1264) (by decide +kernel)) (by decide +kernel), ⟨by decide, by decide, by decide +kernel⟩⟩
abbrev rm_L_overlap : Room := { frames := 8, cells := 3, slots := 18, locals := 133 }
set_option maxHeartbeats 4000000 in
set_option maxRecDepth 100000 in
theorem c_L_overlap (l : Launch) (hlt : l.stackTraces = false) (dC : Nat → ClassId) (dI : Nat → Nat → Nat) (cI cJ cS : ClassId) (a : Nat → Nat) (u : zCls) (o : Nat) (f : Nat → Int64) (x1 : Int32) (x2 : Int32) (Q : Int32 → zCls × (Nat → Int64) → Prop) (hf : s_X10_overlap u x1 x2 (fun r z => Q 0 (z, vp_updL f 0 r.toInt64)) (fun E z => (E = exC 2 ∧ Q 1 (z, f)) ∨ (E = exC 0 ∧ Q 2 (z, f)))) : ∀ sz : Nat, Met l yL_overlap (Cond.codeWith yL_overlap cL_overlap 5 (some .int) [(0, 10, 13, 23), (0, 10, 17, 13)] :: zT) rm_L_overlap (zPmF zFw dC dI cI cJ cS (wO cJ o f ++ cl_X10 cI cJ cS a u) [.ref (a 0), .int x1, .int x2, .ref o] sz) (va_Qi Q (zB dC dI cI cJ cS (va_A (wO cJ o f ++ cl_X10 cI cJ cS a u) sz) (fun z : zCls × (Nat → Int64) => wO cJ o z.2 ++ cl_X10 cI cJ cS a z.1)) (va_A (wO cJ o f ++ cl_X10 cI cJ cS a u) sz)) 3 18 (va_A (wO cJ o f ++ cl_X10 cI cJ cS a u) sz) := by
  intro sz
  refine z_enterL (Qc := fun A => va_Qi Q (zB dC dI cI cJ cS A (fun z : zCls × (Nat → Int64) => wO cJ o z.2 ++ cl_X10 cI cJ cS a z.1)) A) (cc := cL_overlap) (maxL := 5) (ret := some .int) (hh := [(0, 10, 13, 23), (0, 10, 17, 13)]) (by decide) (Nat.le_of_ble_eq_true rfl) ?_
  intro p e s m below meth c ls A X htb hP hD hS hA hF hl
  obtain ⟨⟨hx, hb, hml, hown, hts⟩, hr, hlk, hK⟩ := id X
  have hl : lv_has ls 5 [(0, .ref (a 0)), (1, .int x1), (2, .int x2), (3, .ref o)] := hl
  refine lv_aload_n hx hb dL_overlap_0 rfl (lv_at hl 3 rfl) ?_
  refine lv_iconst (v := 0) hx hb dL_overlap_1 (by decide) ?_
  refine lv_aload_n hx hb dL_overlap_2 rfl (lv_at hl 0 rfl) ?_
  refine lv_iload_n hx hb dL_overlap_3 rfl (lv_at hl 1 rfl) ?_
  refine lv_iload_n hx hb dL_overlap_4 rfl (lv_at hl 2 rfl) ?_
  refine z_xVi (Wn := fun z => wO cJ o f ++ cl_X10 cI cJ cS a z) (wr := wO cJ o f) (As := [.int x1, .int x2]) (rest := [.int 0, .ref o]) X fro_Fy hF.1 (c_X10_overlap l hlt dC dI cI cJ cS a u x1 x2 (fun r z => Q 0 (z, vp_updL f 0 r.toInt64)) (fun E z => (E = exC 2 ∧ Q 1 (z, f)) ∨ (E = exC 0 ∧ Q 2 (z, f))) hf _) zc_X10_overlap q_ml_L_70 ⟨rfl, rfl⟩ ⟨Nat.le_of_ble_eq_true rfl, Nat.le_of_ble_eq_true rfl⟩ hP hD hS hA (List.Perm.refl _) (fun _ => List.Perm.refl _) 9 rfl rfl hl.1 rfl rfl (Nat.le_of_ble_eq_true rfl) ⟨Nat.le_of_ble_eq_true rfl, Nat.le_of_ble_eq_true rfl⟩ dL_overlap_5 (fun E z H locs q9 ce hq hP hD hS hce hcv hcl => ?_) (fun r z H locs hq hP hD hS => ?_)
  · rcases hq with ⟨rfl, hq⟩ | ⟨rfl, hq⟩
    · refine z_cat (j := 2) X hF.1.2.2.2 [] ⟨0, 10, 13, 23⟩ [⟨0, 10, 17, 13⟩] htb (fun z hz => absurd hz (List.not_mem_nil)) rfl (by decide) w_cl_2 hce hcv hcl ?_
      refine lv_astore (lv' := [(4, .ref q9), (0, .ref (a 0)), (1, .int x1), (2, .int x2), (3, .ref o)]) hx hb dL_overlap_13 hl (by decide) rfl (fun ls hl => ?_)
      refine lv_iconst (v := 1) hx hb dL_overlap_15 (by decide) ?_
      exact z_retMi (Wf := (fun z : zCls × (Nat → Int64) => wO cJ o z.2 ++ cl_X10 cI cJ cS a z.1)) (u := (z, f)) X hq hP hD hS dL_overlap_16
    · refine z_cat (j := 0) X hF.1.2.2.2 [⟨0, 10, 13, 23⟩] ⟨0, 10, 17, 13⟩ [] htb (fun z hz => by
        simp only [List.mem_cons, List.not_mem_nil, or_false] at hz
        rcases hz with rfl
        · exact ⟨by decide, 2, w_cl_2, hF.2.1⟩) rfl (by decide) w_cl_0 hce hcv hcl ?_
      refine lv_astore (lv' := [(4, .ref q9), (0, .ref (a 0)), (1, .int x1), (2, .int x2), (3, .ref o)]) hx hb dL_overlap_17 hl (by decide) rfl (fun ls hl => ?_)
      refine lv_iconst (v := 2) hx hb dL_overlap_19 (by decide) ?_
      exact z_retMi (Wf := (fun z : zCls × (Nat → Int64) => wO cJ o z.2 ++ cl_X10 cI cJ cS a z.1)) (u := (z, f)) X hq hP hD hS dL_overlap_20
  · refine lv_i2l (v := r.toInt64) hx hb dL_overlap_8 rfl ?_
    refine z_last (Wn := fun g => wO cJ o g ++ cl_X10 cI cJ cS a z) (n := 1) (f := f) X hP hD hS 0 1 rfl rfl (vp_in_nI (n := 0) (by decide) (by decide)) (fun _ => rfl) dL_overlap_9 (fun g H locs eg hP hD hS => ?_)
    refine lv_goto (tgt := 21) hx hb dL_overlap_10 (by decide) ?_
    refine lv_iconst (v := 0) hx hb dL_overlap_21 (by decide) ?_
    subst eg
    exact z_retMi (Wf := (fun z : zCls × (Nat → Int64) => wO cJ o z.2 ++ cl_X10 cI cJ cS a z.1)) (u := (z, _)) X hq hP hD hS dL_overlap_22
theorem w_cw_rank : zCalL yL_rank cL_rank 5 (some .int) [(0, 10, 13, 23)] 4 := ⟨zT_mem (List.mem_of_getElem? (i := 1275) (by decide +kernel)) (by decide +kernel), q_in_L, zT_mem (List.mem_of_getElem? (i := 1276) (by decide +kernel)) (by decide +kernel), ⟨by decide, by decide, by decide +kernel⟩⟩
abbrev rm_L_rank : Room := { frames := 8, cells := 1, slots := 6, locals := 132 }
set_option maxHeartbeats 4000000 in
set_option maxRecDepth 100000 in
theorem c_L_rank (l : Launch) (hlt : l.stackTraces = false) (dC : Nat → ClassId) (dI : Nat → Nat → Nat) (cI cJ cS : ClassId) (a : Nat → Nat) (u : zCls) (o : Nat) (f : Nat → Int64) (x1 : Int32) (x2 : Int32) (Q : Int32 → zCls × (Nat → Int64) → Prop) (hf : s_X10_rank u x1 x2 (fun r z => Q 0 (z, vp_updL f 0 r.toInt64)) (fun E z => (E = exC 2 ∧ Q 1 (z, f)))) : ∀ sz : Nat, Met l yL_rank (Cond.codeWith yL_rank cL_rank 5 (some .int) [(0, 10, 13, 23)] :: zT) rm_L_rank (zPmF zFw dC dI cI cJ cS (wO cJ o f ++ cl_X10 cI cJ cS a u) [.ref (a 0), .int x1, .int x2, .ref o] sz) (va_Qi Q (zB dC dI cI cJ cS (va_A (wO cJ o f ++ cl_X10 cI cJ cS a u) sz) (fun z : zCls × (Nat → Int64) => wO cJ o z.2 ++ cl_X10 cI cJ cS a z.1)) (va_A (wO cJ o f ++ cl_X10 cI cJ cS a u) sz)) 1 6 (va_A (wO cJ o f ++ cl_X10 cI cJ cS a u) sz) := by
  intro sz
  refine z_enterL (Qc := fun A => va_Qi Q (zB dC dI cI cJ cS A (fun z : zCls × (Nat → Int64) => wO cJ o z.2 ++ cl_X10 cI cJ cS a z.1)) A) (cc := cL_rank) (maxL := 5) (ret := some .int) (hh := [(0, 10, 13, 23)]) (by decide) (Nat.le_of_ble_eq_true rfl) ?_
  intro p e s m below meth c ls A X htb hP hD hS hA hF hl
  obtain ⟨⟨hx, hb, hml, hown, hts⟩, hr, hlk, hK⟩ := id X
  have hl : lv_has ls 5 [(0, .ref (a 0)), (1, .int x1), (2, .int x2), (3, .ref o)] := hl
  refine lv_aload_n hx hb dL_rank_0 rfl (lv_at hl 3 rfl) ?_
  refine lv_iconst (v := 0) hx hb dL_rank_1 (by decide) ?_
  refine lv_aload_n hx hb dL_rank_2 rfl (lv_at hl 0 rfl) ?_
  refine lv_iload_n hx hb dL_rank_3 rfl (lv_at hl 1 rfl) ?_
  refine lv_iload_n hx hb dL_rank_4 rfl (lv_at hl 2 rfl) ?_
  refine z_xVi (Wn := fun z => wO cJ o f ++ cl_X10 cI cJ cS a z) (wr := wO cJ o f) (As := [.int x1, .int x2]) (rest := [.int 0, .ref o]) X fro_Fy hF.1 (c_X10_rank l hlt dC dI cI cJ cS a u x1 x2 (fun r z => Q 0 (z, vp_updL f 0 r.toInt64)) (fun E z => (E = exC 2 ∧ Q 1 (z, f))) hf _) zc_X10_rank q_ml_L_73 ⟨rfl, rfl⟩ ⟨Nat.le_of_ble_eq_true rfl, Nat.le_of_ble_eq_true rfl⟩ hP hD hS hA (List.Perm.refl _) (fun _ => List.Perm.refl _) 9 rfl rfl hl.1 rfl rfl (Nat.le_of_ble_eq_true rfl) ⟨Nat.le_of_ble_eq_true rfl, Nat.le_of_ble_eq_true rfl⟩ dL_rank_5 (fun E z H locs q9 ce hq hP hD hS hce hcv hcl => ?_) (fun r z H locs hq hP hD hS => ?_)
  · obtain ⟨rfl, hq⟩ := hq
    refine z_cat (j := 2) X hF.1.2.2.2 [] ⟨0, 10, 13, 23⟩ [] htb (fun z hz => absurd hz (List.not_mem_nil)) rfl (by decide) w_cl_2 hce hcv hcl ?_
    refine lv_astore (lv' := [(4, .ref q9), (0, .ref (a 0)), (1, .int x1), (2, .int x2), (3, .ref o)]) hx hb dL_rank_13 hl (by decide) rfl (fun ls hl => ?_)
    refine lv_iconst (v := 1) hx hb dL_rank_15 (by decide) ?_
    exact z_retMi (Wf := (fun z : zCls × (Nat → Int64) => wO cJ o z.2 ++ cl_X10 cI cJ cS a z.1)) (u := (z, f)) X hq hP hD hS dL_rank_16
  · refine lv_i2l (v := r.toInt64) hx hb dL_rank_8 rfl ?_
    refine z_last (Wn := fun g => wO cJ o g ++ cl_X10 cI cJ cS a z) (n := 1) (f := f) X hP hD hS 0 1 rfl rfl (vp_in_nI (n := 0) (by decide) (by decide)) (fun _ => rfl) dL_rank_9 (fun g H locs eg hP hD hS => ?_)
    refine lv_goto (tgt := 17) hx hb dL_rank_10 (by decide) ?_
    refine lv_iconst (v := 0) hx hb dL_rank_17 (by decide) ?_
    subst eg
    exact z_retMi (Wf := (fun z : zCls × (Nat → Int64) => wO cJ o z.2 ++ cl_X10 cI cJ cS a z.1)) (u := (z, _)) X hq hP hD hS dL_rank_18
theorem w_cw_holds : zCalL yL_holds cL_holds 4 (some .int) [(0, 9, 12, 13)] 3 := ⟨zT_mem (List.mem_of_getElem? (i := 1291) (by decide +kernel)) (by decide +kernel), q_in_L, zT_mem (List.mem_of_getElem? (i := 1292) (by decide +kernel)) (by decide +kernel), ⟨by decide, by decide, by decide +kernel⟩⟩
abbrev rm_L_holds : Room := { frames := 7, cells := 1, slots := 6, locals := 111 }
set_option maxHeartbeats 4000000 in
set_option maxRecDepth 100000 in
theorem c_L_holds (l : Launch) (hlt : l.stackTraces = false) (dC : Nat → ClassId) (dI : Nat → Nat → Nat) (cI cJ cS : ClassId) (a : Nat → Nat) (u : zCls) (o : Nat) (f : Nat → Int64) (x1 : Int32) (Q : Int32 → zCls × (Nat → Int64) → Prop) (hf : s_X10_holds u x1 (fun r z => Q 0 (z, vp_updL f 0 r.toInt64)) (fun E z => (E = exC 0 ∧ Q 1 (z, f)))) : ∀ sz : Nat, Met l yL_holds (Cond.codeWith yL_holds cL_holds 4 (some .int) [(0, 9, 12, 13)] :: zT) rm_L_holds (zPmF zFw dC dI cI cJ cS (wO cJ o f ++ cl_X10 cI cJ cS a u) [.ref (a 0), .int x1, .ref o] sz) (va_Qi Q (zB dC dI cI cJ cS (va_A (wO cJ o f ++ cl_X10 cI cJ cS a u) sz) (fun z : zCls × (Nat → Int64) => wO cJ o z.2 ++ cl_X10 cI cJ cS a z.1)) (va_A (wO cJ o f ++ cl_X10 cI cJ cS a u) sz)) 1 6 (va_A (wO cJ o f ++ cl_X10 cI cJ cS a u) sz) := by
  intro sz
  refine z_enterL (Qc := fun A => va_Qi Q (zB dC dI cI cJ cS A (fun z : zCls × (Nat → Int64) => wO cJ o z.2 ++ cl_X10 cI cJ cS a z.1)) A) (cc := cL_holds) (maxL := 4) (ret := some .int) (hh := [(0, 9, 12, 13)]) (by decide) (Nat.le_of_ble_eq_true rfl) ?_
  intro p e s m below meth c ls A X htb hP hD hS hA hF hl
  obtain ⟨⟨hx, hb, hml, hown, hts⟩, hr, hlk, hK⟩ := id X
  have hl : lv_has ls 4 [(0, .ref (a 0)), (1, .int x1), (2, .ref o)] := hl
  refine lv_aload_n hx hb dL_holds_0 rfl (lv_at hl 2 rfl) ?_
  refine lv_iconst (v := 0) hx hb dL_holds_1 (by decide) ?_
  refine lv_aload_n hx hb dL_holds_2 rfl (lv_at hl 0 rfl) ?_
  refine lv_iload_n hx hb dL_holds_3 rfl (lv_at hl 1 rfl) ?_
  refine z_xVi (Wn := fun z => wO cJ o f ++ cl_X10 cI cJ cS a z) (wr := wO cJ o f) (As := [.int x1]) (rest := [.int 0, .ref o]) X fro_Fy hF.1 (c_X10_holds l hlt dC dI cI cJ cS a u x1 (fun r z => Q 0 (z, vp_updL f 0 r.toInt64)) (fun E z => (E = exC 0 ∧ Q 1 (z, f))) hf _) zc_X10_holds q_ml_L_77 ⟨rfl, rfl⟩ ⟨Nat.le_of_ble_eq_true rfl, Nat.le_of_ble_eq_true rfl⟩ hP hD hS hA (List.Perm.refl _) (fun _ => List.Perm.refl _) 9 rfl rfl hl.1 rfl rfl (Nat.le_of_ble_eq_true rfl) ⟨Nat.le_of_ble_eq_true rfl, Nat.le_of_ble_eq_true rfl⟩ dL_holds_4 (fun E z H locs q9 ce hq hP hD hS hce hcv hcl => ?_) (fun r z H locs hq hP hD hS => ?_)
  · obtain ⟨rfl, hq⟩ := hq
    refine z_cat (j := 0) X hF.1.2.2.2 [] ⟨0, 9, 12, 13⟩ [] htb (fun z hz => absurd hz (List.not_mem_nil)) rfl (by decide) w_cl_0 hce hcv hcl ?_
    refine lv_astore_n (lv' := [(3, .ref q9), (0, .ref (a 0)), (1, .int x1), (2, .ref o)]) hx hb dL_holds_12 rfl hl (by decide) rfl (fun ls hl => ?_)
    refine lv_iconst (v := 1) hx hb dL_holds_13 (by decide) ?_
    exact z_retMi (Wf := (fun z : zCls × (Nat → Int64) => wO cJ o z.2 ++ cl_X10 cI cJ cS a z.1)) (u := (z, f)) X hq hP hD hS dL_holds_14
  · refine lv_i2l (v := r.toInt64) hx hb dL_holds_7 rfl ?_
    refine z_last (Wn := fun g => wO cJ o g ++ cl_X10 cI cJ cS a z) (n := 1) (f := f) X hP hD hS 0 1 rfl rfl (vp_in_nI (n := 0) (by decide) (by decide)) (fun _ => rfl) dL_holds_8 (fun g H locs eg hP hD hS => ?_)
    refine lv_goto (tgt := 15) hx hb dL_holds_9 (by decide) ?_
    refine lv_iconst (v := 0) hx hb dL_holds_15 (by decide) ?_
    subst eg
    exact z_retMi (Wf := (fun z : zCls × (Nat → Int64) => wO cJ o z.2 ++ cl_X10 cI cJ cS a z.1)) (u := (z, _)) X hq hP hD hS dL_holds_16
theorem w_cw_would : zCalL yL_would cL_would 5 (some .int) [(0, 10, 13, 23), (0, 10, 17, 47)] 4 := ⟨zT_mem (List.mem_of_getElem? (i := 1304) (by decide +kernel)) (by decide +kernel), q_in_L, zT_mem (List.mem_of_getElem? (i := 1305) (by decide +kernel)) (by decide +kernel), ⟨by decide, by decide, by decide +kernel⟩⟩
abbrev rm_L_would : Room := { frames := 8, cells := 2, slots := 12, locals := 208 }
set_option maxHeartbeats 4000000 in
set_option maxRecDepth 100000 in
theorem c_L_would (l : Launch) (hlt : l.stackTraces = false) (dC : Nat → ClassId) (dI : Nat → Nat → Nat) (cI cJ cS : ClassId) (a : Nat → Nat) (u : zCls) (o : Nat) (f : Nat → Int64) (x1 : Int32) (x2 : Int32) (Q : Int32 → zCls × (Nat → Int64) → Prop) (hf : s_X10_would u x1 x2 (fun r z => Q 0 (z, vp_updL f 0 r.toInt64)) (fun E z => (E = exC 2 ∧ Q 1 (z, f)) ∨ (E = exC 3 ∧ Q 2 (z, f)))) : ∀ sz : Nat, Met l yL_would (Cond.codeWith yL_would cL_would 5 (some .int) [(0, 10, 13, 23), (0, 10, 17, 47)] :: zT) rm_L_would (zPmF zFw dC dI cI cJ cS (wO cJ o f ++ cl_X10 cI cJ cS a u) [.ref (a 0), .int x1, .int x2, .ref o] sz) (va_Qi Q (zB dC dI cI cJ cS (va_A (wO cJ o f ++ cl_X10 cI cJ cS a u) sz) (fun z : zCls × (Nat → Int64) => wO cJ o z.2 ++ cl_X10 cI cJ cS a z.1)) (va_A (wO cJ o f ++ cl_X10 cI cJ cS a u) sz)) 2 12 (va_A (wO cJ o f ++ cl_X10 cI cJ cS a u) sz) := by
  intro sz
  refine z_enterL (Qc := fun A => va_Qi Q (zB dC dI cI cJ cS A (fun z : zCls × (Nat → Int64) => wO cJ o z.2 ++ cl_X10 cI cJ cS a z.1)) A) (cc := cL_would) (maxL := 5) (ret := some .int) (hh := [(0, 10, 13, 23), (0, 10, 17, 47)]) (by decide) (Nat.le_of_ble_eq_true rfl) ?_
  intro p e s m below meth c ls A X htb hP hD hS hA hF hl
  obtain ⟨⟨hx, hb, hml, hown, hts⟩, hr, hlk, hK⟩ := id X
  have hl : lv_has ls 5 [(0, .ref (a 0)), (1, .int x1), (2, .int x2), (3, .ref o)] := hl
  refine lv_aload_n hx hb dL_would_0 rfl (lv_at hl 3 rfl) ?_
  refine lv_iconst (v := 0) hx hb dL_would_1 (by decide) ?_
  refine lv_aload_n hx hb dL_would_2 rfl (lv_at hl 0 rfl) ?_
  refine lv_iload_n hx hb dL_would_3 rfl (lv_at hl 1 rfl) ?_
  refine lv_iload_n hx hb dL_would_4 rfl (lv_at hl 2 rfl) ?_
  refine z_xVi (Wn := fun z => wO cJ o f ++ cl_X10 cI cJ cS a z) (wr := wO cJ o f) (As := [.int x1, .int x2]) (rest := [.int 0, .ref o]) X fro_Fy hF.1 (c_X10_would l hlt dC dI cI cJ cS a u x1 x2 (fun r z => Q 0 (z, vp_updL f 0 r.toInt64)) (fun E z => (E = exC 2 ∧ Q 1 (z, f)) ∨ (E = exC 3 ∧ Q 2 (z, f))) hf _) zc_X10_would q_ml_L_80 ⟨rfl, rfl⟩ ⟨Nat.le_of_ble_eq_true rfl, Nat.le_of_ble_eq_true rfl⟩ hP hD hS hA (List.Perm.refl _) (fun _ => List.Perm.refl _) 9 rfl rfl hl.1 rfl rfl (Nat.le_of_ble_eq_true rfl) ⟨Nat.le_of_ble_eq_true rfl, Nat.le_of_ble_eq_true rfl⟩ dL_would_5 (fun E z H locs q9 ce hq hP hD hS hce hcv hcl => ?_) (fun r z H locs hq hP hD hS => ?_)
  · rcases hq with ⟨rfl, hq⟩ | ⟨rfl, hq⟩
    · refine z_cat (j := 2) X hF.1.2.2.2 [] ⟨0, 10, 13, 23⟩ [⟨0, 10, 17, 47⟩] htb (fun z hz => absurd hz (List.not_mem_nil)) rfl (by decide) w_cl_2 hce hcv hcl ?_
      refine lv_astore (lv' := [(4, .ref q9), (0, .ref (a 0)), (1, .int x1), (2, .int x2), (3, .ref o)]) hx hb dL_would_13 hl (by decide) rfl (fun ls hl => ?_)
      refine lv_iconst (v := 1) hx hb dL_would_15 (by decide) ?_
      exact z_retMi (Wf := (fun z : zCls × (Nat → Int64) => wO cJ o z.2 ++ cl_X10 cI cJ cS a z.1)) (u := (z, f)) X hq hP hD hS dL_would_16
    · refine z_cat (j := 3) X hF.1.2.2.2 [⟨0, 10, 13, 23⟩] ⟨0, 10, 17, 47⟩ [] htb (fun z hz => by
        simp only [List.mem_cons, List.not_mem_nil, or_false] at hz
        rcases hz with rfl
        · exact ⟨by decide, 2, w_cl_2, hF.2.2.2.2.1⟩) rfl (by decide) w_cl_3 hce hcv hcl ?_
      refine lv_astore (lv' := [(4, .ref q9), (0, .ref (a 0)), (1, .int x1), (2, .int x2), (3, .ref o)]) hx hb dL_would_17 hl (by decide) rfl (fun ls hl => ?_)
      refine lv_iconst (v := 2) hx hb dL_would_19 (by decide) ?_
      exact z_retMi (Wf := (fun z : zCls × (Nat → Int64) => wO cJ o z.2 ++ cl_X10 cI cJ cS a z.1)) (u := (z, f)) X hq hP hD hS dL_would_20
  · refine lv_i2l (v := r.toInt64) hx hb dL_would_8 rfl ?_
    refine z_last (Wn := fun g => wO cJ o g ++ cl_X10 cI cJ cS a z) (n := 1) (f := f) X hP hD hS 0 1 rfl rfl (vp_in_nI (n := 0) (by decide) (by decide)) (fun _ => rfl) dL_would_9 (fun g H locs eg hP hD hS => ?_)
    refine lv_goto (tgt := 21) hx hb dL_would_10 (by decide) ?_
    refine lv_iconst (v := 0) hx hb dL_would_21 (by decide) ?_
    subst eg
    exact z_retMi (Wf := (fun z : zCls × (Nat → Int64) => wO cJ o z.2 ++ cl_X10 cI cJ cS a z.1)) (u := (z, _)) X hq hP hD hS dL_would_22
theorem w_cw_sweep : zCalL yL_sweep cL_sweep 5 (some .int) [(0, 10, 13, 13), (0, 10, 17, 47)] 4 := ⟨zT_mem (List.mem_of_getElem? (i := 1316) (by decide +kernel)) (by decide +kernel), q_in_L, zT_mem (List.mem_of_getElem? (i := 1317) (by decide +kernel)) (by decide +kernel), ⟨by decide, by decide, by decide +kernel⟩⟩
abbrev rm_L_sweep : Room := { frames := 8, cells := 1, slots := 6, locals := 212 }
set_option maxHeartbeats 4000000 in
set_option maxRecDepth 100000 in
theorem c_L_sweep (l : Launch) (hlt : l.stackTraces = false) (dC : Nat → ClassId) (dI : Nat → Nat → Nat) (cI cJ cS : ClassId) (a : Nat → Nat) (u : zCls) (o : Nat) (f : Nat → Int64) (x1 : Int32) (x2 : Int32) (Q : Int32 → zCls × (Nat → Int64) → Prop) (hf : s_X10_sweep u x1 x2 (fun r z => Q 0 (z, vp_updL f 0 r.toInt64)) (fun E z => (E = exC 0 ∧ Q 1 (z, f)) ∨ (E = exC 3 ∧ Q 2 (z, f)))) : ∀ sz : Nat, Met l yL_sweep (Cond.codeWith yL_sweep cL_sweep 5 (some .int) [(0, 10, 13, 13), (0, 10, 17, 47)] :: zT) rm_L_sweep (zPmF zFw dC dI cI cJ cS (wO cJ o f ++ cl_X10 cI cJ cS a u) [.ref (a 0), .int x1, .int x2, .ref o] sz) (va_Qi Q (zB dC dI cI cJ cS (va_A (wO cJ o f ++ cl_X10 cI cJ cS a u) sz) (fun z : zCls × (Nat → Int64) => wO cJ o z.2 ++ cl_X10 cI cJ cS a z.1)) (va_A (wO cJ o f ++ cl_X10 cI cJ cS a u) sz)) 1 6 (va_A (wO cJ o f ++ cl_X10 cI cJ cS a u) sz) := by
  intro sz
  refine z_enterL (Qc := fun A => va_Qi Q (zB dC dI cI cJ cS A (fun z : zCls × (Nat → Int64) => wO cJ o z.2 ++ cl_X10 cI cJ cS a z.1)) A) (cc := cL_sweep) (maxL := 5) (ret := some .int) (hh := [(0, 10, 13, 13), (0, 10, 17, 47)]) (by decide) (Nat.le_of_ble_eq_true rfl) ?_
  intro p e s m below meth c ls A X htb hP hD hS hA hF hl
  obtain ⟨⟨hx, hb, hml, hown, hts⟩, hr, hlk, hK⟩ := id X
  have hl : lv_has ls 5 [(0, .ref (a 0)), (1, .int x1), (2, .int x2), (3, .ref o)] := hl
  refine lv_aload_n hx hb dL_sweep_0 rfl (lv_at hl 3 rfl) ?_
  refine lv_iconst (v := 0) hx hb dL_sweep_1 (by decide) ?_
  refine lv_aload_n hx hb dL_sweep_2 rfl (lv_at hl 0 rfl) ?_
  refine lv_iload_n hx hb dL_sweep_3 rfl (lv_at hl 1 rfl) ?_
  refine lv_iload_n hx hb dL_sweep_4 rfl (lv_at hl 2 rfl) ?_
  refine z_xVi (Wn := fun z => wO cJ o f ++ cl_X10 cI cJ cS a z) (wr := wO cJ o f) (As := [.int x1, .int x2]) (rest := [.int 0, .ref o]) X fro_Fy hF.1 (c_X10_sweep l hlt dC dI cI cJ cS a u x1 x2 (fun r z => Q 0 (z, vp_updL f 0 r.toInt64)) (fun E z => (E = exC 0 ∧ Q 1 (z, f)) ∨ (E = exC 3 ∧ Q 2 (z, f))) hf _) zc_X10_sweep q_ml_L_83 ⟨rfl, rfl⟩ ⟨Nat.le_of_ble_eq_true rfl, Nat.le_of_ble_eq_true rfl⟩ hP hD hS hA (List.Perm.refl _) (fun _ => List.Perm.refl _) 9 rfl rfl hl.1 rfl rfl (Nat.le_of_ble_eq_true rfl) ⟨Nat.le_of_ble_eq_true rfl, Nat.le_of_ble_eq_true rfl⟩ dL_sweep_5 (fun E z H locs q9 ce hq hP hD hS hce hcv hcl => ?_) (fun r z H locs hq hP hD hS => ?_)
  · rcases hq with ⟨rfl, hq⟩ | ⟨rfl, hq⟩
    · refine z_cat (j := 0) X hF.1.2.2.2 [] ⟨0, 10, 13, 13⟩ [⟨0, 10, 17, 47⟩] htb (fun z hz => absurd hz (List.not_mem_nil)) rfl (by decide) w_cl_0 hce hcv hcl ?_
      refine lv_astore (lv' := [(4, .ref q9), (0, .ref (a 0)), (1, .int x1), (2, .int x2), (3, .ref o)]) hx hb dL_sweep_13 hl (by decide) rfl (fun ls hl => ?_)
      refine lv_iconst (v := 1) hx hb dL_sweep_15 (by decide) ?_
      exact z_retMi (Wf := (fun z : zCls × (Nat → Int64) => wO cJ o z.2 ++ cl_X10 cI cJ cS a z.1)) (u := (z, f)) X hq hP hD hS dL_sweep_16
    · refine z_cat (j := 3) X hF.1.2.2.2 [⟨0, 10, 13, 13⟩] ⟨0, 10, 17, 47⟩ [] htb (fun z hz => by
        simp only [List.mem_cons, List.not_mem_nil, or_false] at hz
        rcases hz with rfl
        · exact ⟨by decide, 0, w_cl_0, hF.2.2.2.2.2⟩) rfl (by decide) w_cl_3 hce hcv hcl ?_
      refine lv_astore (lv' := [(4, .ref q9), (0, .ref (a 0)), (1, .int x1), (2, .int x2), (3, .ref o)]) hx hb dL_sweep_17 hl (by decide) rfl (fun ls hl => ?_)
      refine lv_iconst (v := 2) hx hb dL_sweep_19 (by decide) ?_
      exact z_retMi (Wf := (fun z : zCls × (Nat → Int64) => wO cJ o z.2 ++ cl_X10 cI cJ cS a z.1)) (u := (z, f)) X hq hP hD hS dL_sweep_20
  · refine lv_i2l (v := r.toInt64) hx hb dL_sweep_8 rfl ?_
    refine z_last (Wn := fun g => wO cJ o g ++ cl_X10 cI cJ cS a z) (n := 1) (f := f) X hP hD hS 0 1 rfl rfl (vp_in_nI (n := 0) (by decide) (by decide)) (fun _ => rfl) dL_sweep_9 (fun g H locs eg hP hD hS => ?_)
    refine lv_goto (tgt := 21) hx hb dL_sweep_10 (by decide) ?_
    refine lv_iconst (v := 0) hx hb dL_sweep_21 (by decide) ?_
    subst eg
    exact z_retMi (Wf := (fun z : zCls × (Nat → Int64) => wO cJ o z.2 ++ cl_X10 cI cJ cS a z.1)) (u := (z, _)) X hq hP hD hS dL_sweep_22
theorem w_cw_traces : zCalL yL_traces cL_traces 5 (some .int) [(0, 10, 13, 23), (0, 10, 17, 47)] 4 := ⟨zT_mem (List.mem_of_getElem? (i := 1332) (by decide +kernel)) (by decide +kernel), q_in_L, zT_mem (List.mem_of_getElem? (i := 1333) (by decide +kernel)) (by decide +kernel), ⟨by decide, by decide, by decide +kernel⟩⟩
abbrev rm_L_traces : Room := { frames := 8, cells := 2, slots := 12, locals := 141 }
set_option maxHeartbeats 4000000 in
set_option maxRecDepth 100000 in
theorem c_L_traces (l : Launch) (hlt : l.stackTraces = false) (dC : Nat → ClassId) (dI : Nat → Nat → Nat) (cI cJ cS : ClassId) (a : Nat → Nat) (u : zCls) (o : Nat) (f : Nat → Int64) (x1 : Int32) (x2 : Int32) (Q : Int32 → zCls × (Nat → Int64) → Prop) (hf : s_X10_traces u x1 x2 (fun r z => Q 0 (z, vp_updL f 0 r.toInt64)) (fun E z => (E = exC 2 ∧ Q 1 (z, f)) ∨ (E = exC 3 ∧ Q 2 (z, f)))) : ∀ sz : Nat, Met l yL_traces (Cond.codeWith yL_traces cL_traces 5 (some .int) [(0, 10, 13, 23), (0, 10, 17, 47)] :: zT) rm_L_traces (zPmF zFw dC dI cI cJ cS (wO cJ o f ++ cl_X10 cI cJ cS a u) [.ref (a 0), .int x1, .int x2, .ref o] sz) (va_Qi Q (zB dC dI cI cJ cS (va_A (wO cJ o f ++ cl_X10 cI cJ cS a u) sz) (fun z : zCls × (Nat → Int64) => wO cJ o z.2 ++ cl_X10 cI cJ cS a z.1)) (va_A (wO cJ o f ++ cl_X10 cI cJ cS a u) sz)) 2 12 (va_A (wO cJ o f ++ cl_X10 cI cJ cS a u) sz) := by
  intro sz
  refine z_enterL (Qc := fun A => va_Qi Q (zB dC dI cI cJ cS A (fun z : zCls × (Nat → Int64) => wO cJ o z.2 ++ cl_X10 cI cJ cS a z.1)) A) (cc := cL_traces) (maxL := 5) (ret := some .int) (hh := [(0, 10, 13, 23), (0, 10, 17, 47)]) (by decide) (Nat.le_of_ble_eq_true rfl) ?_
  intro p e s m below meth c ls A X htb hP hD hS hA hF hl
  obtain ⟨⟨hx, hb, hml, hown, hts⟩, hr, hlk, hK⟩ := id X
  have hl : lv_has ls 5 [(0, .ref (a 0)), (1, .int x1), (2, .int x2), (3, .ref o)] := hl
  refine lv_aload_n hx hb dL_traces_0 rfl (lv_at hl 3 rfl) ?_
  refine lv_iconst (v := 0) hx hb dL_traces_1 (by decide) ?_
  refine lv_aload_n hx hb dL_traces_2 rfl (lv_at hl 0 rfl) ?_
  refine lv_iload_n hx hb dL_traces_3 rfl (lv_at hl 1 rfl) ?_
  refine lv_iload_n hx hb dL_traces_4 rfl (lv_at hl 2 rfl) ?_
  refine z_xVi (Wn := fun z => wO cJ o f ++ cl_X10 cI cJ cS a z) (wr := wO cJ o f) (As := [.int x1, .int x2]) (rest := [.int 0, .ref o]) X fro_Fy hF.1 (c_X10_traces l hlt dC dI cI cJ cS a u x1 x2 (fun r z => Q 0 (z, vp_updL f 0 r.toInt64)) (fun E z => (E = exC 2 ∧ Q 1 (z, f)) ∨ (E = exC 3 ∧ Q 2 (z, f))) hf _) zc_X10_traces q_ml_L_86 ⟨rfl, rfl⟩ ⟨Nat.le_of_ble_eq_true rfl, Nat.le_of_ble_eq_true rfl⟩ hP hD hS hA (List.Perm.refl _) (fun _ => List.Perm.refl _) 9 rfl rfl hl.1 rfl rfl (Nat.le_of_ble_eq_true rfl) ⟨Nat.le_of_ble_eq_true rfl, Nat.le_of_ble_eq_true rfl⟩ dL_traces_5 (fun E z H locs q9 ce hq hP hD hS hce hcv hcl => ?_) (fun r z H locs hq hP hD hS => ?_)
  · rcases hq with ⟨rfl, hq⟩ | ⟨rfl, hq⟩
    · refine z_cat (j := 2) X hF.1.2.2.2 [] ⟨0, 10, 13, 23⟩ [⟨0, 10, 17, 47⟩] htb (fun z hz => absurd hz (List.not_mem_nil)) rfl (by decide) w_cl_2 hce hcv hcl ?_
      refine lv_astore (lv' := [(4, .ref q9), (0, .ref (a 0)), (1, .int x1), (2, .int x2), (3, .ref o)]) hx hb dL_traces_13 hl (by decide) rfl (fun ls hl => ?_)
      refine lv_iconst (v := 1) hx hb dL_traces_15 (by decide) ?_
      exact z_retMi (Wf := (fun z : zCls × (Nat → Int64) => wO cJ o z.2 ++ cl_X10 cI cJ cS a z.1)) (u := (z, f)) X hq hP hD hS dL_traces_16
    · refine z_cat (j := 3) X hF.1.2.2.2 [⟨0, 10, 13, 23⟩] ⟨0, 10, 17, 47⟩ [] htb (fun z hz => by
        simp only [List.mem_cons, List.not_mem_nil, or_false] at hz
        rcases hz with rfl
        · exact ⟨by decide, 2, w_cl_2, hF.2.2.2.2.1⟩) rfl (by decide) w_cl_3 hce hcv hcl ?_
      refine lv_astore (lv' := [(4, .ref q9), (0, .ref (a 0)), (1, .int x1), (2, .int x2), (3, .ref o)]) hx hb dL_traces_17 hl (by decide) rfl (fun ls hl => ?_)
      refine lv_iconst (v := 2) hx hb dL_traces_19 (by decide) ?_
      exact z_retMi (Wf := (fun z : zCls × (Nat → Int64) => wO cJ o z.2 ++ cl_X10 cI cJ cS a z.1)) (u := (z, f)) X hq hP hD hS dL_traces_20
  · refine lv_i2l (v := r.toInt64) hx hb dL_traces_8 rfl ?_
    refine z_last (Wn := fun g => wO cJ o g ++ cl_X10 cI cJ cS a z) (n := 1) (f := f) X hP hD hS 0 1 rfl rfl (vp_in_nI (n := 0) (by decide) (by decide)) (fun _ => rfl) dL_traces_9 (fun g H locs eg hP hD hS => ?_)
    refine lv_goto (tgt := 21) hx hb dL_traces_10 (by decide) ?_
    refine lv_iconst (v := 0) hx hb dL_traces_21 (by decide) ?_
    subst eg
    exact z_retMi (Wf := (fun z : zCls × (Nat → Int64) => wO cJ o z.2 ++ cl_X10 cI cJ cS a z.1)) (u := (z, _)) X hq hP hD hS dL_traces_22
theorem w_cw_log : zCalL yL_log cL_log 5 (some .int) [(0, 10, 13, 47)] 4 := ⟨zT_mem (List.mem_of_getElem? (i := 1340) (by decide +kernel)) (by decide +kernel), q_in_L, zT_mem (List.mem_of_getElem? (i := 1341) (by decide +kernel)) (by decide +kernel), ⟨by decide, by decide, by decide +kernel⟩⟩
abbrev rm_L_log : Room := { frames := 8, cells := 1, slots := 6, locals := 133 }
set_option maxHeartbeats 4000000 in
set_option maxRecDepth 100000 in
theorem c_L_log (l : Launch) (hlt : l.stackTraces = false) (dC : Nat → ClassId) (dI : Nat → Nat → Nat) (cI cJ cS : ClassId) (a : Nat → Nat) (u : zCls) (o : Nat) (f : Nat → Int64) (x1 : Int32) (x2 : Int32) (Q : Int32 → zCls × (Nat → Int64) → Prop) (hf : s_X10_log u x1 x2 (fun r z => Q 0 (z, vp_updL f 0 r.toInt64)) (fun E z => (E = exC 3 ∧ Q 1 (z, f)))) : ∀ sz : Nat, Met l yL_log (Cond.codeWith yL_log cL_log 5 (some .int) [(0, 10, 13, 47)] :: zT) rm_L_log (zPmF zFw dC dI cI cJ cS (wO cJ o f ++ cl_X10 cI cJ cS a u) [.ref (a 0), .int x1, .int x2, .ref o] sz) (va_Qi Q (zB dC dI cI cJ cS (va_A (wO cJ o f ++ cl_X10 cI cJ cS a u) sz) (fun z : zCls × (Nat → Int64) => wO cJ o z.2 ++ cl_X10 cI cJ cS a z.1)) (va_A (wO cJ o f ++ cl_X10 cI cJ cS a u) sz)) 1 6 (va_A (wO cJ o f ++ cl_X10 cI cJ cS a u) sz) := by
  intro sz
  refine z_enterL (Qc := fun A => va_Qi Q (zB dC dI cI cJ cS A (fun z : zCls × (Nat → Int64) => wO cJ o z.2 ++ cl_X10 cI cJ cS a z.1)) A) (cc := cL_log) (maxL := 5) (ret := some .int) (hh := [(0, 10, 13, 47)]) (by decide) (Nat.le_of_ble_eq_true rfl) ?_
  intro p e s m below meth c ls A X htb hP hD hS hA hF hl
  obtain ⟨⟨hx, hb, hml, hown, hts⟩, hr, hlk, hK⟩ := id X
  have hl : lv_has ls 5 [(0, .ref (a 0)), (1, .int x1), (2, .int x2), (3, .ref o)] := hl
  refine lv_aload_n hx hb dL_log_0 rfl (lv_at hl 3 rfl) ?_
  refine lv_iconst (v := 0) hx hb dL_log_1 (by decide) ?_
  refine lv_aload_n hx hb dL_log_2 rfl (lv_at hl 0 rfl) ?_
  refine lv_iload_n hx hb dL_log_3 rfl (lv_at hl 1 rfl) ?_
  refine lv_iload_n hx hb dL_log_4 rfl (lv_at hl 2 rfl) ?_
  refine z_xVi (Wn := fun z => wO cJ o f ++ cl_X10 cI cJ cS a z) (wr := wO cJ o f) (As := [.int x1, .int x2]) (rest := [.int 0, .ref o]) X fro_Fy hF.1 (c_X10_log l hlt dC dI cI cJ cS a u x1 x2 (fun r z => Q 0 (z, vp_updL f 0 r.toInt64)) (fun E z => (E = exC 3 ∧ Q 1 (z, f))) hf _) zc_X10_log q_ml_L_89 ⟨rfl, rfl⟩ ⟨Nat.le_of_ble_eq_true rfl, Nat.le_of_ble_eq_true rfl⟩ hP hD hS hA (List.Perm.refl _) (fun _ => List.Perm.refl _) 9 rfl rfl hl.1 rfl rfl (Nat.le_of_ble_eq_true rfl) ⟨Nat.le_of_ble_eq_true rfl, Nat.le_of_ble_eq_true rfl⟩ dL_log_5 (fun E z H locs q9 ce hq hP hD hS hce hcv hcl => ?_) (fun r z H locs hq hP hD hS => ?_)
  · obtain ⟨rfl, hq⟩ := hq
    refine z_cat (j := 3) X hF.1.2.2.2 [] ⟨0, 10, 13, 47⟩ [] htb (fun z hz => absurd hz (List.not_mem_nil)) rfl (by decide) w_cl_3 hce hcv hcl ?_
    refine lv_astore (lv' := [(4, .ref q9), (0, .ref (a 0)), (1, .int x1), (2, .int x2), (3, .ref o)]) hx hb dL_log_13 hl (by decide) rfl (fun ls hl => ?_)
    refine lv_iconst (v := 1) hx hb dL_log_15 (by decide) ?_
    exact z_retMi (Wf := (fun z : zCls × (Nat → Int64) => wO cJ o z.2 ++ cl_X10 cI cJ cS a z.1)) (u := (z, f)) X hq hP hD hS dL_log_16
  · refine lv_i2l (v := r.toInt64) hx hb dL_log_8 rfl ?_
    refine z_last (Wn := fun g => wO cJ o g ++ cl_X10 cI cJ cS a z) (n := 1) (f := f) X hP hD hS 0 1 rfl rfl (vp_in_nI (n := 0) (by decide) (by decide)) (fun _ => rfl) dL_log_9 (fun g H locs eg hP hD hS => ?_)
    refine lv_goto (tgt := 17) hx hb dL_log_10 (by decide) ?_
    refine lv_iconst (v := 0) hx hb dL_log_17 (by decide) ?_
    subst eg
    exact z_retMi (Wf := (fun z : zCls × (Nat → Int64) => wO cJ o z.2 ++ cl_X10 cI cJ cS a z.1)) (u := (z, _)) X hq hP hD hS dL_log_18
