theorem zi_X7 : Cond.instanceMethod yX7_init ∈ zT ∧ Cond.initialized (yX7_init).cls ∈ zT ∧ Cond.code yX7_init cX7_init 1 none ∈ zT ∧ zN yX7_init 0 := ⟨q_im_X7_init, q_in_X7, q_cd_X7_init, ⟨by decide, by decide, by decide +kernel⟩⟩
abbrev rm_X7_init : Room := { frames := 1, cells := 0, slots := 0, locals := 20 }
set_option maxHeartbeats 4000000 in
set_option maxRecDepth 100000 in
theorem c_X7_init (l : Launch) (dC : Nat → ClassId) (dI : Nat → Nat → Nat) (cI cJ cS : ClassId) (b : Nat) : ∀ sz : Nat, Met l yX7_init (Cond.code yX7_init cX7_init 1 none :: zT) rm_X7_init (zPmF zFc dC dI cI cJ cS [(b, .inr (6, [.int 0, .int 0, .int 0, .int 0]))] [.ref b] sz) (va_Qv (S := Nat → Nat) (fun a : Nat → Nat => a 0 = b) (zB dC dI cI cJ cS (va_A [(b, .inr (6, [.int 0, .int 0, .int 0, .int 0]))] sz) (fun a : Nat → Nat => cl_X7 cI cJ a (0, 0, 0, 0))) (va_A [(b, .inr (6, [.int 0, .int 0, .int 0, .int 0]))] sz)) 0 0 (va_A [(b, .inr (6, [.int 0, .int 0, .int 0, .int 0]))] sz) := by
  intro sz
  refine z_enterC (Qc := fun A => va_Qv (S := Nat → Nat) (fun a : Nat → Nat => a 0 = b) (zB dC dI cI cJ cS A (fun a : Nat → Nat => cl_X7 cI cJ a (0, 0, 0, 0))) A) (cc := cX7_init) (maxL := 1) (ret := none) (by decide) rfl (Nat.le_of_ble_eq_true rfl) ?_
  intro p e s m below meth c ls A X hin hP hD hS hA hF hl
  obtain ⟨⟨hx, hb, hml, hown, hts⟩, hr, hlk, hK⟩ := id X
  have hl : lv_has ls 1 [(0, .ref b)] := hl
  refine lv_aload_n hx hb dX7_init_0 rfl (lv_at hl 0 rfl) ?_
  refine z_obj X q_ml_X7_1 hl.1 ⟨Nat.le_of_ble_eq_true rfl, Nat.le_of_ble_eq_true rfl⟩ dX7_init_1 ?_
  exact z_retMv (Wf := fun a : Nat → Nat => cl_X7 cI cJ a (0, 0, 0, 0)) (u := fun i => [b].getD i 0) X rfl hP hD hS dX7_init_4
theorem zi_X8 : Cond.instanceMethod yX8_init ∈ zT ∧ Cond.initialized (yX8_init).cls ∈ zT ∧ Cond.code yX8_init cX8_init 1 none ∈ zT ∧ zN yX8_init 0 := ⟨q_im_X8_init, q_in_X8, q_cd_X8_init, ⟨by decide, by decide, by decide +kernel⟩⟩
abbrev rm_X8_init : Room := { frames := 1, cells := 0, slots := 0, locals := 20 }
set_option maxHeartbeats 4000000 in
set_option maxRecDepth 100000 in
theorem c_X8_init (l : Launch) (dC : Nat → ClassId) (dI : Nat → Nat → Nat) (cI cJ cS : ClassId) (b : Nat) : ∀ sz : Nat, Met l yX8_init (Cond.code yX8_init cX8_init 1 none :: zT) rm_X8_init (zPmF zFc dC dI cI cJ cS [(b, .inr (7, [.int 0, .int 0, .int 0, .int 0, .int 0]))] [.ref b] sz) (va_Qv (S := Nat → Nat) (fun a : Nat → Nat => a 0 = b) (zB dC dI cI cJ cS (va_A [(b, .inr (7, [.int 0, .int 0, .int 0, .int 0, .int 0]))] sz) (fun a : Nat → Nat => cl_X8 cI cJ a (0, 0, 0, 0, 0))) (va_A [(b, .inr (7, [.int 0, .int 0, .int 0, .int 0, .int 0]))] sz)) 0 0 (va_A [(b, .inr (7, [.int 0, .int 0, .int 0, .int 0, .int 0]))] sz) := by
  intro sz
  refine z_enterC (Qc := fun A => va_Qv (S := Nat → Nat) (fun a : Nat → Nat => a 0 = b) (zB dC dI cI cJ cS A (fun a : Nat → Nat => cl_X8 cI cJ a (0, 0, 0, 0, 0))) A) (cc := cX8_init) (maxL := 1) (ret := none) (by decide) rfl (Nat.le_of_ble_eq_true rfl) ?_
  intro p e s m below meth c ls A X hin hP hD hS hA hF hl
  obtain ⟨⟨hx, hb, hml, hown, hts⟩, hr, hlk, hK⟩ := id X
  have hl : lv_has ls 1 [(0, .ref b)] := hl
  refine lv_aload_n hx hb dX8_init_0 rfl (lv_at hl 0 rfl) ?_
  refine z_obj X q_ml_X8_1 hl.1 ⟨Nat.le_of_ble_eq_true rfl, Nat.le_of_ble_eq_true rfl⟩ dX8_init_1 ?_
  exact z_retMv (Wf := fun a : Nat → Nat => cl_X8 cI cJ a (0, 0, 0, 0, 0)) (u := fun i => [b].getD i 0) X rfl hP hD hS dX8_init_4
theorem zi_X4 : Cond.instanceMethod yX4_init ∈ zT ∧ Cond.initialized (yX4_init).cls ∈ zT ∧ Cond.code yX4_init cX4_init 1 none ∈ zT ∧ zN yX4_init 0 := ⟨q_im_X4_init, q_in_X4, q_cd_X4_init, ⟨by decide, by decide, by decide +kernel⟩⟩
abbrev rm_X4_init : Room := { frames := 1, cells := 4, slots := 636, locals := 20 }
set_option maxHeartbeats 4000000 in
set_option maxRecDepth 100000 in
theorem c_X4_init (l : Launch) (dC : Nat → ClassId) (dI : Nat → Nat → Nat) (cI cJ cS : ClassId) (b : Nat) : ∀ sz : Nat, Met l yX4_init (Cond.code yX4_init cX4_init 1 none :: zT) rm_X4_init (zPmF zFc dC dI cI cJ cS [(b, .inr (3, [.null, .null, .null, .null, .int 0]))] [.ref b] sz) (va_Qv (S := Nat → Nat) (fun a : Nat → Nat => a 0 = b) (zB dC dI cI cJ cS (va_A [(b, .inr (3, [.null, .null, .null, .null, .int 0]))] sz) (fun a : Nat → Nat => cl_X4 cI cJ a (fun _ => 0, fun _ => 0, fun _ => 0, fun _ => 0, 0))) (va_A [(b, .inr (3, [.null, .null, .null, .null, .int 0]))] sz)) 4 636 (va_A [(b, .inr (3, [.null, .null, .null, .null, .int 0]))] sz) := by
  intro sz
  refine z_enterC (Qc := fun A => va_Qv (S := Nat → Nat) (fun a : Nat → Nat => a 0 = b) (zB dC dI cI cJ cS A (fun a : Nat → Nat => cl_X4 cI cJ a (fun _ => 0, fun _ => 0, fun _ => 0, fun _ => 0, 0))) A) (cc := cX4_init) (maxL := 1) (ret := none) (by decide) rfl (Nat.le_of_ble_eq_true rfl) ?_
  intro p e s m below meth c ls A X hin hP hD hS hA hF hl
  obtain ⟨⟨hx, hb, hml, hown, hts⟩, hr, hlk, hK⟩ := id X
  have hl : lv_has ls 1 [(0, .ref b)] := hl
  refine lv_aload_n hx hb dX4_init_0 rfl (lv_at hl 0 rfl) ?_
  refine z_obj X q_ml_X4_3 hl.1 ⟨Nat.le_of_ble_eq_true rfl, Nat.le_of_ble_eq_true rfl⟩ dX4_init_1 ?_
  refine lv_aload_n hx hb dX4_init_4 rfl (lv_at hl 0 rfl) ?_
  refine lv_sipush (v := 600) hx hb dX4_init_5 (by decide) ?_
  refine z_newJ (N := 600) X hP hD hS hA (by decide) (by decide) (Nat.le_of_ble_eq_true rfl) ⟨Nat.le_of_ble_eq_true rfl, Nat.le_of_ble_eq_true rfl⟩ dX4_init_8 (fun q8 H hP hD hS => ?_)
  have hP : va_P (dC, dI) vwCl ([(b, .inr (3, [.null, .null, .null, .null, .int 0])), (q8, .inl (cJ, 600, .inr (.inl (fun _ => 0))))]) H := hP
  have hD : va_D A ([(b, .inr (3, [.null, .null, .null, .null, .int 0])), (q8, .inl (cJ, 600, .inr (.inl (fun _ => 0))))]) := hD
  refine z_putF (w' := [(b, .inr (3, [.ref q8, .null, .null, .null, .int 0])), (q8, .inl (cJ, 600, .inr (.inl (fun _ => 0))))]) (ci := 3) (v := .ref q8) (ty := tyX4 0) (Cn := RX4) (T := TX4) (N := 5) X inX4 tyX4 tyX4_ok nmX4 hP hD hS 0 rfl rfl 0 (by decide) (hts _ q_fl_X4_9) (fun _ h9 => h9) rfl hin rfl (tyX4_ok 0 (by decide)) rfl rfl (Nat.le_of_ble_eq_true rfl) rfl dX4_init_10 (fun H locs hP hD hS => ?_)
  refine lv_aload_n hx hb dX4_init_13 rfl (lv_at hl 0 rfl) ?_
  refine lv_bipush (v := 12) hx hb dX4_init_14 (by decide) ?_
  refine z_newI (N := 12) X hP hD hS hA (by decide) (by decide) (Nat.le_of_ble_eq_true rfl) ⟨Nat.le_of_ble_eq_true rfl, Nat.le_of_ble_eq_true rfl⟩ dX4_init_16 (fun q16 H hP hD hS => ?_)
  have hP : va_P (dC, dI) vwCl ([(b, .inr (3, [.ref q8, .null, .null, .null, .int 0])), (q8, .inl (cJ, 600, .inr (.inl (fun _ => 0)))), (q16, .inl (cI, 12, .inl (fun _ => 0)))]) H := hP
  have hD : va_D A ([(b, .inr (3, [.ref q8, .null, .null, .null, .int 0])), (q8, .inl (cJ, 600, .inr (.inl (fun _ => 0)))), (q16, .inl (cI, 12, .inl (fun _ => 0)))]) := hD
  refine z_putF (w' := [(b, .inr (3, [.ref q8, .ref q16, .null, .null, .int 0])), (q8, .inl (cJ, 600, .inr (.inl (fun _ => 0)))), (q16, .inl (cI, 12, .inl (fun _ => 0)))]) (ci := 3) (v := .ref q16) (ty := tyX4 1) (Cn := RX4) (T := TX4) (N := 5) X inX4 tyX4 tyX4_ok nmX4 hP hD hS 0 rfl rfl 1 (by decide) (hts _ q_fl_X4_15) (fun _ h9 => h9) rfl hin rfl (tyX4_ok 1 (by decide)) rfl rfl (Nat.le_of_ble_eq_true rfl) rfl dX4_init_18 (fun H locs hP hD hS => ?_)
  refine lv_aload_n hx hb dX4_init_21 rfl (lv_at hl 0 rfl) ?_
  refine lv_bipush (v := 12) hx hb dX4_init_22 (by decide) ?_
  refine z_newI (N := 12) X hP hD hS hA (by decide) (by decide) (Nat.le_of_ble_eq_true rfl) ⟨Nat.le_of_ble_eq_true rfl, Nat.le_of_ble_eq_true rfl⟩ dX4_init_24 (fun q24 H hP hD hS => ?_)
  have hP : va_P (dC, dI) vwCl ([(b, .inr (3, [.ref q8, .ref q16, .null, .null, .int 0])), (q8, .inl (cJ, 600, .inr (.inl (fun _ => 0)))), (q16, .inl (cI, 12, .inl (fun _ => 0))), (q24, .inl (cI, 12, .inl (fun _ => 0)))]) H := hP
  have hD : va_D A ([(b, .inr (3, [.ref q8, .ref q16, .null, .null, .int 0])), (q8, .inl (cJ, 600, .inr (.inl (fun _ => 0)))), (q16, .inl (cI, 12, .inl (fun _ => 0))), (q24, .inl (cI, 12, .inl (fun _ => 0)))]) := hD
  refine z_putF (w' := [(b, .inr (3, [.ref q8, .ref q16, .ref q24, .null, .int 0])), (q8, .inl (cJ, 600, .inr (.inl (fun _ => 0)))), (q16, .inl (cI, 12, .inl (fun _ => 0))), (q24, .inl (cI, 12, .inl (fun _ => 0)))]) (ci := 3) (v := .ref q24) (ty := tyX4 2) (Cn := RX4) (T := TX4) (N := 5) X inX4 tyX4 tyX4_ok nmX4 hP hD hS 0 rfl rfl 2 (by decide) (hts _ q_fl_X4_19) (fun _ h9 => h9) rfl hin rfl (tyX4_ok 2 (by decide)) rfl rfl (Nat.le_of_ble_eq_true rfl) rfl dX4_init_26 (fun H locs hP hD hS => ?_)
  refine lv_aload_n hx hb dX4_init_29 rfl (lv_at hl 0 rfl) ?_
  refine lv_bipush (v := 12) hx hb dX4_init_30 (by decide) ?_
  refine z_newI (N := 12) X hP hD hS hA (by decide) (by decide) (Nat.le_of_ble_eq_true rfl) ⟨Nat.le_of_ble_eq_true rfl, Nat.le_of_ble_eq_true rfl⟩ dX4_init_32 (fun q32 H hP hD hS => ?_)
  have hP : va_P (dC, dI) vwCl ([(b, .inr (3, [.ref q8, .ref q16, .ref q24, .null, .int 0])), (q8, .inl (cJ, 600, .inr (.inl (fun _ => 0)))), (q16, .inl (cI, 12, .inl (fun _ => 0))), (q24, .inl (cI, 12, .inl (fun _ => 0))), (q32, .inl (cI, 12, .inl (fun _ => 0)))]) H := hP
  have hD : va_D A ([(b, .inr (3, [.ref q8, .ref q16, .ref q24, .null, .int 0])), (q8, .inl (cJ, 600, .inr (.inl (fun _ => 0)))), (q16, .inl (cI, 12, .inl (fun _ => 0))), (q24, .inl (cI, 12, .inl (fun _ => 0))), (q32, .inl (cI, 12, .inl (fun _ => 0)))]) := hD
  refine z_putF (w' := [(b, .inr (3, [.ref q8, .ref q16, .ref q24, .ref q32, .int 0])), (q8, .inl (cJ, 600, .inr (.inl (fun _ => 0)))), (q16, .inl (cI, 12, .inl (fun _ => 0))), (q24, .inl (cI, 12, .inl (fun _ => 0))), (q32, .inl (cI, 12, .inl (fun _ => 0)))]) (ci := 3) (v := .ref q32) (ty := tyX4 3) (Cn := RX4) (T := TX4) (N := 5) X inX4 tyX4 tyX4_ok nmX4 hP hD hS 0 rfl rfl 3 (by decide) (hts _ q_fl_X4_22) (fun _ h9 => h9) rfl hin rfl (tyX4_ok 3 (by decide)) rfl rfl (Nat.le_of_ble_eq_true rfl) rfl dX4_init_34 (fun H locs hP hD hS => ?_)
  exact z_retMv (Wf := fun a : Nat → Nat => cl_X4 cI cJ a (fun _ => 0, fun _ => 0, fun _ => 0, fun _ => 0, 0)) (u := fun i => [b, q8, q16, q24, q32].getD i 0) X rfl hP hD hS dX4_init_37
theorem zi_X9 : Cond.instanceMethod yX9_init ∈ zT ∧ Cond.initialized (yX9_init).cls ∈ zT ∧ Cond.code yX9_init cX9_init 1 none ∈ zT ∧ zN yX9_init 0 := ⟨q_im_X9_init, q_in_X9, q_cd_X9_init, ⟨by decide, by decide, by decide +kernel⟩⟩
abbrev rm_X9_init : Room := { frames := 1, cells := 2, slots := 390, locals := 20 }
set_option maxHeartbeats 4000000 in
set_option maxRecDepth 100000 in
theorem c_X9_init (l : Launch) (dC : Nat → ClassId) (dI : Nat → Nat → Nat) (cI cJ cS : ClassId) (b : Nat) : ∀ sz : Nat, Met l yX9_init (Cond.code yX9_init cX9_init 1 none :: zT) rm_X9_init (zPmF zFc dC dI cI cJ cS [(b, .inr (8, [.null, .null, .int 0]))] [.ref b] sz) (va_Qv (S := Nat → Nat) (fun a : Nat → Nat => a 0 = b) (zB dC dI cI cJ cS (va_A [(b, .inr (8, [.null, .null, .int 0]))] sz) (fun a : Nat → Nat => cl_X9 cI cJ a (fun _ => 0, fun _ => 0, 0))) (va_A [(b, .inr (8, [.null, .null, .int 0]))] sz)) 2 390 (va_A [(b, .inr (8, [.null, .null, .int 0]))] sz) := by
  intro sz
  refine z_enterC (Qc := fun A => va_Qv (S := Nat → Nat) (fun a : Nat → Nat => a 0 = b) (zB dC dI cI cJ cS A (fun a : Nat → Nat => cl_X9 cI cJ a (fun _ => 0, fun _ => 0, 0))) A) (cc := cX9_init) (maxL := 1) (ret := none) (by decide) rfl (Nat.le_of_ble_eq_true rfl) ?_
  intro p e s m below meth c ls A X hin hP hD hS hA hF hl
  obtain ⟨⟨hx, hb, hml, hown, hts⟩, hr, hlk, hK⟩ := id X
  have hl : lv_has ls 1 [(0, .ref b)] := hl
  refine lv_aload_n hx hb dX9_init_0 rfl (lv_at hl 0 rfl) ?_
  refine z_obj X q_ml_X9_3 hl.1 ⟨Nat.le_of_ble_eq_true rfl, Nat.le_of_ble_eq_true rfl⟩ dX9_init_1 ?_
  refine lv_aload_n hx hb dX9_init_4 rfl (lv_at hl 0 rfl) ?_
  refine lv_sipush (v := 384) hx hb dX9_init_5 (by decide) ?_
  refine z_newJ (N := 384) X hP hD hS hA (by decide) (by decide) (Nat.le_of_ble_eq_true rfl) ⟨Nat.le_of_ble_eq_true rfl, Nat.le_of_ble_eq_true rfl⟩ dX9_init_8 (fun q8 H hP hD hS => ?_)
  have hP : va_P (dC, dI) vwCl ([(b, .inr (8, [.null, .null, .int 0])), (q8, .inl (cJ, 384, .inr (.inl (fun _ => 0))))]) H := hP
  have hD : va_D A ([(b, .inr (8, [.null, .null, .int 0])), (q8, .inl (cJ, 384, .inr (.inl (fun _ => 0))))]) := hD
  refine z_putF (w' := [(b, .inr (8, [.ref q8, .null, .int 0])), (q8, .inl (cJ, 384, .inr (.inl (fun _ => 0))))]) (ci := 8) (v := .ref q8) (ty := tyX9 0) (Cn := RX9) (T := TX9) (N := 3) X inX9 tyX9 tyX9_ok nmX9 hP hD hS 0 rfl rfl 0 (by decide) (hts _ q_fl_X9_9) (fun _ h9 => h9) rfl hin rfl (tyX9_ok 0 (by decide)) rfl rfl (Nat.le_of_ble_eq_true rfl) rfl dX9_init_10 (fun H locs hP hD hS => ?_)
  refine lv_aload_n hx hb dX9_init_13 rfl (lv_at hl 0 rfl) ?_
  refine lv_bipush (v := 6) hx hb dX9_init_14 (by decide) ?_
  refine z_newI (N := 6) X hP hD hS hA (by decide) (by decide) (Nat.le_of_ble_eq_true rfl) ⟨Nat.le_of_ble_eq_true rfl, Nat.le_of_ble_eq_true rfl⟩ dX9_init_16 (fun q16 H hP hD hS => ?_)
  have hP : va_P (dC, dI) vwCl ([(b, .inr (8, [.ref q8, .null, .int 0])), (q8, .inl (cJ, 384, .inr (.inl (fun _ => 0)))), (q16, .inl (cI, 6, .inl (fun _ => 0)))]) H := hP
  have hD : va_D A ([(b, .inr (8, [.ref q8, .null, .int 0])), (q8, .inl (cJ, 384, .inr (.inl (fun _ => 0)))), (q16, .inl (cI, 6, .inl (fun _ => 0)))]) := hD
  refine z_putF (w' := [(b, .inr (8, [.ref q8, .ref q16, .int 0])), (q8, .inl (cJ, 384, .inr (.inl (fun _ => 0)))), (q16, .inl (cI, 6, .inl (fun _ => 0)))]) (ci := 8) (v := .ref q16) (ty := tyX9 1) (Cn := RX9) (T := TX9) (N := 3) X inX9 tyX9 tyX9_ok nmX9 hP hD hS 0 rfl rfl 1 (by decide) (hts _ q_fl_X9_15) (fun _ h9 => h9) rfl hin rfl (tyX9_ok 1 (by decide)) rfl rfl (Nat.le_of_ble_eq_true rfl) rfl dX9_init_18 (fun H locs hP hD hS => ?_)
  exact z_retMv (Wf := fun a : Nat → Nat => cl_X9 cI cJ a (fun _ => 0, fun _ => 0, 0)) (u := fun i => [b, q8, q16].getD i 0) X rfl hP hD hS dX9_init_21
theorem zi_X1 : Cond.instanceMethod yX1_init ∈ zT ∧ Cond.initialized (yX1_init).cls ∈ zT ∧ Cond.code yX1_init cX1_init 1 none ∈ zT ∧ zN yX1_init 0 := ⟨q_im_X1_init, q_in_X1, q_cd_X1_init, ⟨by decide, by decide, by decide +kernel⟩⟩
abbrev rm_X1_init : Room := { frames := 1, cells := 1, slots := 50, locals := 20 }
set_option maxHeartbeats 4000000 in
set_option maxRecDepth 100000 in
theorem c_X1_init (l : Launch) (dC : Nat → ClassId) (dI : Nat → Nat → Nat) (cI cJ cS : ClassId) (b : Nat) : ∀ sz : Nat, Met l yX1_init (Cond.code yX1_init cX1_init 1 none :: zT) rm_X1_init (zPmF zFc dC dI cI cJ cS [(b, .inr (0, [.null, .int 0, .int 0, .int 0]))] [.ref b] sz) (va_Qv (S := Nat → Nat) (fun a : Nat → Nat => a 0 = b) (zB dC dI cI cJ cS (va_A [(b, .inr (0, [.null, .int 0, .int 0, .int 0]))] sz) (fun a : Nat → Nat => cl_X1 cI cJ a (fun _ => 0, -1, 0, 0))) (va_A [(b, .inr (0, [.null, .int 0, .int 0, .int 0]))] sz)) 1 50 (va_A [(b, .inr (0, [.null, .int 0, .int 0, .int 0]))] sz) := by
  intro sz
  refine z_enterC (Qc := fun A => va_Qv (S := Nat → Nat) (fun a : Nat → Nat => a 0 = b) (zB dC dI cI cJ cS A (fun a : Nat → Nat => cl_X1 cI cJ a (fun _ => 0, -1, 0, 0))) A) (cc := cX1_init) (maxL := 1) (ret := none) (by decide) rfl (Nat.le_of_ble_eq_true rfl) ?_
  intro p e s m below meth c ls A X hin hP hD hS hA hF hl
  obtain ⟨⟨hx, hb, hml, hown, hts⟩, hr, hlk, hK⟩ := id X
  have hl : lv_has ls 1 [(0, .ref b)] := hl
  refine lv_aload_n hx hb dX1_init_0 rfl (lv_at hl 0 rfl) ?_
  refine z_obj X q_ml_X1_3 hl.1 ⟨Nat.le_of_ble_eq_true rfl, Nat.le_of_ble_eq_true rfl⟩ dX1_init_1 ?_
  refine lv_aload_n hx hb dX1_init_4 rfl (lv_at hl 0 rfl) ?_
  refine lv_bipush (v := 50) hx hb dX1_init_5 (by decide) ?_
  refine z_newJ (N := 50) X hP hD hS hA (by decide) (by decide) (Nat.le_of_ble_eq_true rfl) ⟨Nat.le_of_ble_eq_true rfl, Nat.le_of_ble_eq_true rfl⟩ dX1_init_7 (fun q7 H hP hD hS => ?_)
  have hP : va_P (dC, dI) vwCl ([(b, .inr (0, [.null, .int 0, .int 0, .int 0])), (q7, .inl (cJ, 50, .inr (.inl (fun _ => 0))))]) H := hP
  have hD : va_D A ([(b, .inr (0, [.null, .int 0, .int 0, .int 0])), (q7, .inl (cJ, 50, .inr (.inl (fun _ => 0))))]) := hD
  refine z_putF (w' := [(b, .inr (0, [.ref q7, .int 0, .int 0, .int 0])), (q7, .inl (cJ, 50, .inr (.inl (fun _ => 0))))]) (ci := 0) (v := .ref q7) (ty := tyX1 0) (Cn := RX1) (T := TX1) (N := 4) X inX1 tyX1 tyX1_ok nmX1 hP hD hS 0 rfl rfl 0 (by decide) (hts _ q_fl_X1_9) (fun _ h9 => h9) rfl hin rfl (tyX1_ok 0 (by decide)) rfl rfl (Nat.le_of_ble_eq_true rfl) rfl dX1_init_9 (fun H locs hP hD hS => ?_)
  refine lv_aload_n hx hb dX1_init_12 rfl (lv_at hl 0 rfl) ?_
  refine lv_iconst (v := (-1)) hx hb dX1_init_13 (by decide) ?_
  refine z_put (w' := [(b, .inr (0, [.ref q7, .int (-1), .int 0, .int 0])), (q7, .inl (cJ, 50, .inr (.inl (fun _ => 0))))]) (ci := 0) (v := .int (-1)) (ty := .int) (Cn := RX1) (T := TX1) (N := 4) X inX1 tyX1 tyX1_ok nmX1 hP hD hS 0 rfl rfl 1 (by decide) (hts _ q_fl_X1_15) (fun _ h9 => h9) rfl (tyX1_ok 1 (by decide)) rfl rfl (Nat.le_of_ble_eq_true rfl) rfl dX1_init_14 (fun H locs hP hD hS => ?_)
  exact z_retMv (Wf := fun a : Nat → Nat => cl_X1 cI cJ a (fun _ => 0, -1, 0, 0)) (u := fun i => [b, q7].getD i 0) X rfl hP hD hS dX1_init_17
theorem zi_X2 : Cond.instanceMethod yX2_init ∈ zT ∧ Cond.initialized (yX2_init).cls ∈ zT ∧ Cond.code yX2_init cX2_init 1 none ∈ zT ∧ zN yX2_init 0 := ⟨q_im_X2_init, q_in_X2, q_cd_X2_init, ⟨by decide, by decide, by decide +kernel⟩⟩
abbrev rm_X2_init : Room := { frames := 1, cells := 1, slots := 90, locals := 20 }
set_option maxHeartbeats 4000000 in
set_option maxRecDepth 100000 in
theorem c_X2_init (l : Launch) (dC : Nat → ClassId) (dI : Nat → Nat → Nat) (cI cJ cS : ClassId) (b : Nat) : ∀ sz : Nat, Met l yX2_init (Cond.code yX2_init cX2_init 1 none :: zT) rm_X2_init (zPmF zFc dC dI cI cJ cS [(b, .inr (1, [.null, .int 0]))] [.ref b] sz) (va_Qv (S := Nat → Nat) (fun a : Nat → Nat => a 0 = b) (zB dC dI cI cJ cS (va_A [(b, .inr (1, [.null, .int 0]))] sz) (fun a : Nat → Nat => cl_X2 cI cJ a (fun _ => 0, 0))) (va_A [(b, .inr (1, [.null, .int 0]))] sz)) 1 90 (va_A [(b, .inr (1, [.null, .int 0]))] sz) := by
  intro sz
  refine z_enterC (Qc := fun A => va_Qv (S := Nat → Nat) (fun a : Nat → Nat => a 0 = b) (zB dC dI cI cJ cS A (fun a : Nat → Nat => cl_X2 cI cJ a (fun _ => 0, 0))) A) (cc := cX2_init) (maxL := 1) (ret := none) (by decide) rfl (Nat.le_of_ble_eq_true rfl) ?_
  intro p e s m below meth c ls A X hin hP hD hS hA hF hl
  obtain ⟨⟨hx, hb, hml, hown, hts⟩, hr, hlk, hK⟩ := id X
  have hl : lv_has ls 1 [(0, .ref b)] := hl
  refine lv_aload_n hx hb dX2_init_0 rfl (lv_at hl 0 rfl) ?_
  refine z_obj X q_ml_X2_3 hl.1 ⟨Nat.le_of_ble_eq_true rfl, Nat.le_of_ble_eq_true rfl⟩ dX2_init_1 ?_
  refine lv_aload_n hx hb dX2_init_4 rfl (lv_at hl 0 rfl) ?_
  refine lv_bipush (v := 90) hx hb dX2_init_5 (by decide) ?_
  refine z_newI (N := 90) X hP hD hS hA (by decide) (by decide) (Nat.le_of_ble_eq_true rfl) ⟨Nat.le_of_ble_eq_true rfl, Nat.le_of_ble_eq_true rfl⟩ dX2_init_7 (fun q7 H hP hD hS => ?_)
  have hP : va_P (dC, dI) vwCl ([(b, .inr (1, [.null, .int 0])), (q7, .inl (cI, 90, .inl (fun _ => 0)))]) H := hP
  have hD : va_D A ([(b, .inr (1, [.null, .int 0])), (q7, .inl (cI, 90, .inl (fun _ => 0)))]) := hD
  refine z_putF (w' := [(b, .inr (1, [.ref q7, .int 0])), (q7, .inl (cI, 90, .inl (fun _ => 0)))]) (ci := 1) (v := .ref q7) (ty := tyX2 0) (Cn := RX2) (T := TX2) (N := 2) X inX2 tyX2 tyX2_ok nmX2 hP hD hS 0 rfl rfl 0 (by decide) (hts _ q_fl_X2_11) (fun _ h9 => h9) rfl hin rfl (tyX2_ok 0 (by decide)) rfl rfl (Nat.le_of_ble_eq_true rfl) rfl dX2_init_9 (fun H locs hP hD hS => ?_)
  exact z_retMv (Wf := fun a : Nat → Nat => cl_X2 cI cJ a (fun _ => 0, 0)) (u := fun i => [b, q7].getD i 0) X rfl hP hD hS dX2_init_12
theorem zi_X6 : Cond.instanceMethod yX6_init ∈ zT ∧ Cond.initialized (yX6_init).cls ∈ zT ∧ Cond.code yX6_init cX6_init 1 none ∈ zT ∧ zN yX6_init 0 := ⟨q_im_X6_init, q_in_X6, q_cd_X6_init, ⟨by decide, by decide, by decide +kernel⟩⟩
abbrev rm_X6_init : Room := { frames := 1, cells := 2, slots := 404, locals := 20 }
set_option maxHeartbeats 4000000 in
set_option maxRecDepth 100000 in
theorem c_X6_init (l : Launch) (dC : Nat → ClassId) (dI : Nat → Nat → Nat) (cI cJ cS : ClassId) (b : Nat) : ∀ sz : Nat, Met l yX6_init (Cond.code yX6_init cX6_init 1 none :: zT) rm_X6_init (zPmF zFc dC dI cI cJ cS [(b, .inr (5, [.null, .null, .int 0, .int 0, .int 0, .int 0, .int 0]))] [.ref b] sz) (va_Qv (S := Nat → Nat) (fun a : Nat → Nat => a 0 = b) (zB dC dI cI cJ cS (va_A [(b, .inr (5, [.null, .null, .int 0, .int 0, .int 0, .int 0, .int 0]))] sz) (fun a : Nat → Nat => cl_X6 cI cJ a (fun _ => 0, fun _ => 0, 0, 0, 0, 0, 0))) (va_A [(b, .inr (5, [.null, .null, .int 0, .int 0, .int 0, .int 0, .int 0]))] sz)) 2 404 (va_A [(b, .inr (5, [.null, .null, .int 0, .int 0, .int 0, .int 0, .int 0]))] sz) := by
  intro sz
  refine z_enterC (Qc := fun A => va_Qv (S := Nat → Nat) (fun a : Nat → Nat => a 0 = b) (zB dC dI cI cJ cS A (fun a : Nat → Nat => cl_X6 cI cJ a (fun _ => 0, fun _ => 0, 0, 0, 0, 0, 0))) A) (cc := cX6_init) (maxL := 1) (ret := none) (by decide) rfl (Nat.le_of_ble_eq_true rfl) ?_
  intro p e s m below meth c ls A X hin hP hD hS hA hF hl
  obtain ⟨⟨hx, hb, hml, hown, hts⟩, hr, hlk, hK⟩ := id X
  have hl : lv_has ls 1 [(0, .ref b)] := hl
  refine lv_aload_n hx hb dX6_init_0 rfl (lv_at hl 0 rfl) ?_
  refine z_obj X q_ml_X6_3 hl.1 ⟨Nat.le_of_ble_eq_true rfl, Nat.le_of_ble_eq_true rfl⟩ dX6_init_1 ?_
  refine lv_aload_n hx hb dX6_init_4 rfl (lv_at hl 0 rfl) ?_
  refine lv_sipush (v := 400) hx hb dX6_init_5 (by decide) ?_
  refine z_newI (N := 400) X hP hD hS hA (by decide) (by decide) (Nat.le_of_ble_eq_true rfl) ⟨Nat.le_of_ble_eq_true rfl, Nat.le_of_ble_eq_true rfl⟩ dX6_init_8 (fun q8 H hP hD hS => ?_)
  have hP : va_P (dC, dI) vwCl ([(b, .inr (5, [.null, .null, .int 0, .int 0, .int 0, .int 0, .int 0])), (q8, .inl (cI, 400, .inl (fun _ => 0)))]) H := hP
  have hD : va_D A ([(b, .inr (5, [.null, .null, .int 0, .int 0, .int 0, .int 0, .int 0])), (q8, .inl (cI, 400, .inl (fun _ => 0)))]) := hD
  refine z_putF (w' := [(b, .inr (5, [.ref q8, .null, .int 0, .int 0, .int 0, .int 0, .int 0])), (q8, .inl (cI, 400, .inl (fun _ => 0)))]) (ci := 5) (v := .ref q8) (ty := tyX6 0) (Cn := RX6) (T := TX6) (N := 7) X inX6 tyX6 tyX6_ok nmX6 hP hD hS 0 rfl rfl 0 (by decide) (hts _ q_fl_X6_9) (fun _ h9 => h9) rfl hin rfl (tyX6_ok 0 (by decide)) rfl rfl (Nat.le_of_ble_eq_true rfl) rfl dX6_init_10 (fun H locs hP hD hS => ?_)
  refine lv_aload_n hx hb dX6_init_13 rfl (lv_at hl 0 rfl) ?_
  refine lv_iconst (v := 4) hx hb dX6_init_14 (by decide) ?_
  refine z_newI (N := 4) X hP hD hS hA (by decide) (by decide) (Nat.le_of_ble_eq_true rfl) ⟨Nat.le_of_ble_eq_true rfl, Nat.le_of_ble_eq_true rfl⟩ dX6_init_15 (fun q15 H hP hD hS => ?_)
  have hP : va_P (dC, dI) vwCl ([(b, .inr (5, [.ref q8, .null, .int 0, .int 0, .int 0, .int 0, .int 0])), (q8, .inl (cI, 400, .inl (fun _ => 0))), (q15, .inl (cI, 4, .inl (fun _ => 0)))]) H := hP
  have hD : va_D A ([(b, .inr (5, [.ref q8, .null, .int 0, .int 0, .int 0, .int 0, .int 0])), (q8, .inl (cI, 400, .inl (fun _ => 0))), (q15, .inl (cI, 4, .inl (fun _ => 0)))]) := hD
  refine z_putF (w' := [(b, .inr (5, [.ref q8, .ref q15, .int 0, .int 0, .int 0, .int 0, .int 0])), (q8, .inl (cI, 400, .inl (fun _ => 0))), (q15, .inl (cI, 4, .inl (fun _ => 0)))]) (ci := 5) (v := .ref q15) (ty := tyX6 1) (Cn := RX6) (T := TX6) (N := 7) X inX6 tyX6 tyX6_ok nmX6 hP hD hS 0 rfl rfl 1 (by decide) (hts _ q_fl_X6_15) (fun _ h9 => h9) rfl hin rfl (tyX6_ok 1 (by decide)) rfl rfl (Nat.le_of_ble_eq_true rfl) rfl dX6_init_17 (fun H locs hP hD hS => ?_)
  exact z_retMv (Wf := fun a : Nat → Nat => cl_X6 cI cJ a (fun _ => 0, fun _ => 0, 0, 0, 0, 0, 0)) (u := fun i => [b, q8, q15].getD i 0) X rfl hP hD hS dX6_init_20
