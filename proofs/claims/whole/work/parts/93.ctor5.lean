/-- a State as it is made, and as it begins -/
def zS : zState := ((0, 0, 0, 0), (0, 0, 0, 0, 0), (fun _ => 0, fun _ => 0, fun _ => 0, fun _ => 0, 0), (fun _ => 0, fun _ => 0, 0), (fun _ => 0, -1, 0, 0), (fun _ => 0, 0), 0, 0, 0)
def zS0 : zState := uBegin zS 100 8 6 3
theorem zi_X5 : Cond.instanceMethod yX5_init ∈ zT ∧ Cond.initialized (yX5_init).cls ∈ zT ∧ Cond.code yX5_init cX5_init 1 none ∈ zT ∧ zN yX5_init 0 := ⟨q_im_X5_init, q_in_X5, q_cd_X5_init, ⟨by decide, by decide, by decide +kernel⟩⟩
abbrev rm_X5_init : Room := { frames := 4, cells := 14, slots := 1189, locals := 86 }
set_option maxHeartbeats 4000000 in
set_option maxRecDepth 100000 in
theorem c_X5_init (l : Launch) (dC : Nat → ClassId) (dI : Nat → Nat → Nat) (cI cJ cS : ClassId) (b : Nat) : ∀ sz : Nat, Met l yX5_init (Cond.code yX5_init cX5_init 1 none :: zT) rm_X5_init (zPmF zFc dC dI cI cJ cS [(b, .inr (4, [.null, .null, .null, .null, .null, .null, .int 0, .int 0, .int 0]))] [.ref b] sz) (va_Qv (S := Nat → Nat) (fun a : Nat → Nat => a 0 = b) (zB dC dI cI cJ cS (va_A [(b, .inr (4, [.null, .null, .null, .null, .null, .null, .int 0, .int 0, .int 0]))] sz) (fun a : Nat → Nat => cl_X5 cI cJ a zS0)) (va_A [(b, .inr (4, [.null, .null, .null, .null, .null, .null, .int 0, .int 0, .int 0]))] sz)) 14 1189 (va_A [(b, .inr (4, [.null, .null, .null, .null, .null, .null, .int 0, .int 0, .int 0]))] sz) := by
  intro sz
  refine z_enterC (Qc := fun A => va_Qv (S := Nat → Nat) (fun a : Nat → Nat => a 0 = b) (zB dC dI cI cJ cS A (fun a : Nat → Nat => cl_X5 cI cJ a zS0)) A) (cc := cX5_init) (maxL := 1) (ret := none) (by decide) rfl (Nat.le_of_ble_eq_true rfl) ?_
  intro p e s m below meth c ls A X hin hP hD hS hA hF hl
  obtain ⟨⟨hx, hb, hml, hown, hts⟩, hr, hlk, hK⟩ := id X
  have hl : lv_has ls 1 [(0, .ref b)] := hl
  refine lv_aload_n hx hb dX5_init_0 rfl (lv_at hl 0 rfl) ?_
  refine z_obj X q_ml_X5_3 hl.1 ⟨Nat.le_of_ble_eq_true rfl, Nat.le_of_ble_eq_true rfl⟩ dX5_init_1 ?_
  refine lv_aload_n hx hb dX5_init_4 rfl (lv_at hl 0 rfl) ?_
  refine z_newO (C := RX7) (T := TX7) (N := 4) (ci := 6) (fs := [.int 0, .int 0, .int 0, .int 0]) X inX7 tyX7 tyX7_ok q_cl_X5_9 q_ib_X7 q_in_X7 hP hD hS hA rfl (by decide) ⟨Nat.le_of_ble_eq_true rfl, Nat.le_of_ble_eq_true rfl⟩ dX5_init_5 (fun q H hP hD hS => ?_)
  refine lv_dup hx hb dX5_init_8 rfl ?_
  refine z_cIN (w := [(b, .inr (4, [.null, .null, .null, .null, .null, .null, .int 0, .int 0, .int 0]))]) (host := "AsideStore") X fro_Fc hF (c_X7_init l dC dI cI cJ cS q _) zi_X7 rfl hF.1 ⟨rfl, rfl⟩ ⟨Nat.le_of_ble_eq_true rfl, Nat.le_of_ble_eq_true rfl⟩ hP hD hS hA hl.1 (Nat.le_of_ble_eq_true rfl) ⟨Nat.le_of_ble_eq_true rfl, Nat.le_of_ble_eq_true rfl⟩ dX5_init_9 (fun a0 H1 locs1 ha hP1 hD1 hS1 => ?_)
  subst ha
  have hP : va_P (dC, dI) vwCl (([(b, .inr (4, [.null, .null, .null, .null, .null, .null, .int 0, .int 0, .int 0]))] ++ cl_X7 cI cJ a0 (0, 0, 0, 0))) H1 := hP1
  have hD : va_D A (([(b, .inr (4, [.null, .null, .null, .null, .null, .null, .int 0, .int 0, .int 0]))] ++ cl_X7 cI cJ a0 (0, 0, 0, 0))) := hD1
  have hS := hS1
  refine z_putF (w' := ([(b, .inr (4, [.ref (a0 0), .null, .null, .null, .null, .null, .int 0, .int 0, .int 0]))] ++ cl_X7 cI cJ a0 (0, 0, 0, 0))) (ci := 4) (v := .ref (a0 0)) (ty := tyX5 0) (Cn := RX5) (T := TX5) (N := 9) X inX5 tyX5 tyX5_ok nmX5 hP hD hS 0 rfl rfl 0 (by decide) (hts _ q_fl_X5_12) (fun _ h9 => h9) rfl hin rfl (tyX5_ok 0 (by decide)) rfl rfl (Nat.le_of_ble_eq_true rfl) rfl dX5_init_12 (fun H locs hP hD hS => ?_)
  refine lv_aload_n hx hb dX5_init_15 rfl (lv_at hl 0 rfl) ?_
  refine z_newO (C := RX8) (T := TX8) (N := 5) (ci := 7) (fs := [.int 0, .int 0, .int 0, .int 0, .int 0]) X inX8 tyX8 tyX8_ok q_cl_X5_18 q_ib_X8 q_in_X8 hP hD hS hA rfl (by decide) ⟨Nat.le_of_ble_eq_true rfl, Nat.le_of_ble_eq_true rfl⟩ dX5_init_16 (fun q H hP hD hS => ?_)
  refine lv_dup hx hb dX5_init_19 rfl ?_
  refine z_cIN (w := ([(b, .inr (4, [.ref (a0 0), .null, .null, .null, .null, .null, .int 0, .int 0, .int 0]))] ++ cl_X7 cI cJ a0 (0, 0, 0, 0))) (host := "AsideStore") X fro_Fc hF (c_X8_init l dC dI cI cJ cS q _) zi_X8 rfl hF.2.1 ⟨rfl, rfl⟩ ⟨Nat.le_of_ble_eq_true rfl, Nat.le_of_ble_eq_true rfl⟩ hP hD hS hA hl.1 (Nat.le_of_ble_eq_true rfl) ⟨Nat.le_of_ble_eq_true rfl, Nat.le_of_ble_eq_true rfl⟩ dX5_init_20 (fun a1 H1 locs1 ha hP1 hD1 hS1 => ?_)
  subst ha
  have hP : va_P (dC, dI) vwCl ((([(b, .inr (4, [.ref (a0 0), .null, .null, .null, .null, .null, .int 0, .int 0, .int 0]))] ++ cl_X7 cI cJ a0 (0, 0, 0, 0)) ++ cl_X8 cI cJ a1 (0, 0, 0, 0, 0))) H1 := hP1
  have hD : va_D A ((([(b, .inr (4, [.ref (a0 0), .null, .null, .null, .null, .null, .int 0, .int 0, .int 0]))] ++ cl_X7 cI cJ a0 (0, 0, 0, 0)) ++ cl_X8 cI cJ a1 (0, 0, 0, 0, 0))) := hD1
  have hS := hS1
  refine z_putF (w' := (([(b, .inr (4, [.ref (a0 0), .ref (a1 0), .null, .null, .null, .null, .int 0, .int 0, .int 0]))] ++ cl_X7 cI cJ a0 (0, 0, 0, 0)) ++ cl_X8 cI cJ a1 (0, 0, 0, 0, 0))) (ci := 4) (v := .ref (a1 0)) (ty := tyX5 1) (Cn := RX5) (T := TX5) (N := 9) X inX5 tyX5 tyX5_ok nmX5 hP hD hS 0 rfl rfl 1 (by decide) (hts _ q_fl_X5_21) (fun _ h9 => h9) rfl hin rfl (tyX5_ok 1 (by decide)) rfl rfl (Nat.le_of_ble_eq_true rfl) rfl dX5_init_23 (fun H locs hP hD hS => ?_)
  refine lv_aload_n hx hb dX5_init_26 rfl (lv_at hl 0 rfl) ?_
  refine z_newO (C := RX4) (T := TX4) (N := 5) (ci := 3) (fs := [.null, .null, .null, .null, .int 0]) X inX4 tyX4 tyX4_ok q_cl_X5_25 q_ib_X4 q_in_X4 hP hD hS hA rfl (by decide) ⟨Nat.le_of_ble_eq_true rfl, Nat.le_of_ble_eq_true rfl⟩ dX5_init_27 (fun q H hP hD hS => ?_)
  refine lv_dup hx hb dX5_init_30 rfl ?_
  refine z_cIN (w := (([(b, .inr (4, [.ref (a0 0), .ref (a1 0), .null, .null, .null, .null, .int 0, .int 0, .int 0]))] ++ cl_X7 cI cJ a0 (0, 0, 0, 0)) ++ cl_X8 cI cJ a1 (0, 0, 0, 0, 0))) (host := "AsideStore") X fro_Fc hF (c_X4_init l dC dI cI cJ cS q _) zi_X4 rfl hF.2.2.1 ⟨rfl, rfl⟩ ⟨Nat.le_of_ble_eq_true rfl, Nat.le_of_ble_eq_true rfl⟩ hP hD hS hA hl.1 (Nat.le_of_ble_eq_true rfl) ⟨Nat.le_of_ble_eq_true rfl, Nat.le_of_ble_eq_true rfl⟩ dX5_init_31 (fun a2 H1 locs1 ha hP1 hD1 hS1 => ?_)
  subst ha
  have hP : va_P (dC, dI) vwCl (((([(b, .inr (4, [.ref (a0 0), .ref (a1 0), .null, .null, .null, .null, .int 0, .int 0, .int 0]))] ++ cl_X7 cI cJ a0 (0, 0, 0, 0)) ++ cl_X8 cI cJ a1 (0, 0, 0, 0, 0)) ++ cl_X4 cI cJ a2 (fun _ => 0, fun _ => 0, fun _ => 0, fun _ => 0, 0))) H1 := hP1
  have hD : va_D A (((([(b, .inr (4, [.ref (a0 0), .ref (a1 0), .null, .null, .null, .null, .int 0, .int 0, .int 0]))] ++ cl_X7 cI cJ a0 (0, 0, 0, 0)) ++ cl_X8 cI cJ a1 (0, 0, 0, 0, 0)) ++ cl_X4 cI cJ a2 (fun _ => 0, fun _ => 0, fun _ => 0, fun _ => 0, 0))) := hD1
  have hS := hS1
  refine z_putF (w' := ((([(b, .inr (4, [.ref (a0 0), .ref (a1 0), .ref (a2 0), .null, .null, .null, .int 0, .int 0, .int 0]))] ++ cl_X7 cI cJ a0 (0, 0, 0, 0)) ++ cl_X8 cI cJ a1 (0, 0, 0, 0, 0)) ++ cl_X4 cI cJ a2 (fun _ => 0, fun _ => 0, fun _ => 0, fun _ => 0, 0))) (ci := 4) (v := .ref (a2 0)) (ty := tyX5 2) (Cn := RX5) (T := TX5) (N := 9) X inX5 tyX5 tyX5_ok nmX5 hP hD hS 0 rfl rfl 2 (by decide) (hts _ q_fl_X5_28) (fun _ h9 => h9) rfl hin rfl (tyX5_ok 2 (by decide)) rfl rfl (Nat.le_of_ble_eq_true rfl) rfl dX5_init_34 (fun H locs hP hD hS => ?_)
  refine lv_aload_n hx hb dX5_init_37 rfl (lv_at hl 0 rfl) ?_
  refine z_newO (C := RX9) (T := TX9) (N := 3) (ci := 8) (fs := [.null, .null, .int 0]) X inX9 tyX9 tyX9_ok q_cl_X5_32 q_ib_X9 q_in_X9 hP hD hS hA rfl (by decide) ⟨Nat.le_of_ble_eq_true rfl, Nat.le_of_ble_eq_true rfl⟩ dX5_init_38 (fun q H hP hD hS => ?_)
  refine lv_dup hx hb dX5_init_41 rfl ?_
  refine z_cIN (w := ((([(b, .inr (4, [.ref (a0 0), .ref (a1 0), .ref (a2 0), .null, .null, .null, .int 0, .int 0, .int 0]))] ++ cl_X7 cI cJ a0 (0, 0, 0, 0)) ++ cl_X8 cI cJ a1 (0, 0, 0, 0, 0)) ++ cl_X4 cI cJ a2 (fun _ => 0, fun _ => 0, fun _ => 0, fun _ => 0, 0))) (host := "AsideStore") X fro_Fc hF (c_X9_init l dC dI cI cJ cS q _) zi_X9 rfl hF.2.2.2.1 ⟨rfl, rfl⟩ ⟨Nat.le_of_ble_eq_true rfl, Nat.le_of_ble_eq_true rfl⟩ hP hD hS hA hl.1 (Nat.le_of_ble_eq_true rfl) ⟨Nat.le_of_ble_eq_true rfl, Nat.le_of_ble_eq_true rfl⟩ dX5_init_42 (fun a3 H1 locs1 ha hP1 hD1 hS1 => ?_)
  subst ha
  have hP : va_P (dC, dI) vwCl ((((([(b, .inr (4, [.ref (a0 0), .ref (a1 0), .ref (a2 0), .null, .null, .null, .int 0, .int 0, .int 0]))] ++ cl_X7 cI cJ a0 (0, 0, 0, 0)) ++ cl_X8 cI cJ a1 (0, 0, 0, 0, 0)) ++ cl_X4 cI cJ a2 (fun _ => 0, fun _ => 0, fun _ => 0, fun _ => 0, 0)) ++ cl_X9 cI cJ a3 (fun _ => 0, fun _ => 0, 0))) H1 := hP1
  have hD : va_D A ((((([(b, .inr (4, [.ref (a0 0), .ref (a1 0), .ref (a2 0), .null, .null, .null, .int 0, .int 0, .int 0]))] ++ cl_X7 cI cJ a0 (0, 0, 0, 0)) ++ cl_X8 cI cJ a1 (0, 0, 0, 0, 0)) ++ cl_X4 cI cJ a2 (fun _ => 0, fun _ => 0, fun _ => 0, fun _ => 0, 0)) ++ cl_X9 cI cJ a3 (fun _ => 0, fun _ => 0, 0))) := hD1
  have hS := hS1
  refine z_putF (w' := (((([(b, .inr (4, [.ref (a0 0), .ref (a1 0), .ref (a2 0), .ref (a3 0), .null, .null, .int 0, .int 0, .int 0]))] ++ cl_X7 cI cJ a0 (0, 0, 0, 0)) ++ cl_X8 cI cJ a1 (0, 0, 0, 0, 0)) ++ cl_X4 cI cJ a2 (fun _ => 0, fun _ => 0, fun _ => 0, fun _ => 0, 0)) ++ cl_X9 cI cJ a3 (fun _ => 0, fun _ => 0, 0))) (ci := 4) (v := .ref (a3 0)) (ty := tyX5 3) (Cn := RX5) (T := TX5) (N := 9) X inX5 tyX5 tyX5_ok nmX5 hP hD hS 0 rfl rfl 3 (by decide) (hts _ q_fl_X5_35) (fun _ h9 => h9) rfl hin rfl (tyX5_ok 3 (by decide)) rfl rfl (Nat.le_of_ble_eq_true rfl) rfl dX5_init_45 (fun H locs hP hD hS => ?_)
  refine lv_aload_n hx hb dX5_init_48 rfl (lv_at hl 0 rfl) ?_
  refine z_newO (C := RX1) (T := TX1) (N := 4) (ci := 0) (fs := [.null, .int 0, .int 0, .int 0]) X inX1 tyX1 tyX1_ok q_cl_X5_39 q_ib_X1 q_in_X1 hP hD hS hA rfl (by decide) ⟨Nat.le_of_ble_eq_true rfl, Nat.le_of_ble_eq_true rfl⟩ dX5_init_49 (fun q H hP hD hS => ?_)
  refine lv_dup hx hb dX5_init_52 rfl ?_
  refine z_cIN (w := (((([(b, .inr (4, [.ref (a0 0), .ref (a1 0), .ref (a2 0), .ref (a3 0), .null, .null, .int 0, .int 0, .int 0]))] ++ cl_X7 cI cJ a0 (0, 0, 0, 0)) ++ cl_X8 cI cJ a1 (0, 0, 0, 0, 0)) ++ cl_X4 cI cJ a2 (fun _ => 0, fun _ => 0, fun _ => 0, fun _ => 0, 0)) ++ cl_X9 cI cJ a3 (fun _ => 0, fun _ => 0, 0))) (host := "AsideStore") X fro_Fc hF (c_X1_init l dC dI cI cJ cS q _) zi_X1 rfl hF.2.2.2.2.1 ⟨rfl, rfl⟩ ⟨Nat.le_of_ble_eq_true rfl, Nat.le_of_ble_eq_true rfl⟩ hP hD hS hA hl.1 (Nat.le_of_ble_eq_true rfl) ⟨Nat.le_of_ble_eq_true rfl, Nat.le_of_ble_eq_true rfl⟩ dX5_init_53 (fun a4 H1 locs1 ha hP1 hD1 hS1 => ?_)
  subst ha
  have hP : va_P (dC, dI) vwCl (((((([(b, .inr (4, [.ref (a0 0), .ref (a1 0), .ref (a2 0), .ref (a3 0), .null, .null, .int 0, .int 0, .int 0]))] ++ cl_X7 cI cJ a0 (0, 0, 0, 0)) ++ cl_X8 cI cJ a1 (0, 0, 0, 0, 0)) ++ cl_X4 cI cJ a2 (fun _ => 0, fun _ => 0, fun _ => 0, fun _ => 0, 0)) ++ cl_X9 cI cJ a3 (fun _ => 0, fun _ => 0, 0)) ++ cl_X1 cI cJ a4 (fun _ => 0, -1, 0, 0))) H1 := hP1
  have hD : va_D A (((((([(b, .inr (4, [.ref (a0 0), .ref (a1 0), .ref (a2 0), .ref (a3 0), .null, .null, .int 0, .int 0, .int 0]))] ++ cl_X7 cI cJ a0 (0, 0, 0, 0)) ++ cl_X8 cI cJ a1 (0, 0, 0, 0, 0)) ++ cl_X4 cI cJ a2 (fun _ => 0, fun _ => 0, fun _ => 0, fun _ => 0, 0)) ++ cl_X9 cI cJ a3 (fun _ => 0, fun _ => 0, 0)) ++ cl_X1 cI cJ a4 (fun _ => 0, -1, 0, 0))) := hD1
  have hS := hS1
  refine z_putF (w' := ((((([(b, .inr (4, [.ref (a0 0), .ref (a1 0), .ref (a2 0), .ref (a3 0), .ref (a4 0), .null, .int 0, .int 0, .int 0]))] ++ cl_X7 cI cJ a0 (0, 0, 0, 0)) ++ cl_X8 cI cJ a1 (0, 0, 0, 0, 0)) ++ cl_X4 cI cJ a2 (fun _ => 0, fun _ => 0, fun _ => 0, fun _ => 0, 0)) ++ cl_X9 cI cJ a3 (fun _ => 0, fun _ => 0, 0)) ++ cl_X1 cI cJ a4 (fun _ => 0, -1, 0, 0))) (ci := 4) (v := .ref (a4 0)) (ty := tyX5 4) (Cn := RX5) (T := TX5) (N := 9) X inX5 tyX5 tyX5_ok nmX5 hP hD hS 0 rfl rfl 4 (by decide) (hts _ q_fl_X5_42) (fun _ h9 => h9) rfl hin rfl (tyX5_ok 4 (by decide)) rfl rfl (Nat.le_of_ble_eq_true rfl) rfl dX5_init_56 (fun H locs hP hD hS => ?_)
  refine lv_aload_n hx hb dX5_init_59 rfl (lv_at hl 0 rfl) ?_
  refine z_newO (C := RX2) (T := TX2) (N := 2) (ci := 1) (fs := [.null, .int 0]) X inX2 tyX2 tyX2_ok q_cl_X5_46 q_ib_X2 q_in_X2 hP hD hS hA rfl (by decide) ⟨Nat.le_of_ble_eq_true rfl, Nat.le_of_ble_eq_true rfl⟩ dX5_init_60 (fun q H hP hD hS => ?_)
  refine lv_dup hx hb dX5_init_63 rfl ?_
  refine z_cIN (w := ((((([(b, .inr (4, [.ref (a0 0), .ref (a1 0), .ref (a2 0), .ref (a3 0), .ref (a4 0), .null, .int 0, .int 0, .int 0]))] ++ cl_X7 cI cJ a0 (0, 0, 0, 0)) ++ cl_X8 cI cJ a1 (0, 0, 0, 0, 0)) ++ cl_X4 cI cJ a2 (fun _ => 0, fun _ => 0, fun _ => 0, fun _ => 0, 0)) ++ cl_X9 cI cJ a3 (fun _ => 0, fun _ => 0, 0)) ++ cl_X1 cI cJ a4 (fun _ => 0, -1, 0, 0))) (host := "AsideStore") X fro_Fc hF (c_X2_init l dC dI cI cJ cS q _) zi_X2 rfl hF.2.2.2.2.2.1 ⟨rfl, rfl⟩ ⟨Nat.le_of_ble_eq_true rfl, Nat.le_of_ble_eq_true rfl⟩ hP hD hS hA hl.1 (Nat.le_of_ble_eq_true rfl) ⟨Nat.le_of_ble_eq_true rfl, Nat.le_of_ble_eq_true rfl⟩ dX5_init_64 (fun a5 H1 locs1 ha hP1 hD1 hS1 => ?_)
  subst ha
  have hP : va_P (dC, dI) vwCl ((((((([(b, .inr (4, [.ref (a0 0), .ref (a1 0), .ref (a2 0), .ref (a3 0), .ref (a4 0), .null, .int 0, .int 0, .int 0]))] ++ cl_X7 cI cJ a0 (0, 0, 0, 0)) ++ cl_X8 cI cJ a1 (0, 0, 0, 0, 0)) ++ cl_X4 cI cJ a2 (fun _ => 0, fun _ => 0, fun _ => 0, fun _ => 0, 0)) ++ cl_X9 cI cJ a3 (fun _ => 0, fun _ => 0, 0)) ++ cl_X1 cI cJ a4 (fun _ => 0, -1, 0, 0)) ++ cl_X2 cI cJ a5 (fun _ => 0, 0))) H1 := hP1
  have hD : va_D A ((((((([(b, .inr (4, [.ref (a0 0), .ref (a1 0), .ref (a2 0), .ref (a3 0), .ref (a4 0), .null, .int 0, .int 0, .int 0]))] ++ cl_X7 cI cJ a0 (0, 0, 0, 0)) ++ cl_X8 cI cJ a1 (0, 0, 0, 0, 0)) ++ cl_X4 cI cJ a2 (fun _ => 0, fun _ => 0, fun _ => 0, fun _ => 0, 0)) ++ cl_X9 cI cJ a3 (fun _ => 0, fun _ => 0, 0)) ++ cl_X1 cI cJ a4 (fun _ => 0, -1, 0, 0)) ++ cl_X2 cI cJ a5 (fun _ => 0, 0))) := hD1
  have hS := hS1
  refine z_putF (w' := (((((([(b, .inr (4, [.ref (a0 0), .ref (a1 0), .ref (a2 0), .ref (a3 0), .ref (a4 0), .ref (a5 0), .int 0, .int 0, .int 0]))] ++ cl_X7 cI cJ a0 (0, 0, 0, 0)) ++ cl_X8 cI cJ a1 (0, 0, 0, 0, 0)) ++ cl_X4 cI cJ a2 (fun _ => 0, fun _ => 0, fun _ => 0, fun _ => 0, 0)) ++ cl_X9 cI cJ a3 (fun _ => 0, fun _ => 0, 0)) ++ cl_X1 cI cJ a4 (fun _ => 0, -1, 0, 0)) ++ cl_X2 cI cJ a5 (fun _ => 0, 0))) (ci := 4) (v := .ref (a5 0)) (ty := tyX5 5) (Cn := RX5) (T := TX5) (N := 9) X inX5 tyX5 tyX5_ok nmX5 hP hD hS 0 rfl rfl 5 (by decide) (hts _ q_fl_X5_49) (fun _ h9 => h9) rfl hin rfl (tyX5_ok 5 (by decide)) rfl rfl (Nat.le_of_ble_eq_true rfl) rfl dX5_init_67 (fun H locs hP hD hS => ?_)
  obtain ⟨a, ea⟩ : ∃ a : Nat → Nat, a = fun i => if i = 0 then b else if i < 2 then a0 (i - 1) else if i < 3 then a1 (i - 2) else if i < 8 then a2 (i - 3) else if i < 11 then a3 (i - 8) else if i < 13 then a4 (i - 11) else a5 (i - 13) := ⟨_, rfl⟩
  have hP : va_P (dC, dI) vwCl (cl_X5 cI cJ a zS) H := by rw [ea]; exact hP
  have hD : va_D A (cl_X5 cI cJ a zS) := by rw [ea]; exact hD
  have hb0 : b = a 0 := by rw [ea]; rfl
  refine lv_aload_n hx hb dX5_init_70 rfl (lv_at hl 0 rfl) ?_
  refine lv_bipush (v := 100) hx hb dX5_init_71 (by decide) ?_
  refine lv_bipush (v := 8) hx hb dX5_init_73 (by decide) ?_
  refine lv_bipush (v := 6) hx hb dX5_init_75 (by decide) ?_
  refine lv_iconst (v := 3) hx hb dX5_init_77 (by decide) ?_
  refine z_pVv (Wn := fun z => cl_X5 cI cJ a z) (As := [.int 100, .int 8, .int 6, .int 3]) (rest := []) (wr := []) X (c_X5_begin l dC dI cI cJ cS a zS 100 8 6 3 (fun z => z = zS0) rfl _) zc_X5_begin q_ml_X5_53 ⟨rfl, rfl⟩ ⟨Nat.le_of_ble_eq_true rfl, Nat.le_of_ble_eq_true rfl⟩ hP hD hS hA (List.Perm.refl _) (fun _ => List.Perm.refl _) 4 rfl rfl hl.1 rfl (by rw [hb0]; rfl) (Nat.le_of_ble_eq_true rfl) ⟨Nat.le_of_ble_eq_true rfl, Nat.le_of_ble_eq_true rfl⟩ dX5_init_78 (fun z H locs hz hP hD hS => ?_)
  subst hz
  exact z_retMv (Wf := fun a : Nat → Nat => cl_X5 cI cJ a zS0) (u := a) X hb0.symm hP hD hS dX5_init_81
