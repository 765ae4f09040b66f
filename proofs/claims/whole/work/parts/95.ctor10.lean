/-- the class as it begins -/
def zC0 : zCls := (zS0, zS0, zS0, 0, zMem0, (fun _ => 0, fun _ => 0, 0, 0, 0, 0, 0), fun _ => 0, -1, 0)
theorem zC0_ok : cG zG0 zC0 := ⟨rfl, ⟨rfl, fun q => absurd q (show ¬ (0 : Int32) = 1 by decide), ⟨0, by decide, rfl, rfl, fun i hi => absurd hi (Nat.not_lt_zero i)⟩, ⟨rfl, fun j hj => absurd hj (Nat.not_lt_zero j)⟩, rfl⟩, rfl⟩
theorem px_ctor (o : Nat × va_E) (n p k m t g : va_W) : List.Perm (((((([o] ++ n) ++ p) ++ k) ++ m) ++ t) ++ g) (o :: (n ++ (p ++ (k ++ (t ++ (g ++ m)))))) := by
  have e : (((((([o] ++ n) ++ p) ++ k) ++ m) ++ t) ++ g) = o :: (n ++ (p ++ (k ++ (m ++ (t ++ g))))) := by
    simp only [List.append_assoc, List.cons_append, List.nil_append]
  rw [e]
  refine List.Perm.cons o (List.Perm.append_left n (List.Perm.append_left p (List.Perm.append_left k ?_)))
  rw [← List.append_assoc t g m]
  exact List.perm_append_comm
/-- where all lies -/
def adX (b : Nat) (a0 a1 a2 a3 a4 : Nat → Nat) (q : Nat) : Nat → Nat := fun k => if k = 0 then b else if k < 16 then a0 (k - 1) else if k < 31 then a1 (k - 16) else if k < 46 then a2 (k - 31) else if k < 49 then a4 (k - 46) else if k = 49 then q else a3 (k - 50)
theorem mkX_done (cI cJ cS : ClassId) (b : Nat) (a0 a1 a2 a3 a4 : Nat → Nat) (q : Nat) (u : zCls) : cl_X10 cI cJ cS (adX b a0 a1 a2 a3 a4 q) u = (b, .inr (9, [.ref (a0 0), .ref (a1 0), .ref (a2 0), .int u.2.2.2.1, .ref (a3 0), .ref (a4 0), .ref q, .int u.2.2.2.2.2.2.2.1, .int u.2.2.2.2.2.2.2.2])) :: (cl_X5 cI cJ a0 u.1 ++ (cl_X5 cI cJ a1 u.2.1 ++ (cl_X5 cI cJ a2 u.2.2.1 ++ (cl_X6 cI cJ a4 u.2.2.2.2.2.1 ++ ([(q, .inl (cI, 64, .inl u.2.2.2.2.2.2.1))] ++ (cl_X3 cI cJ cS a3 u.2.2.2.2.1)))))) := by
  have h1 : cl_X5 cI cJ (fun i => adX b a0 a1 a2 a3 a4 q (1 + i)) u.1 = cl_X5 cI cJ a0 u.1 := cl_X5_c cI cJ u.1 (fun j hj => by unfold adX; rw [if_neg (by omega), if_pos (by omega), show 1 + j - 1 = j by omega])
  have h2 : cl_X5 cI cJ (fun i => adX b a0 a1 a2 a3 a4 q (16 + i)) u.2.1 = cl_X5 cI cJ a1 u.2.1 := cl_X5_c cI cJ u.2.1 (fun j hj => by unfold adX; rw [if_neg (by omega), if_neg (by omega), if_pos (by omega), show 16 + j - 16 = j by omega])
  have h3 : cl_X5 cI cJ (fun i => adX b a0 a1 a2 a3 a4 q (31 + i)) u.2.2.1 = cl_X5 cI cJ a2 u.2.2.1 := cl_X5_c cI cJ u.2.2.1 (fun j hj => by unfold adX; rw [if_neg (by omega), if_neg (by omega), if_neg (by omega), if_pos (by omega), show 31 + j - 31 = j by omega])
  have h4 : cl_X6 cI cJ (fun i => adX b a0 a1 a2 a3 a4 q (46 + i)) u.2.2.2.2.2.1 = cl_X6 cI cJ a4 u.2.2.2.2.2.1 := cl_X6_c cI cJ u.2.2.2.2.2.1 (fun j hj => by unfold adX; rw [if_neg (by omega), if_neg (by omega), if_neg (by omega), if_neg (by omega), if_pos (by omega), show 46 + j - 46 = j by omega])
  have h5 : (fun i => adX b a0 a1 a2 a3 a4 q (50 + i)) = a3 := funext (fun j => by unfold adX; rw [if_neg (by omega), if_neg (by omega), if_neg (by omega), if_neg (by omega), if_neg (by omega), if_neg (by omega), show 50 + j - 50 = j by omega])
  have h6 : cl_X3 cI cJ cS (fun i => adX b a0 a1 a2 a3 a4 q (50 + i)) u.2.2.2.2.1 = cl_X3 cI cJ cS a3 u.2.2.2.2.1 := by rw [h5]
  show (b, .inr (9, [.ref (a0 0), .ref (a1 0), .ref (a2 0), .int u.2.2.2.1, .ref (a3 0), .ref (a4 0), .ref q, .int u.2.2.2.2.2.2.2.1, .int u.2.2.2.2.2.2.2.2])) :: (cl_X5 cI cJ (fun i => adX b a0 a1 a2 a3 a4 q (1 + i)) u.1 ++ (cl_X5 cI cJ (fun i => adX b a0 a1 a2 a3 a4 q (16 + i)) u.2.1 ++ (cl_X5 cI cJ (fun i => adX b a0 a1 a2 a3 a4 q (31 + i)) u.2.2.1 ++ (cl_X6 cI cJ (fun i => adX b a0 a1 a2 a3 a4 q (46 + i)) u.2.2.2.2.2.1 ++ ([(q, .inl (cI, 64, .inl u.2.2.2.2.2.2.1))] ++ (cl_X3 cI cJ cS (fun i => adX b a0 a1 a2 a3 a4 q (50 + i)) u.2.2.2.2.1)))))) = _
  rw [h1, h2, h3, h4, h6]
theorem zi_X10 : Cond.instanceMethod yX10_init ∈ zT ∧ Cond.initialized (yX10_init).cls ∈ zT ∧ Cond.code yX10_init cX10_init 1 none ∈ zT ∧ zN yX10_init 0 := ⟨q_im_X10_init, q_in_X10, q_cd_X10_init, ⟨by decide, by decide, by decide +kernel⟩⟩
abbrev rm_X10_init : Room := { frames := 6, cells := 171, slots := 13664, locals := 127 }
set_option maxHeartbeats 4000000 in
set_option maxRecDepth 100000 in
theorem c_X10_init (l : Launch) (dC : Nat → ClassId) (dI : Nat → Nat → Nat) (cI cJ cS : ClassId) (b : Nat) : ∀ sz : Nat, Met l yX10_init (Cond.code yX10_init cX10_init 1 none :: zT) rm_X10_init (zPmF zFc dC dI cI cJ cS [(b, .inr (9, [.null, .null, .null, .int 0, .null, .null, .null, .int 0, .int 0]))] [.ref b] sz) (va_Qv (S := (Nat → Nat) × zCls) (fun z : (Nat → Nat) × zCls => z.1 0 = b ∧ cG zG0 z.2) (zB dC dI cI cJ cS (va_A [(b, .inr (9, [.null, .null, .null, .int 0, .null, .null, .null, .int 0, .int 0]))] sz) (fun z : (Nat → Nat) × zCls => cl_X10 cI cJ cS z.1 z.2)) (va_A [(b, .inr (9, [.null, .null, .null, .int 0, .null, .null, .null, .int 0, .int 0]))] sz)) 171 13664 (va_A [(b, .inr (9, [.null, .null, .null, .int 0, .null, .null, .null, .int 0, .int 0]))] sz) := by
  intro sz
  refine z_enterC (Qc := fun A => va_Qv (S := (Nat → Nat) × zCls) (fun z : (Nat → Nat) × zCls => z.1 0 = b ∧ cG zG0 z.2) (zB dC dI cI cJ cS A (fun z : (Nat → Nat) × zCls => cl_X10 cI cJ cS z.1 z.2)) A) (cc := cX10_init) (maxL := 1) (ret := none) (by decide) rfl (Nat.le_of_ble_eq_true rfl) ?_
  intro p e s m below meth c ls A X hin hP hD hS hA hF hl
  obtain ⟨⟨hx, hb, hml, hown, hts⟩, hr, hlk, hK⟩ := id X
  have hl : lv_has ls 1 [(0, .ref b)] := hl
  refine lv_aload_n hx hb dX10_init_0 rfl (lv_at hl 0 rfl) ?_
  refine z_obj X q_ml_X10_1 hl.1 ⟨Nat.le_of_ble_eq_true rfl, Nat.le_of_ble_eq_true rfl⟩ dX10_init_1 ?_
  refine lv_aload_n hx hb dX10_init_4 rfl (lv_at hl 0 rfl) ?_
  refine z_newO (C := RX5) (T := TX5) (N := 9) (ci := 4) (fs := [.null, .null, .null, .null, .null, .null, .int 0, .int 0, .int 0]) X inX5 tyX5 tyX5_ok q_cl_X10_7 q_ib_X5 q_in_X5 hP hD hS hA rfl (by decide) ⟨Nat.le_of_ble_eq_true rfl, Nat.le_of_ble_eq_true rfl⟩ dX10_init_5 (fun q H hP hD hS => ?_)
  refine lv_dup hx hb dX10_init_8 rfl ?_
  refine z_cI (w := [(b, .inr (9, [.null, .null, .null, .int 0, .null, .null, .null, .int 0, .int 0]))]) X fro_Fc hF (c_X5_init l dC dI cI cJ cS q _) zi_X5 rfl q_ml_X10_9 ⟨rfl, rfl⟩ ⟨Nat.le_of_ble_eq_true rfl, Nat.le_of_ble_eq_true rfl⟩ hP hD hS hA hl.1 (Nat.le_of_ble_eq_true rfl) ⟨Nat.le_of_ble_eq_true rfl, Nat.le_of_ble_eq_true rfl⟩ dX10_init_9 (fun a0 H1 locs1 ha hP1 hD1 hS1 => ?_)
  subst ha
  have hP : va_P (dC, dI) vwCl (([(b, .inr (9, [.null, .null, .null, .int 0, .null, .null, .null, .int 0, .int 0]))] ++ cl_X5 cI cJ a0 zS0)) H1 := hP1
  have hD : va_D A (([(b, .inr (9, [.null, .null, .null, .int 0, .null, .null, .null, .int 0, .int 0]))] ++ cl_X5 cI cJ a0 zS0)) := hD1
  have hS := hS1
  refine z_putF (w' := ([(b, .inr (9, [.ref (a0 0), .null, .null, .int 0, .null, .null, .null, .int 0, .int 0]))] ++ cl_X5 cI cJ a0 zS0)) (ci := 9) (v := .ref (a0 0)) (ty := tyX10 0) (Cn := RX10) (T := TX10) (N := 9) X inX10 tyX10 tyX10_ok nmX10 hP hD hS 0 rfl rfl 0 (by decide) (hts _ q_fl_X10_10) (fun _ h9 => h9) rfl hin rfl (tyX10_ok 0 (by decide)) rfl rfl (Nat.le_of_ble_eq_true rfl) rfl dX10_init_12 (fun H locs hP hD hS => ?_)
  refine lv_aload_n hx hb dX10_init_15 rfl (lv_at hl 0 rfl) ?_
  refine z_newO (C := RX5) (T := TX5) (N := 9) (ci := 4) (fs := [.null, .null, .null, .null, .null, .null, .int 0, .int 0, .int 0]) X inX5 tyX5 tyX5_ok q_cl_X10_7 q_ib_X5 q_in_X5 hP hD hS hA rfl (by decide) ⟨Nat.le_of_ble_eq_true rfl, Nat.le_of_ble_eq_true rfl⟩ dX10_init_16 (fun q H hP hD hS => ?_)
  refine lv_dup hx hb dX10_init_19 rfl ?_
  refine z_cI (w := ([(b, .inr (9, [.ref (a0 0), .null, .null, .int 0, .null, .null, .null, .int 0, .int 0]))] ++ cl_X5 cI cJ a0 zS0)) X fro_Fc hF (c_X5_init l dC dI cI cJ cS q _) zi_X5 rfl q_ml_X10_9 ⟨rfl, rfl⟩ ⟨Nat.le_of_ble_eq_true rfl, Nat.le_of_ble_eq_true rfl⟩ hP hD hS hA hl.1 (Nat.le_of_ble_eq_true rfl) ⟨Nat.le_of_ble_eq_true rfl, Nat.le_of_ble_eq_true rfl⟩ dX10_init_20 (fun a1 H1 locs1 ha hP1 hD1 hS1 => ?_)
  subst ha
  have hP : va_P (dC, dI) vwCl ((([(b, .inr (9, [.ref (a0 0), .null, .null, .int 0, .null, .null, .null, .int 0, .int 0]))] ++ cl_X5 cI cJ a0 zS0) ++ cl_X5 cI cJ a1 zS0)) H1 := hP1
  have hD : va_D A ((([(b, .inr (9, [.ref (a0 0), .null, .null, .int 0, .null, .null, .null, .int 0, .int 0]))] ++ cl_X5 cI cJ a0 zS0) ++ cl_X5 cI cJ a1 zS0)) := hD1
  have hS := hS1
  refine z_putF (w' := (([(b, .inr (9, [.ref (a0 0), .ref (a1 0), .null, .int 0, .null, .null, .null, .int 0, .int 0]))] ++ cl_X5 cI cJ a0 zS0) ++ cl_X5 cI cJ a1 zS0)) (ci := 9) (v := .ref (a1 0)) (ty := tyX10 1) (Cn := RX10) (T := TX10) (N := 9) X inX10 tyX10 tyX10_ok nmX10 hP hD hS 0 rfl rfl 1 (by decide) (hts _ q_fl_X10_16) (fun _ h9 => h9) rfl hin rfl (tyX10_ok 1 (by decide)) rfl rfl (Nat.le_of_ble_eq_true rfl) rfl dX10_init_23 (fun H locs hP hD hS => ?_)
  refine lv_aload_n hx hb dX10_init_26 rfl (lv_at hl 0 rfl) ?_
  refine z_newO (C := RX5) (T := TX5) (N := 9) (ci := 4) (fs := [.null, .null, .null, .null, .null, .null, .int 0, .int 0, .int 0]) X inX5 tyX5 tyX5_ok q_cl_X10_7 q_ib_X5 q_in_X5 hP hD hS hA rfl (by decide) ⟨Nat.le_of_ble_eq_true rfl, Nat.le_of_ble_eq_true rfl⟩ dX10_init_27 (fun q H hP hD hS => ?_)
  refine lv_dup hx hb dX10_init_30 rfl ?_
  refine z_cI (w := (([(b, .inr (9, [.ref (a0 0), .ref (a1 0), .null, .int 0, .null, .null, .null, .int 0, .int 0]))] ++ cl_X5 cI cJ a0 zS0) ++ cl_X5 cI cJ a1 zS0)) X fro_Fc hF (c_X5_init l dC dI cI cJ cS q _) zi_X5 rfl q_ml_X10_9 ⟨rfl, rfl⟩ ⟨Nat.le_of_ble_eq_true rfl, Nat.le_of_ble_eq_true rfl⟩ hP hD hS hA hl.1 (Nat.le_of_ble_eq_true rfl) ⟨Nat.le_of_ble_eq_true rfl, Nat.le_of_ble_eq_true rfl⟩ dX10_init_31 (fun a2 H1 locs1 ha hP1 hD1 hS1 => ?_)
  subst ha
  have hP : va_P (dC, dI) vwCl (((([(b, .inr (9, [.ref (a0 0), .ref (a1 0), .null, .int 0, .null, .null, .null, .int 0, .int 0]))] ++ cl_X5 cI cJ a0 zS0) ++ cl_X5 cI cJ a1 zS0) ++ cl_X5 cI cJ a2 zS0)) H1 := hP1
  have hD : va_D A (((([(b, .inr (9, [.ref (a0 0), .ref (a1 0), .null, .int 0, .null, .null, .null, .int 0, .int 0]))] ++ cl_X5 cI cJ a0 zS0) ++ cl_X5 cI cJ a1 zS0) ++ cl_X5 cI cJ a2 zS0)) := hD1
  have hS := hS1
  refine z_putF (w' := ((([(b, .inr (9, [.ref (a0 0), .ref (a1 0), .ref (a2 0), .int 0, .null, .null, .null, .int 0, .int 0]))] ++ cl_X5 cI cJ a0 zS0) ++ cl_X5 cI cJ a1 zS0) ++ cl_X5 cI cJ a2 zS0)) (ci := 9) (v := .ref (a2 0)) (ty := tyX10 2) (Cn := RX10) (T := TX10) (N := 9) X inX10 tyX10 tyX10_ok nmX10 hP hD hS 0 rfl rfl 2 (by decide) (hts _ q_fl_X10_19) (fun _ h9 => h9) rfl hin rfl (tyX10_ok 2 (by decide)) rfl rfl (Nat.le_of_ble_eq_true rfl) rfl dX10_init_34 (fun H locs hP hD hS => ?_)
  refine lv_aload_n hx hb dX10_init_37 rfl (lv_at hl 0 rfl) ?_
  refine z_newO (C := RX3) (T := TX3) (N := 3) (ci := 2) (fs := [.null, .int 0, .int 0]) X inX3 tyX3 tyX3_ok q_cl_X10_22 q_ib_X3 q_in_X3 hP hD hS hA rfl (by decide) ⟨Nat.le_of_ble_eq_true rfl, Nat.le_of_ble_eq_true rfl⟩ dX10_init_38 (fun q H hP hD hS => ?_)
  refine lv_dup hx hb dX10_init_41 rfl ?_
  refine z_cI (w := ((([(b, .inr (9, [.ref (a0 0), .ref (a1 0), .ref (a2 0), .int 0, .null, .null, .null, .int 0, .int 0]))] ++ cl_X5 cI cJ a0 zS0) ++ cl_X5 cI cJ a1 zS0) ++ cl_X5 cI cJ a2 zS0)) X fro_Fc hF (c_X3_init l dC dI cI cJ cS q _) zi_X3 rfl q_ml_X10_24 ⟨rfl, rfl⟩ ⟨Nat.le_of_ble_eq_true rfl, Nat.le_of_ble_eq_true rfl⟩ hP hD hS hA hl.1 (Nat.le_of_ble_eq_true rfl) ⟨Nat.le_of_ble_eq_true rfl, Nat.le_of_ble_eq_true rfl⟩ dX10_init_42 (fun a3 H1 locs1 ha hP1 hD1 hS1 => ?_)
  subst ha
  have hP : va_P (dC, dI) vwCl ((((([(b, .inr (9, [.ref (a0 0), .ref (a1 0), .ref (a2 0), .int 0, .null, .null, .null, .int 0, .int 0]))] ++ cl_X5 cI cJ a0 zS0) ++ cl_X5 cI cJ a1 zS0) ++ cl_X5 cI cJ a2 zS0) ++ cl_X3 cI cJ cS a3 zMem0)) H1 := hP1
  have hD : va_D A ((((([(b, .inr (9, [.ref (a0 0), .ref (a1 0), .ref (a2 0), .int 0, .null, .null, .null, .int 0, .int 0]))] ++ cl_X5 cI cJ a0 zS0) ++ cl_X5 cI cJ a1 zS0) ++ cl_X5 cI cJ a2 zS0) ++ cl_X3 cI cJ cS a3 zMem0)) := hD1
  have hS := hS1
  refine z_putF (w' := (((([(b, .inr (9, [.ref (a0 0), .ref (a1 0), .ref (a2 0), .int 0, .ref (a3 0), .null, .null, .int 0, .int 0]))] ++ cl_X5 cI cJ a0 zS0) ++ cl_X5 cI cJ a1 zS0) ++ cl_X5 cI cJ a2 zS0) ++ cl_X3 cI cJ cS a3 zMem0)) (ci := 9) (v := .ref (a3 0)) (ty := tyX10 4) (Cn := RX10) (T := TX10) (N := 9) X inX10 tyX10 tyX10_ok nmX10 hP hD hS 0 rfl rfl 4 (by decide) (hts _ q_fl_X10_25) (fun _ h9 => h9) rfl hin rfl (tyX10_ok 4 (by decide)) rfl rfl (Nat.le_of_ble_eq_true rfl) rfl dX10_init_45 (fun H locs hP hD hS => ?_)
  refine lv_aload_n hx hb dX10_init_48 rfl (lv_at hl 0 rfl) ?_
  refine z_newO (C := RX6) (T := TX6) (N := 7) (ci := 5) (fs := [.null, .null, .int 0, .int 0, .int 0, .int 0, .int 0]) X inX6 tyX6 tyX6_ok q_cl_X10_29 q_ib_X6 q_in_X6 hP hD hS hA rfl (by decide) ⟨Nat.le_of_ble_eq_true rfl, Nat.le_of_ble_eq_true rfl⟩ dX10_init_49 (fun q H hP hD hS => ?_)
  refine lv_dup hx hb dX10_init_52 rfl ?_
  refine z_cIN (host := "AsideStore") (w := (((([(b, .inr (9, [.ref (a0 0), .ref (a1 0), .ref (a2 0), .int 0, .ref (a3 0), .null, .null, .int 0, .int 0]))] ++ cl_X5 cI cJ a0 zS0) ++ cl_X5 cI cJ a1 zS0) ++ cl_X5 cI cJ a2 zS0) ++ cl_X3 cI cJ cS a3 zMem0)) X fro_Fc hF (c_X6_init l dC dI cI cJ cS q _) zi_X6 rfl hF.2.2.2.2.2.2.1 ⟨rfl, rfl⟩ ⟨Nat.le_of_ble_eq_true rfl, Nat.le_of_ble_eq_true rfl⟩ hP hD hS hA hl.1 (Nat.le_of_ble_eq_true rfl) ⟨Nat.le_of_ble_eq_true rfl, Nat.le_of_ble_eq_true rfl⟩ dX10_init_53 (fun a4 H1 locs1 ha hP1 hD1 hS1 => ?_)
  subst ha
  have hP : va_P (dC, dI) vwCl (((((([(b, .inr (9, [.ref (a0 0), .ref (a1 0), .ref (a2 0), .int 0, .ref (a3 0), .null, .null, .int 0, .int 0]))] ++ cl_X5 cI cJ a0 zS0) ++ cl_X5 cI cJ a1 zS0) ++ cl_X5 cI cJ a2 zS0) ++ cl_X3 cI cJ cS a3 zMem0) ++ cl_X6 cI cJ a4 (fun _ => 0, fun _ => 0, 0, 0, 0, 0, 0))) H1 := hP1
  have hD : va_D A (((((([(b, .inr (9, [.ref (a0 0), .ref (a1 0), .ref (a2 0), .int 0, .ref (a3 0), .null, .null, .int 0, .int 0]))] ++ cl_X5 cI cJ a0 zS0) ++ cl_X5 cI cJ a1 zS0) ++ cl_X5 cI cJ a2 zS0) ++ cl_X3 cI cJ cS a3 zMem0) ++ cl_X6 cI cJ a4 (fun _ => 0, fun _ => 0, 0, 0, 0, 0, 0))) := hD1
  have hS := hS1
  refine z_putF (w' := ((((([(b, .inr (9, [.ref (a0 0), .ref (a1 0), .ref (a2 0), .int 0, .ref (a3 0), .ref (a4 0), .null, .int 0, .int 0]))] ++ cl_X5 cI cJ a0 zS0) ++ cl_X5 cI cJ a1 zS0) ++ cl_X5 cI cJ a2 zS0) ++ cl_X3 cI cJ cS a3 zMem0) ++ cl_X6 cI cJ a4 (fun _ => 0, fun _ => 0, 0, 0, 0, 0, 0))) (ci := 9) (v := .ref (a4 0)) (ty := tyX10 5) (Cn := RX10) (T := TX10) (N := 9) X inX10 tyX10 tyX10_ok nmX10 hP hD hS 0 rfl rfl 5 (by decide) (hts _ q_fl_X10_32) (fun _ h9 => h9) rfl hin rfl (tyX10_ok 5 (by decide)) rfl rfl (Nat.le_of_ble_eq_true rfl) rfl dX10_init_56 (fun H locs hP hD hS => ?_)
  refine lv_aload_n hx hb dX10_init_59 rfl (lv_at hl 0 rfl) ?_
  refine lv_bipush (v := 64) hx hb dX10_init_60 (by decide) ?_
  refine z_newI (N := 64) X hP hD hS hA (by decide) (by decide) (Nat.le_of_ble_eq_true rfl) ⟨Nat.le_of_ble_eq_true rfl, Nat.le_of_ble_eq_true rfl⟩ dX10_init_62 (fun q H hP hD hS => ?_)
  refine z_putF (w' := (((((([(b, .inr (9, [.ref (a0 0), .ref (a1 0), .ref (a2 0), .int 0, .ref (a3 0), .ref (a4 0), .ref q, .int 0, .int 0]))] ++ cl_X5 cI cJ a0 zS0) ++ cl_X5 cI cJ a1 zS0) ++ cl_X5 cI cJ a2 zS0) ++ cl_X3 cI cJ cS a3 zMem0) ++ cl_X6 cI cJ a4 (fun _ => 0, fun _ => 0, 0, 0, 0, 0, 0)) ++ [(q, .inl (cI, 64, .inl (fun _ => 0)))])) (ci := 9) (v := .ref q) (ty := tyX10 6) (Cn := RX10) (T := TX10) (N := 9) X inX10 tyX10 tyX10_ok nmX10 hP hD hS 0 rfl rfl 6 (by decide) (hts _ q_fl_X10_36) (fun _ h9 => h9) rfl hin rfl (tyX10_ok 6 (by decide)) rfl rfl (Nat.le_of_ble_eq_true rfl) rfl dX10_init_64 (fun H locs hP hD hS => ?_)
  refine lv_aload_n hx hb dX10_init_67 rfl (lv_at hl 0 rfl) ?_
  refine lv_iconst (v := (-1)) hx hb dX10_init_68 (by decide) ?_
  refine z_put (w' := (((((([(b, .inr (9, [.ref (a0 0), .ref (a1 0), .ref (a2 0), .int 0, .ref (a3 0), .ref (a4 0), .ref q, .int (-1), .int 0]))] ++ cl_X5 cI cJ a0 zS0) ++ cl_X5 cI cJ a1 zS0) ++ cl_X5 cI cJ a2 zS0) ++ cl_X3 cI cJ cS a3 zMem0) ++ cl_X6 cI cJ a4 (fun _ => 0, fun _ => 0, 0, 0, 0, 0, 0)) ++ [(q, .inl (cI, 64, .inl (fun _ => 0)))])) (ci := 9) (v := .int (-1)) (ty := .int) (Cn := RX10) (T := TX10) (N := 9) X inX10 tyX10 tyX10_ok nmX10 hP hD hS 0 rfl rfl 7 (by decide) (hts _ q_fl_X10_40) (fun _ h9 => h9) rfl (tyX10_ok 7 (by decide)) rfl rfl (Nat.le_of_ble_eq_true rfl) rfl dX10_init_69 (fun H locs hP hD hS => ?_)
  have hpm := px_ctor (b, .inr (9, [.ref (a0 0), .ref (a1 0), .ref (a2 0), .int 0, .ref (a3 0), .ref (a4 0), .ref q, .int (-1), .int 0])) (cl_X5 cI cJ a0 zS0) (cl_X5 cI cJ a1 zS0) (cl_X5 cI cJ a2 zS0) (cl_X3 cI cJ cS a3 zMem0) (cl_X6 cI cJ a4 (fun _ => 0, fun _ => 0, 0, 0, 0, 0, 0)) ([(q, .inl (cI, 64, .inl (fun _ => 0)))])
  have hew := mkX_done cI cJ cS b a0 a1 a2 a3 a4 q zC0
  have hP := hP.perm hpm
  have hD := hD.perm hpm
  have hP : va_P (dC, dI) vwCl (cl_X10 cI cJ cS (adX b a0 a1 a2 a3 a4 q) zC0) H := by rw [hew]; exact hP
  have hD : va_D A (cl_X10 cI cJ cS (adX b a0 a1 a2 a3 a4 q) zC0) := by rw [hew]; exact hD
  exact z_retMv (Wf := fun z : (Nat → Nat) × zCls => cl_X10 cI cJ cS z.1 z.2) (u := (adX b a0 a1 a2 a3 a4 q, zC0)) X ⟨rfl, zC0_ok⟩ hP hD hS dX10_init_72
