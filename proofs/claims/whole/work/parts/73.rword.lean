def t_X6_readWord_e (u : zTape) (x1 : Int32) (K5 : Int32 → zTape → Prop) (Q : Int32 → zTape → Prop) : Prop := ∀ x_1 : Int32, x_1 = u.2.2.2.1 → K5 x_1 u
def t_X6_readWord_5 (x1 : Int32) (y2 : Int32) (z : zTape) (K5 : Int32 → zTape → Prop) (Q : Int32 → zTape → Prop) : Prop := ((z.2.2.1 ≤ y2 → ∀ x_4 : Int32, x_4 = z.2.2.2.1 → (((14 : Int32) ≤ x1 → ((¬ (-1 : Int32) = (-1 : Int32) → Q (1 : Int32) (z.1, z.2.1, z.2.2.1, y2, (-1 : Int32), x_4, z.2.2.2.2.2.2)) ∧ ((-1 : Int32) = (-1 : Int32) → s_X6_isWrong (z.1, z.2.1, z.2.2.1, z.2.2.2.1, (-1 : Int32), x_4, z.2.2.2.2.2.2) z.2.2.2.1 (fun (r_7 : Int32) (u_8 : zTape) => Q r_7 u_8)))) ∧ (¬ (14 : Int32) ≤ x1 → s_X6_actCalled (z.1, z.2.1, z.2.2.1, z.2.2.2.1, z.2.2.2.2.1, x_4, z.2.2.2.2.2.2) z.2.2.2.1 y2 (fun (r_9 : Int32) (u_10 : zTape) => ((¬ r_9 = (-1 : Int32) → Q (1 : Int32) (u_10.1, u_10.2.1, u_10.2.2.1, y2, r_9, u_10.2.2.2.2.2.1, u_10.2.2.2.2.2.2)) ∧ (r_9 = (-1 : Int32) → s_X6_isWrong (u_10.1, u_10.2.1, u_10.2.2.1, u_10.2.2.2.1, r_9, u_10.2.2.2.2.2.1, u_10.2.2.2.2.2.2) u_10.2.2.2.1 (fun (r_12 : Int32) (u_13 : zTape) => Q r_12 u_13))))))) ∧ (¬ z.2.2.1 ≤ y2 → (((400 : Int32) ≤ y2 → ∀ x_15 : Int32, x_15 = z.2.2.2.1 → (((14 : Int32) ≤ x1 → ((¬ (-1 : Int32) = (-1 : Int32) → Q (1 : Int32) (z.1, z.2.1, z.2.2.1, y2, (-1 : Int32), x_15, z.2.2.2.2.2.2)) ∧ ((-1 : Int32) = (-1 : Int32) → s_X6_isWrong (z.1, z.2.1, z.2.2.1, z.2.2.2.1, (-1 : Int32), x_15, z.2.2.2.2.2.2) z.2.2.2.1 (fun (r_18 : Int32) (u_19 : zTape) => Q r_18 u_19)))) ∧ (¬ (14 : Int32) ≤ x1 → s_X6_actCalled (z.1, z.2.1, z.2.2.1, z.2.2.2.1, z.2.2.2.2.1, x_15, z.2.2.2.2.2.2) z.2.2.2.1 y2 (fun (r_20 : Int32) (u_21 : zTape) => ((¬ r_20 = (-1 : Int32) → Q (1 : Int32) (u_21.1, u_21.2.1, u_21.2.2.1, y2, r_20, u_21.2.2.2.2.2.1, u_21.2.2.2.2.2.2)) ∧ (r_20 = (-1 : Int32) → s_X6_isWrong (u_21.1, u_21.2.1, u_21.2.2.1, u_21.2.2.2.1, r_20, u_21.2.2.2.2.2.1, u_21.2.2.2.2.2.2) u_21.2.2.2.1 (fun (r_23 : Int32) (u_24 : zTape) => Q r_23 u_24))))))) ∧ (¬ (400 : Int32) ≤ y2 → vp_in y2 400 ∧ (((z.1 y2.toNatClampNeg) < (97 : Int32) → ∀ x_26 : Int32, x_26 = z.2.2.2.1 → (((14 : Int32) ≤ x1 → ((¬ (-1 : Int32) = (-1 : Int32) → Q (1 : Int32) (z.1, z.2.1, z.2.2.1, y2, (-1 : Int32), x_26, z.2.2.2.2.2.2)) ∧ ((-1 : Int32) = (-1 : Int32) → s_X6_isWrong (z.1, z.2.1, z.2.2.1, z.2.2.2.1, (-1 : Int32), x_26, z.2.2.2.2.2.2) z.2.2.2.1 (fun (r_29 : Int32) (u_30 : zTape) => Q r_29 u_30)))) ∧ (¬ (14 : Int32) ≤ x1 → s_X6_actCalled (z.1, z.2.1, z.2.2.1, z.2.2.2.1, z.2.2.2.2.1, x_26, z.2.2.2.2.2.2) z.2.2.2.1 y2 (fun (r_31 : Int32) (u_32 : zTape) => ((¬ r_31 = (-1 : Int32) → Q (1 : Int32) (u_32.1, u_32.2.1, u_32.2.2.1, y2, r_31, u_32.2.2.2.2.2.1, u_32.2.2.2.2.2.2)) ∧ (r_31 = (-1 : Int32) → s_X6_isWrong (u_32.1, u_32.2.1, u_32.2.2.1, u_32.2.2.2.1, r_31, u_32.2.2.2.2.2.1, u_32.2.2.2.2.2.2) u_32.2.2.2.1 (fun (r_34 : Int32) (u_35 : zTape) => Q r_34 u_35))))))) ∧ (¬ (z.1 y2.toNatClampNeg) < (97 : Int32) → vp_in y2 400 ∧ (((122 : Int32) < (z.1 y2.toNatClampNeg) → ∀ x_37 : Int32, x_37 = z.2.2.2.1 → (((14 : Int32) ≤ x1 → ((¬ (-1 : Int32) = (-1 : Int32) → Q (1 : Int32) (z.1, z.2.1, z.2.2.1, y2, (-1 : Int32), x_37, z.2.2.2.2.2.2)) ∧ ((-1 : Int32) = (-1 : Int32) → s_X6_isWrong (z.1, z.2.1, z.2.2.1, z.2.2.2.1, (-1 : Int32), x_37, z.2.2.2.2.2.2) z.2.2.2.1 (fun (r_40 : Int32) (u_41 : zTape) => Q r_40 u_41)))) ∧ (¬ (14 : Int32) ≤ x1 → s_X6_actCalled (z.1, z.2.1, z.2.2.1, z.2.2.2.1, z.2.2.2.2.1, x_37, z.2.2.2.2.2.2) z.2.2.2.1 y2 (fun (r_42 : Int32) (u_43 : zTape) => ((¬ r_42 = (-1 : Int32) → Q (1 : Int32) (u_43.1, u_43.2.1, u_43.2.2.1, y2, r_42, u_43.2.2.2.2.2.1, u_43.2.2.2.2.2.2)) ∧ (r_42 = (-1 : Int32) → s_X6_isWrong (u_43.1, u_43.2.1, u_43.2.2.1, u_43.2.2.2.1, r_42, u_43.2.2.2.2.2.1, u_43.2.2.2.2.2.2) u_43.2.2.2.1 (fun (r_45 : Int32) (u_46 : zTape) => Q r_45 u_46))))))) ∧ (¬ (122 : Int32) < (z.1 y2.toNatClampNeg) → ∀ x_47 : Int32, x_47 = y2 + (1 : Int32) → K5 x_47 z))))))))
theorem zc_X6_readWord : zCalV RX6 yX6_readWord cX6_readWord 3 (some .boolean) 1 := ⟨q_im_X6_readWord, q_se_X6_readWord, q_in_X6, q_cd_X6_readWord, ⟨by decide, by decide, by decide +kernel⟩, rfl⟩
abbrev rm_X6_readWord : Room := { frames := 6, cells := 0, slots := 0, locals := 132 }
def v_X6_readWord (u : zTape) (x1 : Int32) (Q : Int32 → zTape → Prop) : Prop := ∃ I5 : Nat → Int32 → zTape → Prop, (∀ (n : Nat) (y2 : Int32) (z : zTape), I5 n y2 z → t_X6_readWord_5 x1 y2 z (fun q0 q1 => ∃ k : Nat, k < n ∧ I5 k q0 q1) Q) ∧ t_X6_readWord_e u x1 (fun q0 q1 => ∃ k : Nat, I5 k q0 q1) Q
set_option maxHeartbeats 4000000 in
set_option maxRecDepth 100000 in
theorem L_X6_readWord (l : Launch) (dC : Nat → ClassId) (dI : Nat → Nat → Nat) (cI cJ cS : ClassId) (a : Nat → Nat) (u : zTape) (x1 : Int32) (Q : Int32 → zTape → Prop) (I5 : Nat → Int32 → zTape → Prop) (h5 : ∀ (n : Nat) (y2 : Int32) (z : zTape), I5 n y2 z → t_X6_readWord_5 x1 y2 z (fun q0 q1 => ∃ k : Nat, k < n ∧ I5 k q0 q1) Q) (hf : t_X6_readWord_e u x1 (fun q0 q1 => ∃ k : Nat, I5 k q0 q1) Q) : ∀ sz : Nat, Met l yX6_readWord (Cond.code yX6_readWord cX6_readWord 3 (some .boolean) :: zT) rm_X6_readWord (zPmF zFz dC dI cI cJ cS (cl_X6 cI cJ a u) [.ref (a 0), .int x1] sz) (va_Qi (fun r u => (r = 0 ∨ r = 1) ∧ Q r u) (zB dC dI cI cJ cS (va_A (cl_X6 cI cJ a u) sz) (fun z => cl_X6 cI cJ a z)) (va_A (cl_X6 cI cJ a u) sz)) 0 0 (va_A (cl_X6 cI cJ a u) sz) := by
  intro sz
  refine z_enterMF (Qc := fun A => va_Qi (fun r u => (r = 0 ∨ r = 1) ∧ Q r u) (zB dC dI cI cJ cS A (fun z => cl_X6 cI cJ a z)) A) (cc := cX6_readWord) (maxL := 3) (ret := (some .boolean)) (by decide) (Nat.le_of_ble_eq_true rfl) ?_
  intro p e s m below meth c ls A X hP hD hS hA hF hl
  obtain ⟨⟨hx, hb, hml, hown, hts⟩, hr, hlk, hK⟩ := id X
  have hl : lv_has ls 3 [(0, .ref (a 0)), (1, .int x1)] := hl
  have LP : ∀ n : Nat, (∀ (y2 : Int32) (z : zTape) (H : Heap) (locs : List Loc) (ls : Array Slot), I5 n y2 z → va_P (dC, dI) vwCl (cl_X6 cI cJ a z) H → va_D A (cl_X6 cI cJ a z) → va_S A s.heap H locs → lv_has ls 3 [(0, .ref (a 0)), (1, .int x1), (2, .int y2)] → W p l e rm_X6_readWord s m [.ref (a 0), .int x1].toArray below meth c H locs 0 0 (MQ below (va_Qi (fun r u => (r = 0 ∨ r = 1) ∧ Q r u) (zB dC dI cI cJ cS A (fun z => cl_X6 cI cJ a z)) A) [.ref (a 0), .int x1].toArray s 0 0 A) (F0 m 5 ls [])) := by
    intro n
    induction n using Nat.strongRecOn with
    | _ n ih =>
      intro y2 z H locs ls hI hP hD hS hl
      have hf := h5 n y2 z hI
      unfold t_X6_readWord_5 at hf
      refine lv_iload_n hx hb dX6_readWord_5 rfl (lv_at hl 2 rfl) ?_
      refine lv_aload_n hx hb dX6_readWord_6 rfl (lv_at hl 0 rfl) ?_
      refine va_get (D := (dC, dI)) (ci := 5) (v := .int z.2.2.1) (C := RX6) (T := TX6) (N := 7) hx hb hts inX6 hown hK hP 0 rfl rfl 2 (by decide) (hts _ q_fl_X6_18) (fun _ h9 => h9) rfl dX6_readWord_7 ?_
      refine lv_icmp_ge (tgt := 48) hx hb dX6_readWord_10 (by decide) (fun c_3 => ?_) (fun c_3 => ?_)
      · have hf := hf.1 c_3
        refine lv_aload_n hx hb dX6_readWord_48 rfl (lv_at hl 0 rfl) ?_
        refine lv_aload_n hx hb dX6_readWord_49 rfl (lv_at hl 0 rfl) ?_
        refine va_get (D := (dC, dI)) (ci := 5) (v := .int z.2.2.2.1) (C := RX6) (T := TX6) (N := 7) hx hb hts inX6 hown hK hP 0 rfl rfl 3 (by decide) (hts _ q_fl_X6_26) (fun _ h9 => h9) rfl dX6_readWord_50 ?_
        refine lv_topi (fun x_4 ex_4 => ?_)
        have hf := hf x_4 ex_4
        refine z_put (w' := cl_X6 cI cJ a (z.1, z.2.1, z.2.2.1, z.2.2.2.1, z.2.2.2.2.1, x_4, z.2.2.2.2.2.2)) (ci := 5) (v := .int x_4) (ty := .int) (Cn := RX6) (T := TX6) (N := 7) X inX6 tyX6 tyX6_ok nmX6 hP hD hS 0 rfl rfl 5 (by decide) (hts _ q_fl_X6_49) (fun _ h9 => h9) rfl (tyX6_ok 5 (by decide)) rfl rfl (Nat.le_of_ble_eq_true rfl) rfl dX6_readWord_53 (fun H locs hP hD hS => ?_)
        refine lv_aload_n hx hb dX6_readWord_56 rfl (lv_at hl 0 rfl) ?_
        refine lv_iload_n hx hb dX6_readWord_57 rfl (lv_at hl 1 rfl) ?_
        refine lv_bipush (v := 14) hx hb dX6_readWord_58 (by decide) ?_
        refine lv_icmp_ge (tgt := 75) hx hb dX6_readWord_60 (by decide) (fun c_5 => ?_) (fun c_5 => ?_)
        · have hf := hf.1 c_5
          refine lv_iconst (v := (-1)) hx hb dX6_readWord_75 (by decide) ?_
          refine z_put (w' := cl_X6 cI cJ a (z.1, z.2.1, z.2.2.1, z.2.2.2.1, (-1 : Int32), x_4, z.2.2.2.2.2.2)) (ci := 5) (v := .int (-1 : Int32)) (ty := .int) (Cn := RX6) (T := TX6) (N := 7) X inX6 tyX6 tyX6_ok nmX6 hP hD hS 0 rfl rfl 4 (by decide) (hts _ q_fl_X6_56) (fun _ h9 => h9) rfl (tyX6_ok 4 (by decide)) rfl rfl (Nat.le_of_ble_eq_true rfl) rfl dX6_readWord_76 (fun H locs hP hD hS => ?_)
          refine lv_aload_n hx hb dX6_readWord_79 rfl (lv_at hl 0 rfl) ?_
          refine va_get (D := (dC, dI)) (ci := 5) (v := .int (-1 : Int32)) (C := RX6) (T := TX6) (N := 7) hx hb hts inX6 hown hK hP 0 rfl rfl 4 (by decide) (hts _ q_fl_X6_56) (fun _ h9 => h9) rfl dX6_readWord_80 ?_
          refine lv_iconst (v := (-1)) hx hb dX6_readWord_83 (by decide) ?_
          refine lv_icmp_ne (tgt := 96) hx hb dX6_readWord_84 (by decide) (fun c_6 => ?_) (fun c_6 => ?_)
          · have hf := hf.1 c_6
            refine lv_aload_n hx hb dX6_readWord_96 rfl (lv_at hl 0 rfl) ?_
            refine lv_iload_n hx hb dX6_readWord_97 rfl (lv_at hl 2 rfl) ?_
            refine z_put (w' := cl_X6 cI cJ a (z.1, z.2.1, z.2.2.1, y2, (-1 : Int32), x_4, z.2.2.2.2.2.2)) (ci := 5) (v := .int y2) (ty := .int) (Cn := RX6) (T := TX6) (N := 7) X inX6 tyX6 tyX6_ok nmX6 hP hD hS 0 rfl rfl 3 (by decide) (hts _ q_fl_X6_26) (fun _ h9 => h9) rfl (tyX6_ok 3 (by decide)) rfl rfl (Nat.le_of_ble_eq_true rfl) rfl dX6_readWord_98 (fun H locs hP hD hS => ?_)
            refine lv_iconst (v := 1) hx hb dX6_readWord_101 (by decide) ?_
            exact z_retMz (Wf := (fun z => cl_X6 cI cJ a z)) (u := (z.1, z.2.1, z.2.2.1, y2, (-1 : Int32), x_4, z.2.2.2.2.2.2)) X (Or.inr rfl) hf hP hD hS dX6_readWord_102
          · have hf := hf.2 c_6
            refine lv_aload_n hx hb dX6_readWord_87 rfl (lv_at hl 0 rfl) ?_
            refine lv_aload_n hx hb dX6_readWord_88 rfl (lv_at hl 0 rfl) ?_
            refine va_get (D := (dC, dI)) (ci := 5) (v := .int z.2.2.2.1) (C := RX6) (T := TX6) (N := 7) hx hb hts inX6 hown hK hP 0 rfl rfl 3 (by decide) (hts _ q_fl_X6_26) (fun _ h9 => h9) rfl dX6_readWord_89 ?_
            refine z_mVi (Wn := (fun u_8 => cl_X6 cI cJ a u_8)) (As := [.int z.2.2.2.1]) (rest := []) (wr := []) X (c_X6_isWrong l dC dI cI cJ cS a (z.1, z.2.1, z.2.2.1, z.2.2.2.1, (-1 : Int32), x_4, z.2.2.2.2.2.2) z.2.2.2.1 _ hf _) zc_X6_isWrong q_ml_X6_39 ⟨rfl, rfl⟩ ⟨Nat.le_of_ble_eq_true rfl, Nat.le_of_ble_eq_true rfl⟩ hP hD hS hA [0, 1, 2] [] rfl (by decide) rfl (by decide) (by decide) [0, 1, 2] (by decide) (fun _ => rfl) 5 rfl rfl hl.1 rfl rfl (Nat.le_of_ble_eq_true rfl) ⟨Nat.zero_le _, Nat.zero_le _⟩ dX6_readWord_92 (fun r_7 u_8 H locs hf hP hD hS => ?_)
            obtain ⟨hbr_7, hf⟩ := hf
            exact z_retMz (Wf := (fun z => cl_X6 cI cJ a z)) (u := u_8) X hbr_7 hf hP hD hS dX6_readWord_95
        · have hf := hf.2 c_5
          refine lv_aload_n hx hb dX6_readWord_63 rfl (lv_at hl 0 rfl) ?_
          refine lv_aload_n hx hb dX6_readWord_64 rfl (lv_at hl 0 rfl) ?_
          refine va_get (D := (dC, dI)) (ci := 5) (v := .int z.2.2.2.1) (C := RX6) (T := TX6) (N := 7) hx hb hts inX6 hown hK hP 0 rfl rfl 3 (by decide) (hts _ q_fl_X6_26) (fun _ h9 => h9) rfl dX6_readWord_65 ?_
          refine lv_iload_n hx hb dX6_readWord_68 rfl (lv_at hl 2 rfl) ?_
          refine z_mViF (Wn := (fun u_10 => cl_X6 cI cJ a u_10)) (As := [.int z.2.2.2.1, .int y2]) (rest := [.ref (a 0)]) (wr := []) X fro_Fz hF (c_X6_actCalled l dC dI cI cJ cS a (z.1, z.2.1, z.2.2.1, z.2.2.2.1, z.2.2.2.2.1, x_4, z.2.2.2.2.2.2) z.2.2.2.1 y2 _ hf _) zc_X6_actCalled q_ml_X6_52 ⟨rfl, rfl⟩ ⟨Nat.le_of_ble_eq_true rfl, Nat.le_of_ble_eq_true rfl⟩ hP hD hS hA [0, 1, 2] [] rfl (by decide) rfl (by decide) (by decide) [0, 1, 2] (by decide) (fun _ => rfl) 5 rfl rfl hl.1 rfl rfl (Nat.le_of_ble_eq_true rfl) ⟨Nat.zero_le _, Nat.zero_le _⟩ dX6_readWord_69 (fun r_9 u_10 H locs hf hP hD hS => ?_)
          refine lv_goto (tgt := 76) hx hb dX6_readWord_72 (by decide) ?_
          refine z_put (w' := cl_X6 cI cJ a (u_10.1, u_10.2.1, u_10.2.2.1, u_10.2.2.2.1, r_9, u_10.2.2.2.2.2.1, u_10.2.2.2.2.2.2)) (ci := 5) (v := .int r_9) (ty := .int) (Cn := RX6) (T := TX6) (N := 7) X inX6 tyX6 tyX6_ok nmX6 hP hD hS 0 rfl rfl 4 (by decide) (hts _ q_fl_X6_56) (fun _ h9 => h9) rfl (tyX6_ok 4 (by decide)) rfl rfl (Nat.le_of_ble_eq_true rfl) rfl dX6_readWord_76 (fun H locs hP hD hS => ?_)
          refine lv_aload_n hx hb dX6_readWord_79 rfl (lv_at hl 0 rfl) ?_
          refine va_get (D := (dC, dI)) (ci := 5) (v := .int r_9) (C := RX6) (T := TX6) (N := 7) hx hb hts inX6 hown hK hP 0 rfl rfl 4 (by decide) (hts _ q_fl_X6_56) (fun _ h9 => h9) rfl dX6_readWord_80 ?_
          refine lv_iconst (v := (-1)) hx hb dX6_readWord_83 (by decide) ?_
          refine lv_icmp_ne (tgt := 96) hx hb dX6_readWord_84 (by decide) (fun c_11 => ?_) (fun c_11 => ?_)
          · have hf := hf.1 c_11
            refine lv_aload_n hx hb dX6_readWord_96 rfl (lv_at hl 0 rfl) ?_
            refine lv_iload_n hx hb dX6_readWord_97 rfl (lv_at hl 2 rfl) ?_
            refine z_put (w' := cl_X6 cI cJ a (u_10.1, u_10.2.1, u_10.2.2.1, y2, r_9, u_10.2.2.2.2.2.1, u_10.2.2.2.2.2.2)) (ci := 5) (v := .int y2) (ty := .int) (Cn := RX6) (T := TX6) (N := 7) X inX6 tyX6 tyX6_ok nmX6 hP hD hS 0 rfl rfl 3 (by decide) (hts _ q_fl_X6_26) (fun _ h9 => h9) rfl (tyX6_ok 3 (by decide)) rfl rfl (Nat.le_of_ble_eq_true rfl) rfl dX6_readWord_98 (fun H locs hP hD hS => ?_)
            refine lv_iconst (v := 1) hx hb dX6_readWord_101 (by decide) ?_
            exact z_retMz (Wf := (fun z => cl_X6 cI cJ a z)) (u := (u_10.1, u_10.2.1, u_10.2.2.1, y2, r_9, u_10.2.2.2.2.2.1, u_10.2.2.2.2.2.2)) X (Or.inr rfl) hf hP hD hS dX6_readWord_102
          · have hf := hf.2 c_11
            refine lv_aload_n hx hb dX6_readWord_87 rfl (lv_at hl 0 rfl) ?_
            refine lv_aload_n hx hb dX6_readWord_88 rfl (lv_at hl 0 rfl) ?_
            refine va_get (D := (dC, dI)) (ci := 5) (v := .int u_10.2.2.2.1) (C := RX6) (T := TX6) (N := 7) hx hb hts inX6 hown hK hP 0 rfl rfl 3 (by decide) (hts _ q_fl_X6_26) (fun _ h9 => h9) rfl dX6_readWord_89 ?_
            refine z_mVi (Wn := (fun u_13 => cl_X6 cI cJ a u_13)) (As := [.int u_10.2.2.2.1]) (rest := []) (wr := []) X (c_X6_isWrong l dC dI cI cJ cS a (u_10.1, u_10.2.1, u_10.2.2.1, u_10.2.2.2.1, r_9, u_10.2.2.2.2.2.1, u_10.2.2.2.2.2.2) u_10.2.2.2.1 _ hf _) zc_X6_isWrong q_ml_X6_39 ⟨rfl, rfl⟩ ⟨Nat.le_of_ble_eq_true rfl, Nat.le_of_ble_eq_true rfl⟩ hP hD hS hA [0, 1, 2] [] rfl (by decide) rfl (by decide) (by decide) [0, 1, 2] (by decide) (fun _ => rfl) 5 rfl rfl hl.1 rfl rfl (Nat.le_of_ble_eq_true rfl) ⟨Nat.zero_le _, Nat.zero_le _⟩ dX6_readWord_92 (fun r_12 u_13 H locs hf hP hD hS => ?_)
            obtain ⟨hbr_12, hf⟩ := hf
            exact z_retMz (Wf := (fun z => cl_X6 cI cJ a z)) (u := u_13) X hbr_12 hf hP hD hS dX6_readWord_95
      · have hf := hf.2 c_3
        refine lv_iload_n hx hb dX6_readWord_13 rfl (lv_at hl 2 rfl) ?_
        refine lv_sipush (v := 400) hx hb dX6_readWord_14 (by decide) ?_
        refine lv_icmp_ge (tgt := 48) hx hb dX6_readWord_17 (by decide) (fun c_14 => ?_) (fun c_14 => ?_)
        · have hf := hf.1 c_14
          refine lv_aload_n hx hb dX6_readWord_48 rfl (lv_at hl 0 rfl) ?_
          refine lv_aload_n hx hb dX6_readWord_49 rfl (lv_at hl 0 rfl) ?_
          refine va_get (D := (dC, dI)) (ci := 5) (v := .int z.2.2.2.1) (C := RX6) (T := TX6) (N := 7) hx hb hts inX6 hown hK hP 0 rfl rfl 3 (by decide) (hts _ q_fl_X6_26) (fun _ h9 => h9) rfl dX6_readWord_50 ?_
          refine lv_topi (fun x_15 ex_15 => ?_)
          have hf := hf x_15 ex_15
          refine z_put (w' := cl_X6 cI cJ a (z.1, z.2.1, z.2.2.1, z.2.2.2.1, z.2.2.2.2.1, x_15, z.2.2.2.2.2.2)) (ci := 5) (v := .int x_15) (ty := .int) (Cn := RX6) (T := TX6) (N := 7) X inX6 tyX6 tyX6_ok nmX6 hP hD hS 0 rfl rfl 5 (by decide) (hts _ q_fl_X6_49) (fun _ h9 => h9) rfl (tyX6_ok 5 (by decide)) rfl rfl (Nat.le_of_ble_eq_true rfl) rfl dX6_readWord_53 (fun H locs hP hD hS => ?_)
          refine lv_aload_n hx hb dX6_readWord_56 rfl (lv_at hl 0 rfl) ?_
          refine lv_iload_n hx hb dX6_readWord_57 rfl (lv_at hl 1 rfl) ?_
          refine lv_bipush (v := 14) hx hb dX6_readWord_58 (by decide) ?_
          refine lv_icmp_ge (tgt := 75) hx hb dX6_readWord_60 (by decide) (fun c_16 => ?_) (fun c_16 => ?_)
          · have hf := hf.1 c_16
            refine lv_iconst (v := (-1)) hx hb dX6_readWord_75 (by decide) ?_
            refine z_put (w' := cl_X6 cI cJ a (z.1, z.2.1, z.2.2.1, z.2.2.2.1, (-1 : Int32), x_15, z.2.2.2.2.2.2)) (ci := 5) (v := .int (-1 : Int32)) (ty := .int) (Cn := RX6) (T := TX6) (N := 7) X inX6 tyX6 tyX6_ok nmX6 hP hD hS 0 rfl rfl 4 (by decide) (hts _ q_fl_X6_56) (fun _ h9 => h9) rfl (tyX6_ok 4 (by decide)) rfl rfl (Nat.le_of_ble_eq_true rfl) rfl dX6_readWord_76 (fun H locs hP hD hS => ?_)
            refine lv_aload_n hx hb dX6_readWord_79 rfl (lv_at hl 0 rfl) ?_
            refine va_get (D := (dC, dI)) (ci := 5) (v := .int (-1 : Int32)) (C := RX6) (T := TX6) (N := 7) hx hb hts inX6 hown hK hP 0 rfl rfl 4 (by decide) (hts _ q_fl_X6_56) (fun _ h9 => h9) rfl dX6_readWord_80 ?_
            refine lv_iconst (v := (-1)) hx hb dX6_readWord_83 (by decide) ?_
            refine lv_icmp_ne (tgt := 96) hx hb dX6_readWord_84 (by decide) (fun c_17 => ?_) (fun c_17 => ?_)
            · have hf := hf.1 c_17
              refine lv_aload_n hx hb dX6_readWord_96 rfl (lv_at hl 0 rfl) ?_
              refine lv_iload_n hx hb dX6_readWord_97 rfl (lv_at hl 2 rfl) ?_
              refine z_put (w' := cl_X6 cI cJ a (z.1, z.2.1, z.2.2.1, y2, (-1 : Int32), x_15, z.2.2.2.2.2.2)) (ci := 5) (v := .int y2) (ty := .int) (Cn := RX6) (T := TX6) (N := 7) X inX6 tyX6 tyX6_ok nmX6 hP hD hS 0 rfl rfl 3 (by decide) (hts _ q_fl_X6_26) (fun _ h9 => h9) rfl (tyX6_ok 3 (by decide)) rfl rfl (Nat.le_of_ble_eq_true rfl) rfl dX6_readWord_98 (fun H locs hP hD hS => ?_)
              refine lv_iconst (v := 1) hx hb dX6_readWord_101 (by decide) ?_
              exact z_retMz (Wf := (fun z => cl_X6 cI cJ a z)) (u := (z.1, z.2.1, z.2.2.1, y2, (-1 : Int32), x_15, z.2.2.2.2.2.2)) X (Or.inr rfl) hf hP hD hS dX6_readWord_102
            · have hf := hf.2 c_17
              refine lv_aload_n hx hb dX6_readWord_87 rfl (lv_at hl 0 rfl) ?_
              refine lv_aload_n hx hb dX6_readWord_88 rfl (lv_at hl 0 rfl) ?_
              refine va_get (D := (dC, dI)) (ci := 5) (v := .int z.2.2.2.1) (C := RX6) (T := TX6) (N := 7) hx hb hts inX6 hown hK hP 0 rfl rfl 3 (by decide) (hts _ q_fl_X6_26) (fun _ h9 => h9) rfl dX6_readWord_89 ?_
              refine z_mVi (Wn := (fun u_19 => cl_X6 cI cJ a u_19)) (As := [.int z.2.2.2.1]) (rest := []) (wr := []) X (c_X6_isWrong l dC dI cI cJ cS a (z.1, z.2.1, z.2.2.1, z.2.2.2.1, (-1 : Int32), x_15, z.2.2.2.2.2.2) z.2.2.2.1 _ hf _) zc_X6_isWrong q_ml_X6_39 ⟨rfl, rfl⟩ ⟨Nat.le_of_ble_eq_true rfl, Nat.le_of_ble_eq_true rfl⟩ hP hD hS hA [0, 1, 2] [] rfl (by decide) rfl (by decide) (by decide) [0, 1, 2] (by decide) (fun _ => rfl) 5 rfl rfl hl.1 rfl rfl (Nat.le_of_ble_eq_true rfl) ⟨Nat.zero_le _, Nat.zero_le _⟩ dX6_readWord_92 (fun r_18 u_19 H locs hf hP hD hS => ?_)
              obtain ⟨hbr_18, hf⟩ := hf
              exact z_retMz (Wf := (fun z => cl_X6 cI cJ a z)) (u := u_19) X hbr_18 hf hP hD hS dX6_readWord_95
          · have hf := hf.2 c_16
            refine lv_aload_n hx hb dX6_readWord_63 rfl (lv_at hl 0 rfl) ?_
            refine lv_aload_n hx hb dX6_readWord_64 rfl (lv_at hl 0 rfl) ?_
            refine va_get (D := (dC, dI)) (ci := 5) (v := .int z.2.2.2.1) (C := RX6) (T := TX6) (N := 7) hx hb hts inX6 hown hK hP 0 rfl rfl 3 (by decide) (hts _ q_fl_X6_26) (fun _ h9 => h9) rfl dX6_readWord_65 ?_
            refine lv_iload_n hx hb dX6_readWord_68 rfl (lv_at hl 2 rfl) ?_
            refine z_mViF (Wn := (fun u_21 => cl_X6 cI cJ a u_21)) (As := [.int z.2.2.2.1, .int y2]) (rest := [.ref (a 0)]) (wr := []) X fro_Fz hF (c_X6_actCalled l dC dI cI cJ cS a (z.1, z.2.1, z.2.2.1, z.2.2.2.1, z.2.2.2.2.1, x_15, z.2.2.2.2.2.2) z.2.2.2.1 y2 _ hf _) zc_X6_actCalled q_ml_X6_52 ⟨rfl, rfl⟩ ⟨Nat.le_of_ble_eq_true rfl, Nat.le_of_ble_eq_true rfl⟩ hP hD hS hA [0, 1, 2] [] rfl (by decide) rfl (by decide) (by decide) [0, 1, 2] (by decide) (fun _ => rfl) 5 rfl rfl hl.1 rfl rfl (Nat.le_of_ble_eq_true rfl) ⟨Nat.zero_le _, Nat.zero_le _⟩ dX6_readWord_69 (fun r_20 u_21 H locs hf hP hD hS => ?_)
            refine lv_goto (tgt := 76) hx hb dX6_readWord_72 (by decide) ?_
            refine z_put (w' := cl_X6 cI cJ a (u_21.1, u_21.2.1, u_21.2.2.1, u_21.2.2.2.1, r_20, u_21.2.2.2.2.2.1, u_21.2.2.2.2.2.2)) (ci := 5) (v := .int r_20) (ty := .int) (Cn := RX6) (T := TX6) (N := 7) X inX6 tyX6 tyX6_ok nmX6 hP hD hS 0 rfl rfl 4 (by decide) (hts _ q_fl_X6_56) (fun _ h9 => h9) rfl (tyX6_ok 4 (by decide)) rfl rfl (Nat.le_of_ble_eq_true rfl) rfl dX6_readWord_76 (fun H locs hP hD hS => ?_)
            refine lv_aload_n hx hb dX6_readWord_79 rfl (lv_at hl 0 rfl) ?_
            refine va_get (D := (dC, dI)) (ci := 5) (v := .int r_20) (C := RX6) (T := TX6) (N := 7) hx hb hts inX6 hown hK hP 0 rfl rfl 4 (by decide) (hts _ q_fl_X6_56) (fun _ h9 => h9) rfl dX6_readWord_80 ?_
            refine lv_iconst (v := (-1)) hx hb dX6_readWord_83 (by decide) ?_
            refine lv_icmp_ne (tgt := 96) hx hb dX6_readWord_84 (by decide) (fun c_22 => ?_) (fun c_22 => ?_)
            · have hf := hf.1 c_22
              refine lv_aload_n hx hb dX6_readWord_96 rfl (lv_at hl 0 rfl) ?_
              refine lv_iload_n hx hb dX6_readWord_97 rfl (lv_at hl 2 rfl) ?_
              refine z_put (w' := cl_X6 cI cJ a (u_21.1, u_21.2.1, u_21.2.2.1, y2, r_20, u_21.2.2.2.2.2.1, u_21.2.2.2.2.2.2)) (ci := 5) (v := .int y2) (ty := .int) (Cn := RX6) (T := TX6) (N := 7) X inX6 tyX6 tyX6_ok nmX6 hP hD hS 0 rfl rfl 3 (by decide) (hts _ q_fl_X6_26) (fun _ h9 => h9) rfl (tyX6_ok 3 (by decide)) rfl rfl (Nat.le_of_ble_eq_true rfl) rfl dX6_readWord_98 (fun H locs hP hD hS => ?_)
              refine lv_iconst (v := 1) hx hb dX6_readWord_101 (by decide) ?_
              exact z_retMz (Wf := (fun z => cl_X6 cI cJ a z)) (u := (u_21.1, u_21.2.1, u_21.2.2.1, y2, r_20, u_21.2.2.2.2.2.1, u_21.2.2.2.2.2.2)) X (Or.inr rfl) hf hP hD hS dX6_readWord_102
            · have hf := hf.2 c_22
              refine lv_aload_n hx hb dX6_readWord_87 rfl (lv_at hl 0 rfl) ?_
              refine lv_aload_n hx hb dX6_readWord_88 rfl (lv_at hl 0 rfl) ?_
              refine va_get (D := (dC, dI)) (ci := 5) (v := .int u_21.2.2.2.1) (C := RX6) (T := TX6) (N := 7) hx hb hts inX6 hown hK hP 0 rfl rfl 3 (by decide) (hts _ q_fl_X6_26) (fun _ h9 => h9) rfl dX6_readWord_89 ?_
              refine z_mVi (Wn := (fun u_24 => cl_X6 cI cJ a u_24)) (As := [.int u_21.2.2.2.1]) (rest := []) (wr := []) X (c_X6_isWrong l dC dI cI cJ cS a (u_21.1, u_21.2.1, u_21.2.2.1, u_21.2.2.2.1, r_20, u_21.2.2.2.2.2.1, u_21.2.2.2.2.2.2) u_21.2.2.2.1 _ hf _) zc_X6_isWrong q_ml_X6_39 ⟨rfl, rfl⟩ ⟨Nat.le_of_ble_eq_true rfl, Nat.le_of_ble_eq_true rfl⟩ hP hD hS hA [0, 1, 2] [] rfl (by decide) rfl (by decide) (by decide) [0, 1, 2] (by decide) (fun _ => rfl) 5 rfl rfl hl.1 rfl rfl (Nat.le_of_ble_eq_true rfl) ⟨Nat.zero_le _, Nat.zero_le _⟩ dX6_readWord_92 (fun r_23 u_24 H locs hf hP hD hS => ?_)
              obtain ⟨hbr_23, hf⟩ := hf
              exact z_retMz (Wf := (fun z => cl_X6 cI cJ a z)) (u := u_24) X hbr_23 hf hP hD hS dX6_readWord_95
        · have hf := hf.2 c_14
          refine lv_aload_n hx hb dX6_readWord_20 rfl (lv_at hl 0 rfl) ?_
          refine va_get (D := (dC, dI)) (ci := 5) (v := .ref (a 1)) (C := RX6) (T := TX6) (N := 7) hx hb hts inX6 hown hK hP 0 rfl rfl 0 (by decide) (hts _ q_fl_X6_9) (fun _ h9 => h9) rfl dX6_readWord_21 ?_
          refine lv_iload_n hx hb dX6_readWord_24 rfl (lv_at hl 2 rfl) ?_
          obtain ⟨hg, hf⟩ := hf
          refine va_iald hx hb hK hP 1 0 rfl rfl hg dX6_readWord_25 ?_
          refine lv_bipush (v := 97) hx hb dX6_readWord_26 (by decide) ?_
          refine lv_icmp_lt (tgt := 48) hx hb dX6_readWord_28 (by decide) (fun c_25 => ?_) (fun c_25 => ?_)
          · have hf := hf.1 c_25
            refine lv_aload_n hx hb dX6_readWord_48 rfl (lv_at hl 0 rfl) ?_
            refine lv_aload_n hx hb dX6_readWord_49 rfl (lv_at hl 0 rfl) ?_
            refine va_get (D := (dC, dI)) (ci := 5) (v := .int z.2.2.2.1) (C := RX6) (T := TX6) (N := 7) hx hb hts inX6 hown hK hP 0 rfl rfl 3 (by decide) (hts _ q_fl_X6_26) (fun _ h9 => h9) rfl dX6_readWord_50 ?_
            refine lv_topi (fun x_26 ex_26 => ?_)
            have hf := hf x_26 ex_26
            refine z_put (w' := cl_X6 cI cJ a (z.1, z.2.1, z.2.2.1, z.2.2.2.1, z.2.2.2.2.1, x_26, z.2.2.2.2.2.2)) (ci := 5) (v := .int x_26) (ty := .int) (Cn := RX6) (T := TX6) (N := 7) X inX6 tyX6 tyX6_ok nmX6 hP hD hS 0 rfl rfl 5 (by decide) (hts _ q_fl_X6_49) (fun _ h9 => h9) rfl (tyX6_ok 5 (by decide)) rfl rfl (Nat.le_of_ble_eq_true rfl) rfl dX6_readWord_53 (fun H locs hP hD hS => ?_)
            refine lv_aload_n hx hb dX6_readWord_56 rfl (lv_at hl 0 rfl) ?_
            refine lv_iload_n hx hb dX6_readWord_57 rfl (lv_at hl 1 rfl) ?_
            refine lv_bipush (v := 14) hx hb dX6_readWord_58 (by decide) ?_
            refine lv_icmp_ge (tgt := 75) hx hb dX6_readWord_60 (by decide) (fun c_27 => ?_) (fun c_27 => ?_)
            · have hf := hf.1 c_27
              refine lv_iconst (v := (-1)) hx hb dX6_readWord_75 (by decide) ?_
              refine z_put (w' := cl_X6 cI cJ a (z.1, z.2.1, z.2.2.1, z.2.2.2.1, (-1 : Int32), x_26, z.2.2.2.2.2.2)) (ci := 5) (v := .int (-1 : Int32)) (ty := .int) (Cn := RX6) (T := TX6) (N := 7) X inX6 tyX6 tyX6_ok nmX6 hP hD hS 0 rfl rfl 4 (by decide) (hts _ q_fl_X6_56) (fun _ h9 => h9) rfl (tyX6_ok 4 (by decide)) rfl rfl (Nat.le_of_ble_eq_true rfl) rfl dX6_readWord_76 (fun H locs hP hD hS => ?_)
              refine lv_aload_n hx hb dX6_readWord_79 rfl (lv_at hl 0 rfl) ?_
              refine va_get (D := (dC, dI)) (ci := 5) (v := .int (-1 : Int32)) (C := RX6) (T := TX6) (N := 7) hx hb hts inX6 hown hK hP 0 rfl rfl 4 (by decide) (hts _ q_fl_X6_56) (fun _ h9 => h9) rfl dX6_readWord_80 ?_
              refine lv_iconst (v := (-1)) hx hb dX6_readWord_83 (by decide) ?_
              refine lv_icmp_ne (tgt := 96) hx hb dX6_readWord_84 (by decide) (fun c_28 => ?_) (fun c_28 => ?_)
              · have hf := hf.1 c_28
                refine lv_aload_n hx hb dX6_readWord_96 rfl (lv_at hl 0 rfl) ?_
                refine lv_iload_n hx hb dX6_readWord_97 rfl (lv_at hl 2 rfl) ?_
                refine z_put (w' := cl_X6 cI cJ a (z.1, z.2.1, z.2.2.1, y2, (-1 : Int32), x_26, z.2.2.2.2.2.2)) (ci := 5) (v := .int y2) (ty := .int) (Cn := RX6) (T := TX6) (N := 7) X inX6 tyX6 tyX6_ok nmX6 hP hD hS 0 rfl rfl 3 (by decide) (hts _ q_fl_X6_26) (fun _ h9 => h9) rfl (tyX6_ok 3 (by decide)) rfl rfl (Nat.le_of_ble_eq_true rfl) rfl dX6_readWord_98 (fun H locs hP hD hS => ?_)
                refine lv_iconst (v := 1) hx hb dX6_readWord_101 (by decide) ?_
                exact z_retMz (Wf := (fun z => cl_X6 cI cJ a z)) (u := (z.1, z.2.1, z.2.2.1, y2, (-1 : Int32), x_26, z.2.2.2.2.2.2)) X (Or.inr rfl) hf hP hD hS dX6_readWord_102
              · have hf := hf.2 c_28
                refine lv_aload_n hx hb dX6_readWord_87 rfl (lv_at hl 0 rfl) ?_
                refine lv_aload_n hx hb dX6_readWord_88 rfl (lv_at hl 0 rfl) ?_
                refine va_get (D := (dC, dI)) (ci := 5) (v := .int z.2.2.2.1) (C := RX6) (T := TX6) (N := 7) hx hb hts inX6 hown hK hP 0 rfl rfl 3 (by decide) (hts _ q_fl_X6_26) (fun _ h9 => h9) rfl dX6_readWord_89 ?_
                refine z_mVi (Wn := (fun u_30 => cl_X6 cI cJ a u_30)) (As := [.int z.2.2.2.1]) (rest := []) (wr := []) X (c_X6_isWrong l dC dI cI cJ cS a (z.1, z.2.1, z.2.2.1, z.2.2.2.1, (-1 : Int32), x_26, z.2.2.2.2.2.2) z.2.2.2.1 _ hf _) zc_X6_isWrong q_ml_X6_39 ⟨rfl, rfl⟩ ⟨Nat.le_of_ble_eq_true rfl, Nat.le_of_ble_eq_true rfl⟩ hP hD hS hA [0, 1, 2] [] rfl (by decide) rfl (by decide) (by decide) [0, 1, 2] (by decide) (fun _ => rfl) 5 rfl rfl hl.1 rfl rfl (Nat.le_of_ble_eq_true rfl) ⟨Nat.zero_le _, Nat.zero_le _⟩ dX6_readWord_92 (fun r_29 u_30 H locs hf hP hD hS => ?_)
                obtain ⟨hbr_29, hf⟩ := hf
                exact z_retMz (Wf := (fun z => cl_X6 cI cJ a z)) (u := u_30) X hbr_29 hf hP hD hS dX6_readWord_95
            · have hf := hf.2 c_27
              refine lv_aload_n hx hb dX6_readWord_63 rfl (lv_at hl 0 rfl) ?_
              refine lv_aload_n hx hb dX6_readWord_64 rfl (lv_at hl 0 rfl) ?_
              refine va_get (D := (dC, dI)) (ci := 5) (v := .int z.2.2.2.1) (C := RX6) (T := TX6) (N := 7) hx hb hts inX6 hown hK hP 0 rfl rfl 3 (by decide) (hts _ q_fl_X6_26) (fun _ h9 => h9) rfl dX6_readWord_65 ?_
              refine lv_iload_n hx hb dX6_readWord_68 rfl (lv_at hl 2 rfl) ?_
              refine z_mViF (Wn := (fun u_32 => cl_X6 cI cJ a u_32)) (As := [.int z.2.2.2.1, .int y2]) (rest := [.ref (a 0)]) (wr := []) X fro_Fz hF (c_X6_actCalled l dC dI cI cJ cS a (z.1, z.2.1, z.2.2.1, z.2.2.2.1, z.2.2.2.2.1, x_26, z.2.2.2.2.2.2) z.2.2.2.1 y2 _ hf _) zc_X6_actCalled q_ml_X6_52 ⟨rfl, rfl⟩ ⟨Nat.le_of_ble_eq_true rfl, Nat.le_of_ble_eq_true rfl⟩ hP hD hS hA [0, 1, 2] [] rfl (by decide) rfl (by decide) (by decide) [0, 1, 2] (by decide) (fun _ => rfl) 5 rfl rfl hl.1 rfl rfl (Nat.le_of_ble_eq_true rfl) ⟨Nat.zero_le _, Nat.zero_le _⟩ dX6_readWord_69 (fun r_31 u_32 H locs hf hP hD hS => ?_)
              refine lv_goto (tgt := 76) hx hb dX6_readWord_72 (by decide) ?_
              refine z_put (w' := cl_X6 cI cJ a (u_32.1, u_32.2.1, u_32.2.2.1, u_32.2.2.2.1, r_31, u_32.2.2.2.2.2.1, u_32.2.2.2.2.2.2)) (ci := 5) (v := .int r_31) (ty := .int) (Cn := RX6) (T := TX6) (N := 7) X inX6 tyX6 tyX6_ok nmX6 hP hD hS 0 rfl rfl 4 (by decide) (hts _ q_fl_X6_56) (fun _ h9 => h9) rfl (tyX6_ok 4 (by decide)) rfl rfl (Nat.le_of_ble_eq_true rfl) rfl dX6_readWord_76 (fun H locs hP hD hS => ?_)
              refine lv_aload_n hx hb dX6_readWord_79 rfl (lv_at hl 0 rfl) ?_
              refine va_get (D := (dC, dI)) (ci := 5) (v := .int r_31) (C := RX6) (T := TX6) (N := 7) hx hb hts inX6 hown hK hP 0 rfl rfl 4 (by decide) (hts _ q_fl_X6_56) (fun _ h9 => h9) rfl dX6_readWord_80 ?_
              refine lv_iconst (v := (-1)) hx hb dX6_readWord_83 (by decide) ?_
              refine lv_icmp_ne (tgt := 96) hx hb dX6_readWord_84 (by decide) (fun c_33 => ?_) (fun c_33 => ?_)
              · have hf := hf.1 c_33
                refine lv_aload_n hx hb dX6_readWord_96 rfl (lv_at hl 0 rfl) ?_
                refine lv_iload_n hx hb dX6_readWord_97 rfl (lv_at hl 2 rfl) ?_
                refine z_put (w' := cl_X6 cI cJ a (u_32.1, u_32.2.1, u_32.2.2.1, y2, r_31, u_32.2.2.2.2.2.1, u_32.2.2.2.2.2.2)) (ci := 5) (v := .int y2) (ty := .int) (Cn := RX6) (T := TX6) (N := 7) X inX6 tyX6 tyX6_ok nmX6 hP hD hS 0 rfl rfl 3 (by decide) (hts _ q_fl_X6_26) (fun _ h9 => h9) rfl (tyX6_ok 3 (by decide)) rfl rfl (Nat.le_of_ble_eq_true rfl) rfl dX6_readWord_98 (fun H locs hP hD hS => ?_)
                refine lv_iconst (v := 1) hx hb dX6_readWord_101 (by decide) ?_
                exact z_retMz (Wf := (fun z => cl_X6 cI cJ a z)) (u := (u_32.1, u_32.2.1, u_32.2.2.1, y2, r_31, u_32.2.2.2.2.2.1, u_32.2.2.2.2.2.2)) X (Or.inr rfl) hf hP hD hS dX6_readWord_102
              · have hf := hf.2 c_33
                refine lv_aload_n hx hb dX6_readWord_87 rfl (lv_at hl 0 rfl) ?_
                refine lv_aload_n hx hb dX6_readWord_88 rfl (lv_at hl 0 rfl) ?_
                refine va_get (D := (dC, dI)) (ci := 5) (v := .int u_32.2.2.2.1) (C := RX6) (T := TX6) (N := 7) hx hb hts inX6 hown hK hP 0 rfl rfl 3 (by decide) (hts _ q_fl_X6_26) (fun _ h9 => h9) rfl dX6_readWord_89 ?_
                refine z_mVi (Wn := (fun u_35 => cl_X6 cI cJ a u_35)) (As := [.int u_32.2.2.2.1]) (rest := []) (wr := []) X (c_X6_isWrong l dC dI cI cJ cS a (u_32.1, u_32.2.1, u_32.2.2.1, u_32.2.2.2.1, r_31, u_32.2.2.2.2.2.1, u_32.2.2.2.2.2.2) u_32.2.2.2.1 _ hf _) zc_X6_isWrong q_ml_X6_39 ⟨rfl, rfl⟩ ⟨Nat.le_of_ble_eq_true rfl, Nat.le_of_ble_eq_true rfl⟩ hP hD hS hA [0, 1, 2] [] rfl (by decide) rfl (by decide) (by decide) [0, 1, 2] (by decide) (fun _ => rfl) 5 rfl rfl hl.1 rfl rfl (Nat.le_of_ble_eq_true rfl) ⟨Nat.zero_le _, Nat.zero_le _⟩ dX6_readWord_92 (fun r_34 u_35 H locs hf hP hD hS => ?_)
                obtain ⟨hbr_34, hf⟩ := hf
                exact z_retMz (Wf := (fun z => cl_X6 cI cJ a z)) (u := u_35) X hbr_34 hf hP hD hS dX6_readWord_95
          · have hf := hf.2 c_25
            refine lv_aload_n hx hb dX6_readWord_31 rfl (lv_at hl 0 rfl) ?_
            refine va_get (D := (dC, dI)) (ci := 5) (v := .ref (a 1)) (C := RX6) (T := TX6) (N := 7) hx hb hts inX6 hown hK hP 0 rfl rfl 0 (by decide) (hts _ q_fl_X6_9) (fun _ h9 => h9) rfl dX6_readWord_32 ?_
            refine lv_iload_n hx hb dX6_readWord_35 rfl (lv_at hl 2 rfl) ?_
            obtain ⟨hg, hf⟩ := hf
            refine va_iald hx hb hK hP 1 0 rfl rfl hg dX6_readWord_36 ?_
            refine lv_bipush (v := 122) hx hb dX6_readWord_37 (by decide) ?_
            refine lv_icmp_gt (tgt := 48) hx hb dX6_readWord_39 (by decide) (fun c_36 => ?_) (fun c_36 => ?_)
            · have hf := hf.1 c_36
              refine lv_aload_n hx hb dX6_readWord_48 rfl (lv_at hl 0 rfl) ?_
              refine lv_aload_n hx hb dX6_readWord_49 rfl (lv_at hl 0 rfl) ?_
              refine va_get (D := (dC, dI)) (ci := 5) (v := .int z.2.2.2.1) (C := RX6) (T := TX6) (N := 7) hx hb hts inX6 hown hK hP 0 rfl rfl 3 (by decide) (hts _ q_fl_X6_26) (fun _ h9 => h9) rfl dX6_readWord_50 ?_
              refine lv_topi (fun x_37 ex_37 => ?_)
              have hf := hf x_37 ex_37
              refine z_put (w' := cl_X6 cI cJ a (z.1, z.2.1, z.2.2.1, z.2.2.2.1, z.2.2.2.2.1, x_37, z.2.2.2.2.2.2)) (ci := 5) (v := .int x_37) (ty := .int) (Cn := RX6) (T := TX6) (N := 7) X inX6 tyX6 tyX6_ok nmX6 hP hD hS 0 rfl rfl 5 (by decide) (hts _ q_fl_X6_49) (fun _ h9 => h9) rfl (tyX6_ok 5 (by decide)) rfl rfl (Nat.le_of_ble_eq_true rfl) rfl dX6_readWord_53 (fun H locs hP hD hS => ?_)
              refine lv_aload_n hx hb dX6_readWord_56 rfl (lv_at hl 0 rfl) ?_
              refine lv_iload_n hx hb dX6_readWord_57 rfl (lv_at hl 1 rfl) ?_
              refine lv_bipush (v := 14) hx hb dX6_readWord_58 (by decide) ?_
              refine lv_icmp_ge (tgt := 75) hx hb dX6_readWord_60 (by decide) (fun c_38 => ?_) (fun c_38 => ?_)
              · have hf := hf.1 c_38
                refine lv_iconst (v := (-1)) hx hb dX6_readWord_75 (by decide) ?_
                refine z_put (w' := cl_X6 cI cJ a (z.1, z.2.1, z.2.2.1, z.2.2.2.1, (-1 : Int32), x_37, z.2.2.2.2.2.2)) (ci := 5) (v := .int (-1 : Int32)) (ty := .int) (Cn := RX6) (T := TX6) (N := 7) X inX6 tyX6 tyX6_ok nmX6 hP hD hS 0 rfl rfl 4 (by decide) (hts _ q_fl_X6_56) (fun _ h9 => h9) rfl (tyX6_ok 4 (by decide)) rfl rfl (Nat.le_of_ble_eq_true rfl) rfl dX6_readWord_76 (fun H locs hP hD hS => ?_)
                refine lv_aload_n hx hb dX6_readWord_79 rfl (lv_at hl 0 rfl) ?_
                refine va_get (D := (dC, dI)) (ci := 5) (v := .int (-1 : Int32)) (C := RX6) (T := TX6) (N := 7) hx hb hts inX6 hown hK hP 0 rfl rfl 4 (by decide) (hts _ q_fl_X6_56) (fun _ h9 => h9) rfl dX6_readWord_80 ?_
                refine lv_iconst (v := (-1)) hx hb dX6_readWord_83 (by decide) ?_
                refine lv_icmp_ne (tgt := 96) hx hb dX6_readWord_84 (by decide) (fun c_39 => ?_) (fun c_39 => ?_)
                · have hf := hf.1 c_39
                  refine lv_aload_n hx hb dX6_readWord_96 rfl (lv_at hl 0 rfl) ?_
                  refine lv_iload_n hx hb dX6_readWord_97 rfl (lv_at hl 2 rfl) ?_
                  refine z_put (w' := cl_X6 cI cJ a (z.1, z.2.1, z.2.2.1, y2, (-1 : Int32), x_37, z.2.2.2.2.2.2)) (ci := 5) (v := .int y2) (ty := .int) (Cn := RX6) (T := TX6) (N := 7) X inX6 tyX6 tyX6_ok nmX6 hP hD hS 0 rfl rfl 3 (by decide) (hts _ q_fl_X6_26) (fun _ h9 => h9) rfl (tyX6_ok 3 (by decide)) rfl rfl (Nat.le_of_ble_eq_true rfl) rfl dX6_readWord_98 (fun H locs hP hD hS => ?_)
                  refine lv_iconst (v := 1) hx hb dX6_readWord_101 (by decide) ?_
                  exact z_retMz (Wf := (fun z => cl_X6 cI cJ a z)) (u := (z.1, z.2.1, z.2.2.1, y2, (-1 : Int32), x_37, z.2.2.2.2.2.2)) X (Or.inr rfl) hf hP hD hS dX6_readWord_102
                · have hf := hf.2 c_39
                  refine lv_aload_n hx hb dX6_readWord_87 rfl (lv_at hl 0 rfl) ?_
                  refine lv_aload_n hx hb dX6_readWord_88 rfl (lv_at hl 0 rfl) ?_
                  refine va_get (D := (dC, dI)) (ci := 5) (v := .int z.2.2.2.1) (C := RX6) (T := TX6) (N := 7) hx hb hts inX6 hown hK hP 0 rfl rfl 3 (by decide) (hts _ q_fl_X6_26) (fun _ h9 => h9) rfl dX6_readWord_89 ?_
                  refine z_mVi (Wn := (fun u_41 => cl_X6 cI cJ a u_41)) (As := [.int z.2.2.2.1]) (rest := []) (wr := []) X (c_X6_isWrong l dC dI cI cJ cS a (z.1, z.2.1, z.2.2.1, z.2.2.2.1, (-1 : Int32), x_37, z.2.2.2.2.2.2) z.2.2.2.1 _ hf _) zc_X6_isWrong q_ml_X6_39 ⟨rfl, rfl⟩ ⟨Nat.le_of_ble_eq_true rfl, Nat.le_of_ble_eq_true rfl⟩ hP hD hS hA [0, 1, 2] [] rfl (by decide) rfl (by decide) (by decide) [0, 1, 2] (by decide) (fun _ => rfl) 5 rfl rfl hl.1 rfl rfl (Nat.le_of_ble_eq_true rfl) ⟨Nat.zero_le _, Nat.zero_le _⟩ dX6_readWord_92 (fun r_40 u_41 H locs hf hP hD hS => ?_)
                  obtain ⟨hbr_40, hf⟩ := hf
                  exact z_retMz (Wf := (fun z => cl_X6 cI cJ a z)) (u := u_41) X hbr_40 hf hP hD hS dX6_readWord_95
              · have hf := hf.2 c_38
                refine lv_aload_n hx hb dX6_readWord_63 rfl (lv_at hl 0 rfl) ?_
                refine lv_aload_n hx hb dX6_readWord_64 rfl (lv_at hl 0 rfl) ?_
                refine va_get (D := (dC, dI)) (ci := 5) (v := .int z.2.2.2.1) (C := RX6) (T := TX6) (N := 7) hx hb hts inX6 hown hK hP 0 rfl rfl 3 (by decide) (hts _ q_fl_X6_26) (fun _ h9 => h9) rfl dX6_readWord_65 ?_
                refine lv_iload_n hx hb dX6_readWord_68 rfl (lv_at hl 2 rfl) ?_
                refine z_mViF (Wn := (fun u_43 => cl_X6 cI cJ a u_43)) (As := [.int z.2.2.2.1, .int y2]) (rest := [.ref (a 0)]) (wr := []) X fro_Fz hF (c_X6_actCalled l dC dI cI cJ cS a (z.1, z.2.1, z.2.2.1, z.2.2.2.1, z.2.2.2.2.1, x_37, z.2.2.2.2.2.2) z.2.2.2.1 y2 _ hf _) zc_X6_actCalled q_ml_X6_52 ⟨rfl, rfl⟩ ⟨Nat.le_of_ble_eq_true rfl, Nat.le_of_ble_eq_true rfl⟩ hP hD hS hA [0, 1, 2] [] rfl (by decide) rfl (by decide) (by decide) [0, 1, 2] (by decide) (fun _ => rfl) 5 rfl rfl hl.1 rfl rfl (Nat.le_of_ble_eq_true rfl) ⟨Nat.zero_le _, Nat.zero_le _⟩ dX6_readWord_69 (fun r_42 u_43 H locs hf hP hD hS => ?_)
                refine lv_goto (tgt := 76) hx hb dX6_readWord_72 (by decide) ?_
                refine z_put (w' := cl_X6 cI cJ a (u_43.1, u_43.2.1, u_43.2.2.1, u_43.2.2.2.1, r_42, u_43.2.2.2.2.2.1, u_43.2.2.2.2.2.2)) (ci := 5) (v := .int r_42) (ty := .int) (Cn := RX6) (T := TX6) (N := 7) X inX6 tyX6 tyX6_ok nmX6 hP hD hS 0 rfl rfl 4 (by decide) (hts _ q_fl_X6_56) (fun _ h9 => h9) rfl (tyX6_ok 4 (by decide)) rfl rfl (Nat.le_of_ble_eq_true rfl) rfl dX6_readWord_76 (fun H locs hP hD hS => ?_)
                refine lv_aload_n hx hb dX6_readWord_79 rfl (lv_at hl 0 rfl) ?_
                refine va_get (D := (dC, dI)) (ci := 5) (v := .int r_42) (C := RX6) (T := TX6) (N := 7) hx hb hts inX6 hown hK hP 0 rfl rfl 4 (by decide) (hts _ q_fl_X6_56) (fun _ h9 => h9) rfl dX6_readWord_80 ?_
                refine lv_iconst (v := (-1)) hx hb dX6_readWord_83 (by decide) ?_
                refine lv_icmp_ne (tgt := 96) hx hb dX6_readWord_84 (by decide) (fun c_44 => ?_) (fun c_44 => ?_)
                · have hf := hf.1 c_44
                  refine lv_aload_n hx hb dX6_readWord_96 rfl (lv_at hl 0 rfl) ?_
                  refine lv_iload_n hx hb dX6_readWord_97 rfl (lv_at hl 2 rfl) ?_
                  refine z_put (w' := cl_X6 cI cJ a (u_43.1, u_43.2.1, u_43.2.2.1, y2, r_42, u_43.2.2.2.2.2.1, u_43.2.2.2.2.2.2)) (ci := 5) (v := .int y2) (ty := .int) (Cn := RX6) (T := TX6) (N := 7) X inX6 tyX6 tyX6_ok nmX6 hP hD hS 0 rfl rfl 3 (by decide) (hts _ q_fl_X6_26) (fun _ h9 => h9) rfl (tyX6_ok 3 (by decide)) rfl rfl (Nat.le_of_ble_eq_true rfl) rfl dX6_readWord_98 (fun H locs hP hD hS => ?_)
                  refine lv_iconst (v := 1) hx hb dX6_readWord_101 (by decide) ?_
                  exact z_retMz (Wf := (fun z => cl_X6 cI cJ a z)) (u := (u_43.1, u_43.2.1, u_43.2.2.1, y2, r_42, u_43.2.2.2.2.2.1, u_43.2.2.2.2.2.2)) X (Or.inr rfl) hf hP hD hS dX6_readWord_102
                · have hf := hf.2 c_44
                  refine lv_aload_n hx hb dX6_readWord_87 rfl (lv_at hl 0 rfl) ?_
                  refine lv_aload_n hx hb dX6_readWord_88 rfl (lv_at hl 0 rfl) ?_
                  refine va_get (D := (dC, dI)) (ci := 5) (v := .int u_43.2.2.2.1) (C := RX6) (T := TX6) (N := 7) hx hb hts inX6 hown hK hP 0 rfl rfl 3 (by decide) (hts _ q_fl_X6_26) (fun _ h9 => h9) rfl dX6_readWord_89 ?_
                  refine z_mVi (Wn := (fun u_46 => cl_X6 cI cJ a u_46)) (As := [.int u_43.2.2.2.1]) (rest := []) (wr := []) X (c_X6_isWrong l dC dI cI cJ cS a (u_43.1, u_43.2.1, u_43.2.2.1, u_43.2.2.2.1, r_42, u_43.2.2.2.2.2.1, u_43.2.2.2.2.2.2) u_43.2.2.2.1 _ hf _) zc_X6_isWrong q_ml_X6_39 ⟨rfl, rfl⟩ ⟨Nat.le_of_ble_eq_true rfl, Nat.le_of_ble_eq_true rfl⟩ hP hD hS hA [0, 1, 2] [] rfl (by decide) rfl (by decide) (by decide) [0, 1, 2] (by decide) (fun _ => rfl) 5 rfl rfl hl.1 rfl rfl (Nat.le_of_ble_eq_true rfl) ⟨Nat.zero_le _, Nat.zero_le _⟩ dX6_readWord_92 (fun r_45 u_46 H locs hf hP hD hS => ?_)
                  obtain ⟨hbr_45, hf⟩ := hf
                  exact z_retMz (Wf := (fun z => cl_X6 cI cJ a z)) (u := u_46) X hbr_45 hf hP hD hS dX6_readWord_95
            · have hf := hf.2 c_36
              obtain ⟨x_47, ex_47⟩ : ∃ y : Int32, y = y2 + (1 : Int32) := ⟨_, rfl⟩
              have hf := hf x_47 ex_47
              refine lv_iinc (v := x_47) (lv' := [(2, .int x_47), (0, .ref (a 0)), (1, .int x1)]) hx hb dX6_readWord_42 hl (k := 2) rfl (by rw [ex_47]; rfl) (by decide) rfl (fun ls hl => ?_)
              refine lv_goto (tgt := 5) hx hb dX6_readWord_45 (by decide) ?_
              obtain ⟨k_48, hk_48, hf⟩ := hf
              exact (ih k_48 hk_48) _ z _ _ ls hf hP hD hS (lv_sub hl [1, 2, 0] rfl)
  unfold t_X6_readWord_e at hf
  refine lv_aload_n hx hb dX6_readWord_0 rfl (lv_at hl 0 rfl) ?_
  refine va_get (D := (dC, dI)) (ci := 5) (v := .int u.2.2.2.1) (C := RX6) (T := TX6) (N := 7) hx hb hts inX6 hown hK hP 0 rfl rfl 3 (by decide) (hts _ q_fl_X6_26) (fun _ h9 => h9) rfl dX6_readWord_1 ?_
  refine lv_topi (fun x_1 ex_1 => ?_)
  have hf := hf x_1 ex_1
  refine lv_istore_n (lv' := [(2, .int x_1), (0, .ref (a 0)), (1, .int x1)]) hx hb dX6_readWord_4 rfl hl (by decide) rfl (fun ls hl => ?_)
  obtain ⟨k_2, hf⟩ := hf
  exact (LP k_2) _ u _ _ ls hf hP hD hS (lv_sub hl [1, 2, 0] rfl)
def rwT (x1 y2 : Int32) (z : zTape) (Q : Int32 → zTape → Prop) : Prop := ∀ x_4 : Int32, x_4 = z.2.2.2.1 → (((14 : Int32) ≤ x1 → ((¬ (-1 : Int32) = (-1 : Int32) → Q (1 : Int32) (z.1, z.2.1, z.2.2.1, y2, (-1 : Int32), x_4, z.2.2.2.2.2.2)) ∧ ((-1 : Int32) = (-1 : Int32) → s_X6_isWrong (z.1, z.2.1, z.2.2.1, z.2.2.2.1, (-1 : Int32), x_4, z.2.2.2.2.2.2) z.2.2.2.1 (fun (r_7 : Int32) (u_8 : zTape) => Q r_7 u_8)))) ∧ (¬ (14 : Int32) ≤ x1 → s_X6_actCalled (z.1, z.2.1, z.2.2.1, z.2.2.2.1, z.2.2.2.2.1, x_4, z.2.2.2.2.2.2) z.2.2.2.1 y2 (fun (r_9 : Int32) (u_10 : zTape) => ((¬ r_9 = (-1 : Int32) → Q (1 : Int32) (u_10.1, u_10.2.1, u_10.2.2.1, y2, r_9, u_10.2.2.2.2.2.1, u_10.2.2.2.2.2.2)) ∧ (r_9 = (-1 : Int32) → s_X6_isWrong (u_10.1, u_10.2.1, u_10.2.2.1, u_10.2.2.2.1, r_9, u_10.2.2.2.2.2.1, u_10.2.2.2.2.2.2) u_10.2.2.2.1 (fun (r_12 : Int32) (u_13 : zTape) => Q r_12 u_13))))))
theorem called_of {u : zTape} {x1 x2 : Int32} {Q : Int32 → zTape → Prop} {p e K : Nat} (hpe : p ≤ e) (he : e ≤ 400) (e1 : x1 = nI p) (e2 : x2 = nI e) (eK : fa_first (fun i => isWd u.1 p e i) 10 = K) (h10 : K = 10 → Q (-1) u) (h : ¬ K = 10 → Q (nI K) u) : s_X6_actCalled u x1 x2 Q := by
  refine ⟨p, e, hpe, he, e1, e2, ?_⟩
  rw [eK]
  by_cases c : K = 10
  · rw [if_pos c]; exact h10 c
  · rw [if_neg c]; exact h c
def s_X6_readWord (u : zTape) (x1 : Int32) (Q : Int32 → zTape → Prop) : Prop := ∃ N p n : Nat, tTx u N p ∧ n ≤ 16 ∧ x1 = nI n ∧ (n < 14 → ¬ wdK u.1 N p = 10 → Q 1 (u.1, u.2.1, u.2.2.1, nI (wdE u.1 N p), nI (wdK u.1 N p), nI p, u.2.2.2.2.2.2)) ∧ (14 ≤ n ∨ wdK u.1 N p = 10 → Q 0 (u.1, u.2.1, u.2.2.1, u.2.2.2.1, -1, nI p, nI p))
theorem st_X6_readWord {u : zTape} {x1 : Int32} {Q : Int32 → zTape → Prop} (h : s_X6_readWord u x1 Q) : v_X6_readWord u x1 Q := by
  obtain ⟨N, p, n, ht, hn, rfl, h1, h0⟩ := h
  have hN := ht.1
  have hp := ht.2.1
  have eN := ht.2.2.1
  have ep := ht.2.2.2
  have heN : wdE u.1 N p ≤ N := pRun_le _ hp
  have hep : p ≤ wdE u.1 N p := pRun_ge _ _ _
  have fin : rwT (nI n) (nI (wdE u.1 N p)) u Q := by
    intro x ex
    rw [ep] at ex
    subst ex
    have hK10 : wdK u.1 N p ≤ 10 := wdK_le u.1 N p
    refine ⟨fun c => ⟨fun z => absurd rfl z, fun _ => ?_⟩, fun c => called_of (K := wdK u.1 N p) hep (by omega) ep rfl rfl (fun hK => ⟨fun z => absurd rfl z, fun _ => ?_⟩) (fun hK => ⟨fun _ => ?_, fun z => absurd z (n_neg (by omega))⟩)⟩
    · have := (nI_leI (a := 14) (b := n) (by decide) (by omega)).mp c
      have := h0 (Or.inl this)
      show Q 0 (u.1, u.2.1, u.2.2.1, u.2.2.2.1, -1, nI p, u.2.2.2.1)
      rw [ep] at this ⊢
      exact this
    · have := h0 (Or.inr hK)
      show Q 0 (u.1, u.2.1, u.2.2.1, u.2.2.2.1, -1, nI p, u.2.2.2.1)
      rw [ep] at this ⊢
      exact this
    · have hn14 : n < 14 := by
        have : ¬ 14 ≤ n := fun z => c (nI_le (a := 14) z (by omega))
        omega
      exact h1 hn14 hK
  refine ⟨fun m y2 z => ∃ k : Nat, p ≤ k ∧ k ≤ N ∧ m = N - k ∧ y2 = nI k ∧ z = u ∧ wdE u.1 N p = wdE u.1 N k, ?_, ?_⟩
  · rintro m y2 z ⟨k, hk, hkN, rfl, rfl, rfl, er⟩
    have stop : ¬ (k < N ∧ isLw z.1 k = true) → wdE z.1 N p = k := fun c => er.trans (pRun_no c)
    have go : ¬ (k < N ∧ isLw z.1 k = true) → rwT (nI n) (nI k) z Q := fun c => by
      rw [stop c] at fin
      exact fin
    refine ⟨fun c => go (fun q => ?_), fun c => ?_⟩
    · rw [eN] at c
      have := (nI_leI (by omega) (by omega)).mp c
      omega
    · rw [eN] at c
      have hkl : ¬ N ≤ k := fun z => c (nI_le z (by omega))
      have hcl : (nI k).toNatClampNeg = k := nI_clamp (by omega)
      refine ⟨fun c4 => absurd ((nI_leI (a := 400) (b := k) (by decide) (by omega)).mp c4) (by omega), fun _ => ⟨vp_in_nI (by omega) (by decide), fun d => go (fun q => (of_decide_eq_true q.2).1 ?_), fun d => ⟨vp_in_nI (by omega) (by decide), fun d2 => go (fun q => (of_decide_eq_true q.2).2 ?_), fun d2 x ex => ?_⟩⟩⟩
      · rw [hcl] at d; exact d
      · rw [hcl] at d2; exact d2
      · rw [hcl] at d d2
        exact ⟨N - (k + 1), by omega, k + 1, by omega, by omega, rfl, by rw [ex, nI_1], rfl, er.trans (pRun_yes (by omega) (decide_eq_true ⟨d, d2⟩))⟩
  · intro x ex
    exact ⟨N - p, p, Nat.le_refl _, hp, rfl, ex.trans ep, rfl, rfl⟩
theorem c_X6_readWord (l : Launch) (dC : Nat → ClassId) (dI : Nat → Nat → Nat) (cI cJ cS : ClassId) (a : Nat → Nat) (u : zTape) (x1 : Int32) (Q : Int32 → zTape → Prop) (hf : s_X6_readWord u x1 Q) : ∀ sz : Nat, Met l yX6_readWord (Cond.code yX6_readWord cX6_readWord 3 (some .boolean) :: zT) rm_X6_readWord (zPmF zFz dC dI cI cJ cS (cl_X6 cI cJ a u) [.ref (a 0), .int x1] sz) (va_Qi (fun r u => (r = 0 ∨ r = 1) ∧ Q r u) (zB dC dI cI cJ cS (va_A (cl_X6 cI cJ a u) sz) (fun z => cl_X6 cI cJ a z)) (va_A (cl_X6 cI cJ a u) sz)) 0 0 (va_A (cl_X6 cI cJ a u) sz) := by
  obtain ⟨I5, h5, hf⟩ := st_X6_readWord hf
  exact L_X6_readWord l dC dI cI cJ cS a u x1 Q I5 h5 hf
