def t_X5_collect_e (u : zState) (x1 : Int32) (K4 : Int32 → Int32 → zState → Prop) (Q : Int32 → zState → Prop) : Prop := K4 (0 : Int32) (0 : Int32) u
def t_X5_collect_4 (x1 : Int32) (y2 : Int32) (y3 : Int32) (z : zState) (K4 : Int32 → Int32 → zState → Prop) (Q : Int32 → zState → Prop) : Prop := ((x1 ≤ y3 → Q y2 z) ∧ (¬ x1 ≤ y3 → s_X1_isOn z.2.2.2.2.1 (fun r_3 : Int32 => ((r_3 = 0 → Q y2 z) ∧ (¬ r_3 = 0 → s_X1_left z.2.2.2.2.1 (fun r_5 : Int32 => ((r_5 ≤ 0 → s_X1_left z.2.2.2.2.1 (fun r_7 : Int32 => ((¬ r_7 = 0 → ∀ x_9 : Int32, x_9 = y3 + (1 : Int32) → K4 y2 x_9 z) ∧ (r_7 = 0 → s_X5_endCollection z (fun (u_12 : zState) => ∀ x_13 : Int32, x_13 = y3 + (1 : Int32) → K4 y2 x_13 u_12))))) ∧ (¬ r_5 ≤ 0 → s_X1_ahead z.2.2.2.2.1 (0 : Int32) (fun r_15 : Int64 => s_X5_isLive z r_15 (fun r_16 : Int32 => ((¬ r_16 = 0 → s_X0_sizeOf r_15 (fun r_18 : Int32 => s_X5_fits z r_18 (fun r_19 : Int32 => ((r_19 = 0 → Q y2 z) ∧ (¬ r_19 = 0 → s_X0_keyOf r_15 (fun r_21 : Int32 => s_X0_lengthOf r_15 (fun r_22 : Int32 => s_X0_seedOf r_15 (fun r_23 : Int32 => s_X5_enter z r_21 r_22 r_23 (fun (r_24 : Int32) (u_25 : zState) => ∀ x_26 : Int32, x_26 = (u_25.2.1.2.2.2.1 + (1 : Int32)) → ∀ x_27 : Int32, x_27 = y2 + (1 : Int32) → ∀ x_28 : Int32, x_28 = (u_25.2.2.2.2.1.2.2.2 + (1 : Int32)) → s_X1_left (u_25.2.2.2.2.1.1, u_25.2.2.2.2.1.2.1, u_25.2.2.2.2.1.2.2.1, x_28) (fun r_29 : Int32 => ((¬ r_29 = 0 → ∀ x_31 : Int32, x_31 = y3 + (1 : Int32) → K4 x_27 x_31 (u_25.1, (u_25.2.1.1, u_25.2.1.2.1, u_25.2.1.2.2.1, x_26, u_25.2.1.2.2.2.2), u_25.2.2.1, u_25.2.2.2.1, (u_25.2.2.2.2.1.1, u_25.2.2.2.2.1.2.1, u_25.2.2.2.2.1.2.2.1, x_28), u_25.2.2.2.2.2.1, u_25.2.2.2.2.2.2.1, u_25.2.2.2.2.2.2.2.1, u_25.2.2.2.2.2.2.2.2)) ∧ (r_29 = 0 → s_X5_endCollection (u_25.1, (u_25.2.1.1, u_25.2.1.2.1, u_25.2.1.2.2.1, x_26, u_25.2.1.2.2.2.2), u_25.2.2.1, u_25.2.2.2.1, (u_25.2.2.2.2.1.1, u_25.2.2.2.2.1.2.1, u_25.2.2.2.2.1.2.2.1, x_28), u_25.2.2.2.2.2.1, u_25.2.2.2.2.2.2.1, u_25.2.2.2.2.2.2.2.1, u_25.2.2.2.2.2.2.2.2) (fun (u_34 : zState) => ∀ x_35 : Int32, x_35 = y3 + (1 : Int32) → K4 x_27 x_35 u_34))))))))))))) ∧ (r_16 = 0 → ∀ x_37 : Int32, x_37 = (z.2.1.2.2.2.2 + (1 : Int32)) → ∀ x_38 : Int32, x_38 = (z.2.2.2.2.1.2.2.2 + (1 : Int32)) → s_X1_left (z.2.2.2.2.1.1, z.2.2.2.2.1.2.1, z.2.2.2.2.1.2.2.1, x_38) (fun r_39 : Int32 => ((¬ r_39 = 0 → ∀ x_41 : Int32, x_41 = y3 + (1 : Int32) → K4 y2 x_41 (z.1, (z.2.1.1, z.2.1.2.1, z.2.1.2.2.1, z.2.1.2.2.2.1, x_37), z.2.2.1, z.2.2.2.1, (z.2.2.2.2.1.1, z.2.2.2.2.1.2.1, z.2.2.2.2.1.2.2.1, x_38), z.2.2.2.2.2.1, z.2.2.2.2.2.2.1, z.2.2.2.2.2.2.2.1, z.2.2.2.2.2.2.2.2)) ∧ (r_39 = 0 → s_X5_endCollection (z.1, (z.2.1.1, z.2.1.2.1, z.2.1.2.2.1, z.2.1.2.2.2.1, x_37), z.2.2.1, z.2.2.2.1, (z.2.2.2.2.1.1, z.2.2.2.2.1.2.1, z.2.2.2.2.1.2.2.1, x_38), z.2.2.2.2.2.1, z.2.2.2.2.2.2.1, z.2.2.2.2.2.2.2.1, z.2.2.2.2.2.2.2.2) (fun (u_44 : zState) => ∀ x_45 : Int32, x_45 = y3 + (1 : Int32) → K4 y2 x_45 u_44))))))))))))))))
theorem zc_X5_collect : zCalV RX5 yX5_collect cX5_collect 6 (some .int) 1 := ⟨q_im_X5_collect, q_se_X5_collect, q_in_X5, q_cd_X5_collect, ⟨by decide, by decide, by decide +kernel⟩, rfl⟩
abbrev rm_X5_collect : Room := { frames := 5, cells := 0, slots := 0, locals := 140 }
def v_X5_collect (u : zState) (x1 : Int32) (Q : Int32 → zState → Prop) : Prop := ∃ I4 : Nat → Int32 → Int32 → zState → Prop, (∀ (n : Nat) (y2 : Int32) (y3 : Int32) (z : zState), I4 n y2 y3 z → t_X5_collect_4 x1 y2 y3 z (fun q0 q1 q2 => ∃ k : Nat, k < n ∧ I4 k q0 q1 q2) Q) ∧ t_X5_collect_e u x1 (fun q0 q1 q2 => ∃ k : Nat, I4 k q0 q1 q2) Q
set_option maxHeartbeats 4000000 in
set_option maxRecDepth 100000 in
theorem L_X5_collect (l : Launch) (dC : Nat → ClassId) (dI : Nat → Nat → Nat) (cI cJ cS : ClassId) (a : Nat → Nat) (u : zState) (x1 : Int32) (Q : Int32 → zState → Prop) (I4 : Nat → Int32 → Int32 → zState → Prop) (h4 : ∀ (n : Nat) (y2 : Int32) (y3 : Int32) (z : zState), I4 n y2 y3 z → t_X5_collect_4 x1 y2 y3 z (fun q0 q1 q2 => ∃ k : Nat, k < n ∧ I4 k q0 q1 q2) Q) (hf : t_X5_collect_e u x1 (fun q0 q1 q2 => ∃ k : Nat, I4 k q0 q1 q2) Q) : ∀ sz : Nat, Met l yX5_collect (Cond.code yX5_collect cX5_collect 6 (some .int) :: zT) rm_X5_collect (zPm dC dI cI cJ cS (cl_X5 cI cJ a u) [.ref (a 0), .int x1] sz) (va_Qi Q (zB dC dI cI cJ cS (va_A (cl_X5 cI cJ a u) sz) (fun z => cl_X5 cI cJ a z)) (va_A (cl_X5 cI cJ a u) sz)) 0 0 (va_A (cl_X5 cI cJ a u) sz) := by
  intro sz
  refine z_enterM (Qc := fun A => va_Qi Q (zB dC dI cI cJ cS A (fun z => cl_X5 cI cJ a z)) A) (cc := cX5_collect) (maxL := 6) (ret := (some .int)) (by decide) (Nat.le_of_ble_eq_true rfl) ?_
  intro p e s m below meth c ls A X hP hD hS hA hl
  obtain ⟨⟨hx, hb, hml, hown, hts⟩, hr, hlk, hK⟩ := id X
  have hl : lv_has ls 6 [(0, .ref (a 0)), (1, .int x1)] := hl
  have LP : ∀ n : Nat, (∀ (y2 : Int32) (y3 : Int32) (z : zState) (H : Heap) (locs : List Loc) (ls : Array Slot), I4 n y2 y3 z → va_P (dC, dI) vwCl (cl_X5 cI cJ a z) H → va_D A (cl_X5 cI cJ a z) → va_S A s.heap H locs → lv_has ls 6 [(0, .ref (a 0)), (1, .int x1), (2, .int y2), (3, .int y3)] → W p l e rm_X5_collect s m [.ref (a 0), .int x1].toArray below meth c H locs 0 0 (MQ below (va_Qi Q (zB dC dI cI cJ cS A (fun z => cl_X5 cI cJ a z)) A) [.ref (a 0), .int x1].toArray s 0 0 A) (F0 m 4 ls [])) := by
    intro n
    induction n using Nat.strongRecOn with
    | _ n ih =>
      intro y2 y3 z H locs ls hI hP hD hS hl
      have hf := h4 n y2 y3 z hI
      unfold t_X5_collect_4 at hf
      refine lv_iload_n hx hb dX5_collect_4 rfl (lv_at hl 3 rfl) ?_
      refine lv_iload_n hx hb dX5_collect_5 rfl (lv_at hl 1 rfl) ?_
      refine lv_icmp_ge (tgt := 150) hx hb dX5_collect_6 (by decide) (fun c_2 => ?_) (fun c_2 => ?_)
      · have hf := hf.1 c_2
        refine lv_iload_n hx hb dX5_collect_150 rfl (lv_at hl 2 rfl) ?_
        exact z_retMi (Wf := (fun z => cl_X5 cI cJ a z)) (u := z) X hf hP hD hS dX5_collect_151
      · have hf := hf.2 c_2
        refine lv_aload_n hx hb dX5_collect_9 rfl (lv_at hl 0 rfl) ?_
        refine va_get (D := (dC, dI)) (ci := 4) (v := .ref (a 11)) (C := RX5) (T := TX5) (N := 9) hx hb hts inX5 hown hK hP 0 rfl rfl 4 (by decide) (hts _ q_fl_X5_42) (fun _ h9 => h9) rfl dX5_collect_10 ?_
        refine z_cVi (As := []) (rest := []) X (c_X1_isOn l dC dI cI cJ cS (fun i => a (11 + i)) z.2.2.2.2.1  _ hf) zc_X1_isOn q_ml_X5_127 ⟨rfl, rfl⟩ ⟨Nat.le_of_ble_eq_true rfl, Nat.le_of_ble_eq_true rfl⟩ hP [11, 12] rfl 0 rfl rfl hl.1 rfl rfl (Nat.le_of_ble_eq_true rfl) ⟨Nat.zero_le _, Nat.zero_le _⟩ dX5_collect_13 (fun r_3 hf => ?_)
        obtain ⟨hbr_3, hf⟩ := hf
        refine lv_if_eq (tgt := 150) hx hb dX5_collect_16 (by decide) (fun c_4 => ?_) (fun c_4 => ?_)
        · have hf := hf.1 c_4
          refine lv_iload_n hx hb dX5_collect_150 rfl (lv_at hl 2 rfl) ?_
          exact z_retMi (Wf := (fun z => cl_X5 cI cJ a z)) (u := z) X hf hP hD hS dX5_collect_151
        · have hf := hf.2 c_4
          refine lv_aload_n hx hb dX5_collect_19 rfl (lv_at hl 0 rfl) ?_
          refine va_get (D := (dC, dI)) (ci := 4) (v := .ref (a 11)) (C := RX5) (T := TX5) (N := 9) hx hb hts inX5 hown hK hP 0 rfl rfl 4 (by decide) (hts _ q_fl_X5_42) (fun _ h9 => h9) rfl dX5_collect_20 ?_
          refine z_cVi (As := []) (rest := []) X (c_X1_left l dC dI cI cJ cS (fun i => a (11 + i)) z.2.2.2.2.1  _ hf) zc_X1_left q_ml_X5_134 ⟨rfl, rfl⟩ ⟨Nat.le_of_ble_eq_true rfl, Nat.le_of_ble_eq_true rfl⟩ hP [11, 12] rfl 0 rfl rfl hl.1 rfl rfl (Nat.le_of_ble_eq_true rfl) ⟨Nat.zero_le _, Nat.zero_le _⟩ dX5_collect_23 (fun r_5 hf => ?_)
          refine lv_if_le (tgt := 130) hx hb dX5_collect_26 (by decide) (fun c_6 => ?_) (fun c_6 => ?_)
          · have hf := hf.1 c_6
            refine lv_aload_n hx hb dX5_collect_130 rfl (lv_at hl 0 rfl) ?_
            refine va_get (D := (dC, dI)) (ci := 4) (v := .ref (a 11)) (C := RX5) (T := TX5) (N := 9) hx hb hts inX5 hown hK hP 0 rfl rfl 4 (by decide) (hts _ q_fl_X5_42) (fun _ h9 => h9) rfl dX5_collect_131 ?_
            refine z_cVi (As := []) (rest := []) X (c_X1_left l dC dI cI cJ cS (fun i => a (11 + i)) z.2.2.2.2.1  _ hf) zc_X1_left q_ml_X5_134 ⟨rfl, rfl⟩ ⟨Nat.le_of_ble_eq_true rfl, Nat.le_of_ble_eq_true rfl⟩ hP [11, 12] rfl 0 rfl rfl hl.1 rfl rfl (Nat.le_of_ble_eq_true rfl) ⟨Nat.zero_le _, Nat.zero_le _⟩ dX5_collect_134 (fun r_7 hf => ?_)
            refine lv_if_ne (tgt := 144) hx hb dX5_collect_137 (by decide) (fun c_8 => ?_) (fun c_8 => ?_)
            · have hf := hf.1 c_8
              obtain ⟨x_9, ex_9⟩ : ∃ y : Int32, y = y3 + (1 : Int32) := ⟨_, rfl⟩
              have hf := hf x_9 ex_9
              refine lv_iinc (v := x_9) (lv' := [(3, .int x_9), (0, .ref (a 0)), (1, .int x1), (2, .int y2)]) hx hb dX5_collect_144 hl (k := 3) rfl (by rw [ex_9]; rfl) (by decide) rfl (fun ls hl => ?_)
              refine lv_goto (tgt := 4) hx hb dX5_collect_147 (by decide) ?_
              obtain ⟨k_10, hk_10, hf⟩ := hf
              exact (ih k_10 hk_10) _ _ z _ _ ls hf hP hD hS (lv_sub hl [1, 2, 3, 0] rfl)
            · have hf := hf.2 c_8
              refine lv_aload_n hx hb dX5_collect_140 rfl (lv_at hl 0 rfl) ?_
              refine z_mVv (Wn := (fun u_12 => cl_X5 cI cJ a u_12)) (As := []) (rest := []) (wr := []) X (c_X5_endCollection l dC dI cI cJ cS a z  _ hf _) zc_X5_endCollection q_ml_X5_284 ⟨rfl, rfl⟩ ⟨Nat.le_of_ble_eq_true rfl, Nat.le_of_ble_eq_true rfl⟩ hP hD hS hA [0, 1, 2, 3, 4, 5, 6, 7, 8, 9, 10, 11, 12, 13, 14] [] rfl (by decide) rfl (by decide) (by decide) [0, 1, 2, 3, 4, 5, 6, 7, 8, 9, 10, 11, 12, 13, 14] (by decide) (fun _ => rfl) 4 rfl rfl hl.1 rfl rfl (Nat.le_of_ble_eq_true rfl) ⟨Nat.zero_le _, Nat.zero_le _⟩ dX5_collect_141 (fun u_12 H locs hf hP hD hS => ?_)
              obtain ⟨x_13, ex_13⟩ : ∃ y : Int32, y = y3 + (1 : Int32) := ⟨_, rfl⟩
              have hf := hf x_13 ex_13
              refine lv_iinc (v := x_13) (lv' := [(3, .int x_13), (0, .ref (a 0)), (1, .int x1), (2, .int y2)]) hx hb dX5_collect_144 hl (k := 3) rfl (by rw [ex_13]; rfl) (by decide) rfl (fun ls hl => ?_)
              refine lv_goto (tgt := 4) hx hb dX5_collect_147 (by decide) ?_
              obtain ⟨k_14, hk_14, hf⟩ := hf
              exact (ih k_14 hk_14) _ _ u_12 _ _ ls hf hP hD hS (lv_sub hl [1, 2, 3, 0] rfl)
          · have hf := hf.2 c_6
            refine lv_aload_n hx hb dX5_collect_29 rfl (lv_at hl 0 rfl) ?_
            refine va_get (D := (dC, dI)) (ci := 4) (v := .ref (a 11)) (C := RX5) (T := TX5) (N := 9) hx hb hts inX5 hown hK hP 0 rfl rfl 4 (by decide) (hts _ q_fl_X5_42) (fun _ h9 => h9) rfl dX5_collect_30 ?_
            refine lv_iconst (v := 0) hx hb dX5_collect_33 (by decide) ?_
            refine z_cVl (As := [.int (0 : Int32)]) (rest := []) X (c_X1_ahead l dC dI cI cJ cS (fun i => a (11 + i)) z.2.2.2.2.1 (0 : Int32) _ hf) zc_X1_ahead q_ml_X5_137 ⟨rfl, rfl⟩ ⟨Nat.le_of_ble_eq_true rfl, Nat.le_of_ble_eq_true rfl⟩ hP [11, 12] rfl 0 rfl rfl hl.1 rfl rfl (Nat.le_of_ble_eq_true rfl) ⟨Nat.zero_le _, Nat.zero_le _⟩ dX5_collect_34 (fun r_15 hf => ?_)
            refine lv_lstore (lv' := [(4, .long r_15), (0, .ref (a 0)), (1, .int x1), (2, .int y2), (3, .int y3)]) hx hb dX5_collect_37 hl (by decide) rfl (fun ls hl => ?_)
            refine lv_aload_n hx hb dX5_collect_39 rfl (lv_at hl 1 rfl) ?_
            refine lv_lload hx hb dX5_collect_40 (lv_at hl 0 rfl) ?_
            refine z_cVi (As := [.long r_15]) (rest := []) X (c_X5_isLive l dC dI cI cJ cS a z r_15 _ hf) zc_X5_isLive q_ml_X5_141 ⟨rfl, rfl⟩ ⟨Nat.le_of_ble_eq_true rfl, Nat.le_of_ble_eq_true rfl⟩ hP [0, 1, 2, 3, 4, 5, 6, 7, 8, 9, 10, 11, 12, 13, 14] rfl 4 rfl rfl hl.1 rfl rfl (Nat.le_of_ble_eq_true rfl) ⟨Nat.zero_le _, Nat.zero_le _⟩ dX5_collect_42 (fun r_16 hf => ?_)
            obtain ⟨hbr_16, hf⟩ := hf
            refine lv_if_ne (tgt := 64) hx hb dX5_collect_45 (by decide) (fun c_17 => ?_) (fun c_17 => ?_)
            · have hf := hf.1 c_17
              refine lv_aload_n hx hb dX5_collect_64 rfl (lv_at hl 1 rfl) ?_
              refine lv_lload hx hb dX5_collect_65 (lv_at hl 0 rfl) ?_
              refine z_cSi (As := [.long r_15]) (rest := [.ref (a 0)]) X (c_X0_sizeOf l dC dI cI cJ cS   r_15 _ hf) zc_X0_sizeOf q_ml_X5_145 ⟨rfl, rfl⟩ ⟨Nat.le_of_ble_eq_true rfl, Nat.le_of_ble_eq_true rfl⟩ hP [] rfl hl.1 rfl rfl (Nat.le_of_ble_eq_true rfl) ⟨Nat.zero_le _, Nat.zero_le _⟩ dX5_collect_67 (fun r_18 hf => ?_)
              refine z_cVi (As := [.int r_18]) (rest := []) X (c_X5_fits l dC dI cI cJ cS a z r_18 _ hf) zc_X5_fits q_ml_X5_109 ⟨rfl, rfl⟩ ⟨Nat.le_of_ble_eq_true rfl, Nat.le_of_ble_eq_true rfl⟩ hP [0, 1, 2, 3, 4, 5, 6, 7, 8, 9, 10, 11, 12, 13, 14] rfl 4 rfl rfl hl.1 rfl rfl (Nat.le_of_ble_eq_true rfl) ⟨Nat.zero_le _, Nat.zero_le _⟩ dX5_collect_70 (fun r_19 hf => ?_)
              obtain ⟨hbr_19, hf⟩ := hf
              refine lv_if_eq (tgt := 115) hx hb dX5_collect_73 (by decide) (fun c_20 => ?_) (fun c_20 => ?_)
              · have hf := hf.1 c_20
                refine lv_iload_n hx hb dX5_collect_115 rfl (lv_at hl 3 rfl) ?_
                exact z_retMi (Wf := (fun z => cl_X5 cI cJ a z)) (u := z) X hf hP hD hS dX5_collect_116
              · have hf := hf.2 c_20
                refine lv_aload_n hx hb dX5_collect_76 rfl (lv_at hl 1 rfl) ?_
                refine lv_lload hx hb dX5_collect_77 (lv_at hl 0 rfl) ?_
                refine z_cSi (As := [.long r_15]) (rest := [.ref (a 0)]) X (c_X0_keyOf l dC dI cI cJ cS   r_15 _ hf) zc_X0_keyOf q_ml_X5_253 ⟨rfl, rfl⟩ ⟨Nat.le_of_ble_eq_true rfl, Nat.le_of_ble_eq_true rfl⟩ hP [] rfl hl.1 rfl rfl (Nat.le_of_ble_eq_true rfl) ⟨Nat.zero_le _, Nat.zero_le _⟩ dX5_collect_79 (fun r_21 hf => ?_)
                refine lv_lload hx hb dX5_collect_82 (lv_at hl 0 rfl) ?_
                refine z_cSi (As := [.long r_15]) (rest := [.int r_21, .ref (a 0)]) X (c_X0_lengthOf l dC dI cI cJ cS   r_15 _ hf) zc_X0_lengthOf q_ml_X5_272 ⟨rfl, rfl⟩ ⟨Nat.le_of_ble_eq_true rfl, Nat.le_of_ble_eq_true rfl⟩ hP [] rfl hl.1 rfl rfl (Nat.le_of_ble_eq_true rfl) ⟨Nat.zero_le _, Nat.zero_le _⟩ dX5_collect_84 (fun r_22 hf => ?_)
                refine lv_lload hx hb dX5_collect_87 (lv_at hl 0 rfl) ?_
                refine z_cSi (As := [.long r_15]) (rest := [.int r_22, .int r_21, .ref (a 0)]) X (c_X0_seedOf l dC dI cI cJ cS   r_15 _ hf) zc_X0_seedOf q_ml_X5_275 ⟨rfl, rfl⟩ ⟨Nat.le_of_ble_eq_true rfl, Nat.le_of_ble_eq_true rfl⟩ hP [] rfl hl.1 rfl rfl (Nat.le_of_ble_eq_true rfl) ⟨Nat.zero_le _, Nat.zero_le _⟩ dX5_collect_89 (fun r_23 hf => ?_)
                refine z_mVi (Wn := (fun u_25 => cl_X5 cI cJ a u_25)) (As := [.int r_21, .int r_22, .int r_23]) (rest := []) (wr := []) X (c_X5_enter l dC dI cI cJ cS a z r_21 r_22 r_23 _ hf _) zc_X5_enter q_ml_X5_157 ⟨rfl, rfl⟩ ⟨Nat.le_of_ble_eq_true rfl, Nat.le_of_ble_eq_true rfl⟩ hP hD hS hA [0, 1, 2, 3, 4, 5, 6, 7, 8, 9, 10, 11, 12, 13, 14] [] rfl (by decide) rfl (by decide) (by decide) [0, 1, 2, 3, 4, 5, 6, 7, 8, 9, 10, 11, 12, 13, 14] (by decide) (fun _ => rfl) 4 rfl rfl hl.1 rfl rfl (Nat.le_of_ble_eq_true rfl) ⟨Nat.zero_le _, Nat.zero_le _⟩ dX5_collect_92 (fun r_24 u_25 H locs hf hP hD hS => ?_)
                refine lv_pop hx hb dX5_collect_95 rfl ?_
                refine lv_aload_n hx hb dX5_collect_96 rfl (lv_at hl 1 rfl) ?_
                refine va_get (D := (dC, dI)) (ci := 4) (v := .ref (a 2)) (C := RX5) (T := TX5) (N := 9) hx hb hts inX5 hown hK hP 0 rfl rfl 1 (by decide) (hts _ q_fl_X5_21) (fun _ h9 => h9) rfl dX5_collect_97 ?_
                refine lv_dup hx hb dX5_collect_100 rfl ?_
                refine va_get (D := (dC, dI)) (ci := 7) (v := .int u_25.2.1.2.2.2.1) (C := RX8) (T := TX8) (N := 5) hx hb hts inX8 hown hK hP 2 rfl rfl 3 (by decide) (hts _ q_fl_X5_278) (fun _ h9 => h9) rfl dX5_collect_101 ?_
                refine lv_iconst (v := 1) hx hb dX5_collect_104 (by decide) ?_
                refine lv_iadd hx hb dX5_collect_105 ?_
                refine lv_topi (fun x_26 ex_26 => ?_)
                have hf := hf x_26 ex_26
                refine z_put (w' := cl_X5 cI cJ a (u_25.1, (u_25.2.1.1, u_25.2.1.2.1, u_25.2.1.2.2.1, x_26, u_25.2.1.2.2.2.2), u_25.2.2.1, u_25.2.2.2.1, u_25.2.2.2.2.1, u_25.2.2.2.2.2.1, u_25.2.2.2.2.2.2.1, u_25.2.2.2.2.2.2.2.1, u_25.2.2.2.2.2.2.2.2)) (ci := 7) (v := .int x_26) (ty := .int) (Cn := RX8) (T := TX8) (N := 5) X inX8 tyX8 tyX8_ok nmX8 hP hD hS 2 rfl rfl 3 (by decide) (hts _ q_fl_X5_278) (fun _ h9 => h9) rfl (tyX8_ok 3 (by decide)) rfl rfl (Nat.le_of_ble_eq_true rfl) rfl dX5_collect_106 (fun H locs hP hD hS => ?_)
                obtain ⟨x_27, ex_27⟩ : ∃ y : Int32, y = y2 + (1 : Int32) := ⟨_, rfl⟩
                have hf := hf x_27 ex_27
                refine lv_iinc (v := x_27) (lv' := [(2, .int x_27), (4, .long r_15), (0, .ref (a 0)), (1, .int x1), (3, .int y3)]) hx hb dX5_collect_109 hl (k := 3) rfl (by rw [ex_27]; rfl) (by decide) rfl (fun ls hl => ?_)
                refine lv_goto (tgt := 117) hx hb dX5_collect_112 (by decide) ?_
                refine lv_aload_n hx hb dX5_collect_117 rfl (lv_at hl 2 rfl) ?_
                refine va_get (D := (dC, dI)) (ci := 4) (v := .ref (a 11)) (C := RX5) (T := TX5) (N := 9) hx hb hts inX5 hown hK hP 0 rfl rfl 4 (by decide) (hts _ q_fl_X5_42) (fun _ h9 => h9) rfl dX5_collect_118 ?_
                refine lv_dup hx hb dX5_collect_121 rfl ?_
                refine va_get (D := (dC, dI)) (ci := 0) (v := .int u_25.2.2.2.2.1.2.2.2) (C := RX1) (T := TX1) (N := 4) hx hb hts inX1 hown hK hP 11 rfl rfl 3 (by decide) (hts _ q_fl_X5_281) (fun _ h9 => h9) rfl dX5_collect_122 ?_
                refine lv_iconst (v := 1) hx hb dX5_collect_125 (by decide) ?_
                refine lv_iadd hx hb dX5_collect_126 ?_
                refine lv_topi (fun x_28 ex_28 => ?_)
                have hf := hf x_28 ex_28
                refine z_put (w' := cl_X5 cI cJ a (u_25.1, (u_25.2.1.1, u_25.2.1.2.1, u_25.2.1.2.2.1, x_26, u_25.2.1.2.2.2.2), u_25.2.2.1, u_25.2.2.2.1, (u_25.2.2.2.2.1.1, u_25.2.2.2.2.1.2.1, u_25.2.2.2.2.1.2.2.1, x_28), u_25.2.2.2.2.2.1, u_25.2.2.2.2.2.2.1, u_25.2.2.2.2.2.2.2.1, u_25.2.2.2.2.2.2.2.2)) (ci := 0) (v := .int x_28) (ty := .int) (Cn := RX1) (T := TX1) (N := 4) X inX1 tyX1 tyX1_ok nmX1 hP hD hS 11 rfl rfl 3 (by decide) (hts _ q_fl_X5_281) (fun _ h9 => h9) rfl (tyX1_ok 3 (by decide)) rfl rfl (Nat.le_of_ble_eq_true rfl) rfl dX5_collect_127 (fun H locs hP hD hS => ?_)
                refine lv_aload_n hx hb dX5_collect_130 rfl (lv_at hl 2 rfl) ?_
                refine va_get (D := (dC, dI)) (ci := 4) (v := .ref (a 11)) (C := RX5) (T := TX5) (N := 9) hx hb hts inX5 hown hK hP 0 rfl rfl 4 (by decide) (hts _ q_fl_X5_42) (fun _ h9 => h9) rfl dX5_collect_131 ?_
                refine z_cVi (As := []) (rest := []) X (c_X1_left l dC dI cI cJ cS (fun i => a (11 + i)) (u_25.2.2.2.2.1.1, u_25.2.2.2.2.1.2.1, u_25.2.2.2.2.1.2.2.1, x_28)  _ hf) zc_X1_left q_ml_X5_134 ⟨rfl, rfl⟩ ⟨Nat.le_of_ble_eq_true rfl, Nat.le_of_ble_eq_true rfl⟩ hP [11, 12] rfl 0 rfl rfl hl.1 rfl rfl (Nat.le_of_ble_eq_true rfl) ⟨Nat.zero_le _, Nat.zero_le _⟩ dX5_collect_134 (fun r_29 hf => ?_)
                refine lv_if_ne (tgt := 144) hx hb dX5_collect_137 (by decide) (fun c_30 => ?_) (fun c_30 => ?_)
                · have hf := hf.1 c_30
                  obtain ⟨x_31, ex_31⟩ : ∃ y : Int32, y = y3 + (1 : Int32) := ⟨_, rfl⟩
                  have hf := hf x_31 ex_31
                  refine lv_iinc (v := x_31) (lv' := [(3, .int x_31), (2, .int x_27), (4, .long r_15), (0, .ref (a 0)), (1, .int x1)]) hx hb dX5_collect_144 hl (k := 4) rfl (by rw [ex_31]; rfl) (by decide) rfl (fun ls hl => ?_)
                  refine lv_goto (tgt := 4) hx hb dX5_collect_147 (by decide) ?_
                  obtain ⟨k_32, hk_32, hf⟩ := hf
                  exact (ih k_32 hk_32) _ _ (u_25.1, (u_25.2.1.1, u_25.2.1.2.1, u_25.2.1.2.2.1, x_26, u_25.2.1.2.2.2.2), u_25.2.2.1, u_25.2.2.2.1, (u_25.2.2.2.2.1.1, u_25.2.2.2.2.1.2.1, u_25.2.2.2.2.1.2.2.1, x_28), u_25.2.2.2.2.2.1, u_25.2.2.2.2.2.2.1, u_25.2.2.2.2.2.2.2.1, u_25.2.2.2.2.2.2.2.2) _ _ ls hf hP hD hS (lv_sub hl [3, 4, 1, 0] rfl)
                · have hf := hf.2 c_30
                  refine lv_aload_n hx hb dX5_collect_140 rfl (lv_at hl 2 rfl) ?_
                  refine z_mVv (Wn := (fun u_34 => cl_X5 cI cJ a u_34)) (As := []) (rest := []) (wr := []) X (c_X5_endCollection l dC dI cI cJ cS a (u_25.1, (u_25.2.1.1, u_25.2.1.2.1, u_25.2.1.2.2.1, x_26, u_25.2.1.2.2.2.2), u_25.2.2.1, u_25.2.2.2.1, (u_25.2.2.2.2.1.1, u_25.2.2.2.2.1.2.1, u_25.2.2.2.2.1.2.2.1, x_28), u_25.2.2.2.2.2.1, u_25.2.2.2.2.2.2.1, u_25.2.2.2.2.2.2.2.1, u_25.2.2.2.2.2.2.2.2)  _ hf _) zc_X5_endCollection q_ml_X5_284 ⟨rfl, rfl⟩ ⟨Nat.le_of_ble_eq_true rfl, Nat.le_of_ble_eq_true rfl⟩ hP hD hS hA [0, 1, 2, 3, 4, 5, 6, 7, 8, 9, 10, 11, 12, 13, 14] [] rfl (by decide) rfl (by decide) (by decide) [0, 1, 2, 3, 4, 5, 6, 7, 8, 9, 10, 11, 12, 13, 14] (by decide) (fun _ => rfl) 4 rfl rfl hl.1 rfl rfl (Nat.le_of_ble_eq_true rfl) ⟨Nat.zero_le _, Nat.zero_le _⟩ dX5_collect_141 (fun u_34 H locs hf hP hD hS => ?_)
                  obtain ⟨x_35, ex_35⟩ : ∃ y : Int32, y = y3 + (1 : Int32) := ⟨_, rfl⟩
                  have hf := hf x_35 ex_35
                  refine lv_iinc (v := x_35) (lv' := [(3, .int x_35), (2, .int x_27), (4, .long r_15), (0, .ref (a 0)), (1, .int x1)]) hx hb dX5_collect_144 hl (k := 4) rfl (by rw [ex_35]; rfl) (by decide) rfl (fun ls hl => ?_)
                  refine lv_goto (tgt := 4) hx hb dX5_collect_147 (by decide) ?_
                  obtain ⟨k_36, hk_36, hf⟩ := hf
                  exact (ih k_36 hk_36) _ _ u_34 _ _ ls hf hP hD hS (lv_sub hl [3, 4, 1, 0] rfl)
            · have hf := hf.2 c_17
              refine lv_aload_n hx hb dX5_collect_48 rfl (lv_at hl 1 rfl) ?_
              refine va_get (D := (dC, dI)) (ci := 4) (v := .ref (a 2)) (C := RX5) (T := TX5) (N := 9) hx hb hts inX5 hown hK hP 0 rfl rfl 1 (by decide) (hts _ q_fl_X5_21) (fun _ h9 => h9) rfl dX5_collect_49 ?_
              refine lv_dup hx hb dX5_collect_52 rfl ?_
              refine va_get (D := (dC, dI)) (ci := 7) (v := .int z.2.1.2.2.2.2) (C := RX8) (T := TX8) (N := 5) hx hb hts inX8 hown hK hP 2 rfl rfl 4 (by decide) (hts _ q_fl_X5_269) (fun _ h9 => h9) rfl dX5_collect_53 ?_
              refine lv_iconst (v := 1) hx hb dX5_collect_56 (by decide) ?_
              refine lv_iadd hx hb dX5_collect_57 ?_
              refine lv_topi (fun x_37 ex_37 => ?_)
              have hf := hf x_37 ex_37
              refine z_put (w' := cl_X5 cI cJ a (z.1, (z.2.1.1, z.2.1.2.1, z.2.1.2.2.1, z.2.1.2.2.2.1, x_37), z.2.2.1, z.2.2.2.1, z.2.2.2.2.1, z.2.2.2.2.2.1, z.2.2.2.2.2.2.1, z.2.2.2.2.2.2.2.1, z.2.2.2.2.2.2.2.2)) (ci := 7) (v := .int x_37) (ty := .int) (Cn := RX8) (T := TX8) (N := 5) X inX8 tyX8 tyX8_ok nmX8 hP hD hS 2 rfl rfl 4 (by decide) (hts _ q_fl_X5_269) (fun _ h9 => h9) rfl (tyX8_ok 4 (by decide)) rfl rfl (Nat.le_of_ble_eq_true rfl) rfl dX5_collect_58 (fun H locs hP hD hS => ?_)
              refine lv_goto (tgt := 117) hx hb dX5_collect_61 (by decide) ?_
              refine lv_aload_n hx hb dX5_collect_117 rfl (lv_at hl 1 rfl) ?_
              refine va_get (D := (dC, dI)) (ci := 4) (v := .ref (a 11)) (C := RX5) (T := TX5) (N := 9) hx hb hts inX5 hown hK hP 0 rfl rfl 4 (by decide) (hts _ q_fl_X5_42) (fun _ h9 => h9) rfl dX5_collect_118 ?_
              refine lv_dup hx hb dX5_collect_121 rfl ?_
              refine va_get (D := (dC, dI)) (ci := 0) (v := .int z.2.2.2.2.1.2.2.2) (C := RX1) (T := TX1) (N := 4) hx hb hts inX1 hown hK hP 11 rfl rfl 3 (by decide) (hts _ q_fl_X5_281) (fun _ h9 => h9) rfl dX5_collect_122 ?_
              refine lv_iconst (v := 1) hx hb dX5_collect_125 (by decide) ?_
              refine lv_iadd hx hb dX5_collect_126 ?_
              refine lv_topi (fun x_38 ex_38 => ?_)
              have hf := hf x_38 ex_38
              refine z_put (w' := cl_X5 cI cJ a (z.1, (z.2.1.1, z.2.1.2.1, z.2.1.2.2.1, z.2.1.2.2.2.1, x_37), z.2.2.1, z.2.2.2.1, (z.2.2.2.2.1.1, z.2.2.2.2.1.2.1, z.2.2.2.2.1.2.2.1, x_38), z.2.2.2.2.2.1, z.2.2.2.2.2.2.1, z.2.2.2.2.2.2.2.1, z.2.2.2.2.2.2.2.2)) (ci := 0) (v := .int x_38) (ty := .int) (Cn := RX1) (T := TX1) (N := 4) X inX1 tyX1 tyX1_ok nmX1 hP hD hS 11 rfl rfl 3 (by decide) (hts _ q_fl_X5_281) (fun _ h9 => h9) rfl (tyX1_ok 3 (by decide)) rfl rfl (Nat.le_of_ble_eq_true rfl) rfl dX5_collect_127 (fun H locs hP hD hS => ?_)
              refine lv_aload_n hx hb dX5_collect_130 rfl (lv_at hl 1 rfl) ?_
              refine va_get (D := (dC, dI)) (ci := 4) (v := .ref (a 11)) (C := RX5) (T := TX5) (N := 9) hx hb hts inX5 hown hK hP 0 rfl rfl 4 (by decide) (hts _ q_fl_X5_42) (fun _ h9 => h9) rfl dX5_collect_131 ?_
              refine z_cVi (As := []) (rest := []) X (c_X1_left l dC dI cI cJ cS (fun i => a (11 + i)) (z.2.2.2.2.1.1, z.2.2.2.2.1.2.1, z.2.2.2.2.1.2.2.1, x_38)  _ hf) zc_X1_left q_ml_X5_134 ⟨rfl, rfl⟩ ⟨Nat.le_of_ble_eq_true rfl, Nat.le_of_ble_eq_true rfl⟩ hP [11, 12] rfl 0 rfl rfl hl.1 rfl rfl (Nat.le_of_ble_eq_true rfl) ⟨Nat.zero_le _, Nat.zero_le _⟩ dX5_collect_134 (fun r_39 hf => ?_)
              refine lv_if_ne (tgt := 144) hx hb dX5_collect_137 (by decide) (fun c_40 => ?_) (fun c_40 => ?_)
              · have hf := hf.1 c_40
                obtain ⟨x_41, ex_41⟩ : ∃ y : Int32, y = y3 + (1 : Int32) := ⟨_, rfl⟩
                have hf := hf x_41 ex_41
                refine lv_iinc (v := x_41) (lv' := [(3, .int x_41), (4, .long r_15), (0, .ref (a 0)), (1, .int x1), (2, .int y2)]) hx hb dX5_collect_144 hl (k := 4) rfl (by rw [ex_41]; rfl) (by decide) rfl (fun ls hl => ?_)
                refine lv_goto (tgt := 4) hx hb dX5_collect_147 (by decide) ?_
                obtain ⟨k_42, hk_42, hf⟩ := hf
                exact (ih k_42 hk_42) _ _ (z.1, (z.2.1.1, z.2.1.2.1, z.2.1.2.2.1, z.2.1.2.2.2.1, x_37), z.2.2.1, z.2.2.2.1, (z.2.2.2.2.1.1, z.2.2.2.2.1.2.1, z.2.2.2.2.1.2.2.1, x_38), z.2.2.2.2.2.1, z.2.2.2.2.2.2.1, z.2.2.2.2.2.2.2.1, z.2.2.2.2.2.2.2.2) _ _ ls hf hP hD hS (lv_sub hl [2, 3, 4, 0] rfl)
              · have hf := hf.2 c_40
                refine lv_aload_n hx hb dX5_collect_140 rfl (lv_at hl 1 rfl) ?_
                refine z_mVv (Wn := (fun u_44 => cl_X5 cI cJ a u_44)) (As := []) (rest := []) (wr := []) X (c_X5_endCollection l dC dI cI cJ cS a (z.1, (z.2.1.1, z.2.1.2.1, z.2.1.2.2.1, z.2.1.2.2.2.1, x_37), z.2.2.1, z.2.2.2.1, (z.2.2.2.2.1.1, z.2.2.2.2.1.2.1, z.2.2.2.2.1.2.2.1, x_38), z.2.2.2.2.2.1, z.2.2.2.2.2.2.1, z.2.2.2.2.2.2.2.1, z.2.2.2.2.2.2.2.2)  _ hf _) zc_X5_endCollection q_ml_X5_284 ⟨rfl, rfl⟩ ⟨Nat.le_of_ble_eq_true rfl, Nat.le_of_ble_eq_true rfl⟩ hP hD hS hA [0, 1, 2, 3, 4, 5, 6, 7, 8, 9, 10, 11, 12, 13, 14] [] rfl (by decide) rfl (by decide) (by decide) [0, 1, 2, 3, 4, 5, 6, 7, 8, 9, 10, 11, 12, 13, 14] (by decide) (fun _ => rfl) 4 rfl rfl hl.1 rfl rfl (Nat.le_of_ble_eq_true rfl) ⟨Nat.zero_le _, Nat.zero_le _⟩ dX5_collect_141 (fun u_44 H locs hf hP hD hS => ?_)
                obtain ⟨x_45, ex_45⟩ : ∃ y : Int32, y = y3 + (1 : Int32) := ⟨_, rfl⟩
                have hf := hf x_45 ex_45
                refine lv_iinc (v := x_45) (lv' := [(3, .int x_45), (4, .long r_15), (0, .ref (a 0)), (1, .int x1), (2, .int y2)]) hx hb dX5_collect_144 hl (k := 4) rfl (by rw [ex_45]; rfl) (by decide) rfl (fun ls hl => ?_)
                refine lv_goto (tgt := 4) hx hb dX5_collect_147 (by decide) ?_
                obtain ⟨k_46, hk_46, hf⟩ := hf
                exact (ih k_46 hk_46) _ _ u_44 _ _ ls hf hP hD hS (lv_sub hl [2, 3, 4, 0] rfl)
  unfold t_X5_collect_e at hf
  refine lv_iconst (v := 0) hx hb dX5_collect_0 (by decide) ?_
  refine lv_istore_n (lv' := [(2, .int (0 : Int32)), (0, .ref (a 0)), (1, .int x1)]) hx hb dX5_collect_1 rfl hl (by decide) rfl (fun ls hl => ?_)
  refine lv_iconst (v := 0) hx hb dX5_collect_2 (by decide) ?_
  refine lv_istore_n (lv' := [(3, .int (0 : Int32)), (2, .int (0 : Int32)), (0, .ref (a 0)), (1, .int x1)]) hx hb dX5_collect_3 rfl hl (by decide) rfl (fun ls hl => ?_)
  obtain ⟨k_1, hf⟩ := hf
  exact (LP k_1) _ _ u _ _ ls hf hP hD hS (lv_sub hl [2, 3, 1, 0] rfl)
def s_X5_collect (u : zState) (x1 : Int32) (Q : Int32 → zState → Prop) : Prop := ∃ ρ β mo lm L S M B n : Nat, zP ρ β mo lm L S M B u ∧ B + n ≤ 400000 ∧ n ≤ 50 ∧ x1 = nI n ∧ Q (nI (uCol n u).1) (uCol n u).2
theorem st_X5_collect {u : zState} {x1 : Int32} {Q : Int32 → zState → Prop} (h : s_X5_collect u x1 Q) : v_X5_collect u x1 Q := by
  obtain ⟨ρ, β, mo, lm, L0, S0, M0, B0, n, h0, hB0, hn, rfl, hQ⟩ := h
  refine ⟨fun m y2 y3 z => ∃ i w L S M B : Nat, y3 = nI i ∧ i ≤ n ∧ m = n - i ∧ y2 = nI w ∧ zP ρ β mo lm L S M B z ∧ B + (n - i) ≤ 400000 ∧ w + (uCol (n - i) z).1 = (uCol n u).1 ∧ (uCol (n - i) z).2 = (uCol n u).2, ?_, ?_⟩
  · rintro m y2 y3 z ⟨i, w, L, S, M, B, rfl, hi, rfl, rfl, h, hB, e1, e2⟩
    have stop : (uCol (n - i) z) = (0, z) → Q (nI w) z := fun e => by
      rw [e] at e1 e2
      rw [← e2, show (uCol n u).1 = w by omega] at hQ
      exact hQ
    have go : ∀ v, ¬ i = n → uCol (n - i) z = (uWr z + (uCol (n - i - 1) v).1, (uCol (n - i - 1) v).2) → (∃ L S M, zP ρ β mo lm L S M (B + 1) v) → ∀ x9 : Int32, x9 = nI i + 1 → ∃ k : Nat, k < n - i ∧ ∃ i' w' L S M B : Nat, x9 = nI i' ∧ i' ≤ n ∧ k = n - i' ∧ nI w + nI (uWr z) = nI w' ∧ zP ρ β mo lm L S M B v ∧ B + (n - i') ≤ 400000 ∧ w' + (uCol (n - i') v).1 = (uCol n u).1 ∧ (uCol (n - i') v).2 = (uCol n u).2 := by
      intro v hin e ⟨L', S', M', hv⟩ x9 e9
      rw [e] at e1 e2
      refine ⟨n - (i + 1), by omega, i + 1, w + uWr z, L', S', M', B + 1, by rw [e9, nI_1], by omega, rfl, nI_add _ _, hv, by omega, ?_, ?_⟩
      · rw [show n - (i + 1) = n - i - 1 by omega]; dsimp only at e1; omega
      · rw [show n - (i + 1) = n - i - 1 by omega]; exact e2
    unfold t_X5_collect_4
    refine ⟨fun c => ?_, fun c => ?_⟩
    · have hin : i = n := by
        have := (nI_leI (a := n) (b := i) (by omega) (by omega)).mp c
        omega
      exact stop (by rw [show n - i = 0 by omega]; rfl)
    · have hin : ¬ i = n := fun q => c (by rw [q]; exact nI_le (Nat.le_refl _) (by omega))
      have hs : uCol (n - i) z = if z.2.2.2.2.1.2.1 = -1 then (0, z) else if uBlk z then (0, z) else (uWr z + (uCol (n - i - 1) (uOne z)).1, (uCol (n - i - 1) (uOne z)).2) := by
        rw [show n - i = (n - i - 1) + 1 by omega]; rfl
      refine ⟨fun hoff => ⟨fun _ => stop (by rw [hs, if_pos hoff]), fun q => absurd rfl q⟩, fun hon => ⟨fun q => absurd q (by decide), fun _ => ?_⟩⟩
      rw [if_neg hon] at hs
      obtain ⟨s, hs12, es, esg, hhd⟩ := uHd_rec h hon
      obtain ⟨hw1, hx1, -⟩ := h.2.2.2.2.2.2.2.2.2.1
      have hleft : z.2.2.2.2.1.2.2.1 - z.2.2.2.2.1.2.2.2 = nI (wN z.2.2.2.2.1 - xN z.2.2.2.2.1) := by
        rw [hw1.1, hx1.1]; exact lN_subI hx1.2
      show (z.2.2.2.2.1.2.2.1 - z.2.2.2.2.1.2.2.2 ≤ 0 → _) ∧ _
      refine ⟨fun c5 => ?_, fun c5 => ?_⟩
      · rw [hleft] at c5
        have hxw : ¬ xN z.2.2.2.2.1 < wN z.2.2.2.2.1 := by
          have := (nI_leI (b := 0) (by omega) (by decide)).mp c5
          omega
        have hb : uBlk z = false := by unfold uBlk; rw [decide_eq_false hxw]; rfl
        have ea : uAdv z = z := by unfold uAdv; rw [if_neg hxw]
        have eo : uOne z = uEndC z s := by unfold uOne; rw [ea, if_neg hxw, esg]
        have ew : uWr z = 0 := by unfold uWr; rw [if_neg (fun q => hxw q.1)]
        rw [if_neg (by rw [hb]; decide)] at hs
        show (¬ z.2.2.2.2.1.2.2.1 - z.2.2.2.2.1.2.2.2 = 0 → _) ∧ _
        rw [hleft, show wN z.2.2.2.2.1 - xN z.2.2.2.2.1 = 0 by omega]
        refine ⟨fun q => absurd rfl q, fun _ => ⟨ρ, β, mo, lm, L, S, M, B, s, h, hs12, es, fun x9 e9 => ?_⟩⟩
        have := go (uOne z) hin hs (zPr.one h (by omega) hon hb) x9 e9
        rw [ew, eo, show nI w + nI 0 = nI w from nI_add w 0] at this
        exact this
      · rw [hleft] at c5
        have hxw : xN z.2.2.2.2.1 < wN z.2.2.2.2.1 := by
          have : ¬ wN z.2.2.2.2.1 - xN z.2.2.2.2.1 = 0 := fun q => c5 (by rw [q]; decide)
          omega
        obtain ⟨q1, q2⟩ := uHd_ok h hon hxw
        refine ⟨wN z.2.2.2.2.1, xN z.2.2.2.2.1, 0, hw1.2, by omega, hw1.1, hx1.1, rfl, h.ok, fun hl => ⟨fun _ => ⟨h.ok, fun hf => ⟨fun q => absurd q (by decide), fun _ => ?_⟩, fun hf => ⟨fun _ => ?_, fun q => absurd rfl q⟩⟩, fun q => absurd q (by decide)⟩, fun hl => ⟨fun q => absurd rfl q, fun _ x37 e37 x38 e38 => ?_⟩⟩
        · have hl : uLiv z (uHd z) = true := hl
          have hf : uFits z (4 + cLen (uHd z)) = true := hf
          have hb : uBlk z = false := by unfold uBlk; rw [hf]; simp
          have ea : uAdv z = uBk (uEnter z (kN (uHd z)) (lnN (uHd z)) (sdN (uHd z))) := by unfold uAdv; rw [if_pos hxw, if_pos hl]
          have ew : uWr z = 1 := by unfold uWr; rw [if_pos ⟨hxw, hl⟩]
          rw [if_neg (by rw [hb]; decide)] at hs
          obtain ⟨⟨L', S', M', ha⟩, eseg⟩ := zPr.adv h (by omega) hon hb
          obtain ⟨v, hv⟩ : ∃ v, uEnter z (kN (uHd z)) (lnN (uHd z)) (sdN (uHd z)) = v := ⟨_, rfl⟩
          have gg := go (uOne z) hin hs (zPr.one h (by omega) hon hb)
          rw [hv] at ea
          have eo : uOne z = if xN (uBk v).2.2.2.2.1 < wN (uBk v).2.2.2.2.1 then uBk v else uEndC (uBk v) s := by unfold uOne; rw [ea, esg]
          rw [ea] at ha eseg
          refine ⟨ρ, β, mo, lm, L, S, M, B, kN (uHd z), lnN (uHd z), sdN (uHd z), h, by omega, kN_lt _, q2, (sdN_eq _).2, kN_eq _, (lnN_eq _).1, (sdN_eq _).1, by rw [← (lnN_eq _).1]; exact hf, ?_⟩
          rw [hv]
          clear hv
          intro x26 e26 x27 e27 x28 e28
          subst e26
          subst e28
          obtain ⟨hw2, hx2, -⟩ := ha.2.2.2.2.2.2.2.2.2.1
          have hleft2 : (uBk v).2.2.2.2.1.2.2.1 - (uBk v).2.2.2.2.1.2.2.2 = nI (wN (uBk v).2.2.2.2.1 - xN (uBk v).2.2.2.2.1) := by
            rw [hw2.1, hx2.1]; exact lN_subI hx2.2
          have e27 : x27 = nI w + nI (uWr z) := by rw [e27, ew]; rfl
          subst e27
          show (¬ (uBk v).2.2.2.2.1.2.2.1 - (uBk v).2.2.2.2.1.2.2.2 = 0 → _) ∧ ((uBk v).2.2.2.2.1.2.2.1 - (uBk v).2.2.2.2.1.2.2.2 = 0 → _)
          rw [hleft2]
          refine ⟨fun c9 x31 e31 => ?_, fun c9 => ⟨ρ, β, mo, lm, L', S', M', B + 1, s, ha, hs12, eseg.trans es, fun x35 e35 => ?_⟩⟩
          · have hlt : xN (uBk v).2.2.2.2.1 < wN (uBk v).2.2.2.2.1 := by
              have : ¬ wN (uBk v).2.2.2.2.1 - xN (uBk v).2.2.2.2.1 = 0 := fun q => c9 (by rw [q]; rfl)
              omega
            rw [if_pos hlt] at eo
            have := gg x31 e31
            rw [eo] at this
            exact this
          · have hlt : ¬ xN (uBk v).2.2.2.2.1 < wN (uBk v).2.2.2.2.1 := by
              have := (nI_eq (b := 0) (by omega) (by decide)).mp c9
              omega
            rw [if_neg hlt] at eo
            have := gg x35 e35
            rw [eo] at this
            exact this
        · have hl : uLiv z (uHd z) = true := hl
          have hf : uFits z (4 + cLen (uHd z)) = false := hf
          exact stop (by rw [hs, if_pos (by unfold uBlk; rw [decide_eq_true hxw, hl, hf]; rfl)])
        · have hl : uLiv z (uHd z) = false := hl
          have hb : uBlk z = false := by unfold uBlk; rw [hl]; simp
          have ea : uAdv z = uSk z := by unfold uAdv; rw [if_pos hxw, if_neg (by rw [hl]; decide)]
          have ew : uWr z = 0 := by unfold uWr; rw [if_neg (fun q => by rw [hl] at q; exact absurd q.2 (by decide))]
          rw [if_neg (by rw [hb]; decide)] at hs
          obtain ⟨⟨L', S', M', ha⟩, eseg⟩ := zPr.adv h (by omega) hon hb
          rw [ea] at ha eseg
          subst e37
          subst e38
          obtain ⟨hw2, hx2, -⟩ := ha.2.2.2.2.2.2.2.2.2.1
          have hleft2 : (uSk z).2.2.2.2.1.2.2.1 - (uSk z).2.2.2.2.1.2.2.2 = nI (wN (uSk z).2.2.2.2.1 - xN (uSk z).2.2.2.2.1) := by
            rw [hw2.1, hx2.1]; exact lN_subI hx2.2
          have gg := go (uOne z) hin hs (zPr.one h (by omega) hon hb)
          rw [ew, show nI w + nI 0 = nI w from nI_add w 0] at gg
          have eo : uOne z = if xN (uSk z).2.2.2.2.1 < wN (uSk z).2.2.2.2.1 then uSk z else uEndC (uSk z) s := by unfold uOne; rw [ea, esg]
          show (¬ (uSk z).2.2.2.2.1.2.2.1 - (uSk z).2.2.2.2.1.2.2.2 = 0 → _) ∧ ((uSk z).2.2.2.2.1.2.2.1 - (uSk z).2.2.2.2.1.2.2.2 = 0 → _)
          rw [hleft2]
          refine ⟨fun c9 x31 e31 => ?_, fun c9 => ⟨ρ, β, mo, lm, L', S', M', B + 1, s, ha, hs12, eseg.trans es, fun x35 e35 => ?_⟩⟩
          · have hlt : xN (uSk z).2.2.2.2.1 < wN (uSk z).2.2.2.2.1 := by
              have : ¬ wN (uSk z).2.2.2.2.1 - xN (uSk z).2.2.2.2.1 = 0 := fun q => c9 (by rw [q]; rfl)
              omega
            rw [if_pos hlt] at eo
            have := gg x31 e31
            rw [eo] at this
            exact this
          · have hlt : ¬ xN (uSk z).2.2.2.2.1 < wN (uSk z).2.2.2.2.1 := by
              have := (nI_eq (b := 0) (by omega) (by decide)).mp c9
              omega
            rw [if_neg hlt] at eo
            have := gg x35 e35
            rw [eo] at this
            exact this
  · exact ⟨n - 0, 0, 0, L0, S0, M0, B0, rfl, Nat.zero_le _, rfl, rfl, h0, hB0, Nat.zero_add _, rfl⟩
theorem c_X5_collect (l : Launch) (dC : Nat → ClassId) (dI : Nat → Nat → Nat) (cI cJ cS : ClassId) (a : Nat → Nat) (u : zState) (x1 : Int32) (Q : Int32 → zState → Prop) (hf : s_X5_collect u x1 Q) : ∀ sz : Nat, Met l yX5_collect (Cond.code yX5_collect cX5_collect 6 (some .int) :: zT) rm_X5_collect (zPm dC dI cI cJ cS (cl_X5 cI cJ a u) [.ref (a 0), .int x1] sz) (va_Qi Q (zB dC dI cI cJ cS (va_A (cl_X5 cI cJ a u) sz) (fun z => cl_X5 cI cJ a z)) (va_A (cl_X5 cI cJ a u) sz)) 0 0 (va_A (cl_X5 cI cJ a u) sz) := by
  obtain ⟨I4, h4, hf⟩ := st_X5_collect hf
  exact L_X5_collect l dC dI cI cJ cS a u x1 Q I4 h4 hf
