def t_X11_sweep_e (u : zModel) (x1 : Int32) (x2 : Int32) (K53 : Int32 → Int32 → Int32 → zModel → Prop) (Q : Int32 → zModel → Prop) : Prop := s_X11_isIn x1 (1 : Int32) (6 : Int32) (fun r_1 : Int32 => ((¬ r_1 = 0 → s_X11_isIn x2 (0 : Int32) (2 : Int32) (fun r_3 : Int32 => ((¬ r_3 = 0 → (((0 : Int32) ≤ 0 → s_X11_keepsTrial ((0 : Int32), u.2) (fun (u_7 : zModel) => K53 (0 : Int32) (1 : Int32) (0 : Int32) u_7)) ∧ (¬ (0 : Int32) ≤ 0 → Q (0 : Int32) ((0 : Int32), u.2)))) ∧ (r_3 = 0 → (((2 : Int32) ≤ 0 → s_X11_keepsTrial ((2 : Int32), u.2) (fun (u_11 : zModel) => K53 (0 : Int32) (1 : Int32) (0 : Int32) u_11)) ∧ (¬ (2 : Int32) ≤ 0 → Q (0 : Int32) ((2 : Int32), u.2))))))) ∧ (r_1 = 0 → (((1 : Int32) ≤ 0 → s_X11_keepsTrial ((1 : Int32), u.2) (fun (u_15 : zModel) => K53 (0 : Int32) (1 : Int32) (0 : Int32) u_15)) ∧ (¬ (1 : Int32) ≤ 0 → Q (0 : Int32) ((1 : Int32), u.2))))))
def t_X11_sweep_53 (x1 : Int32) (x2 : Int32) (y3 : Int32) (y4 : Int32) (y5 : Int32) (z : zModel) (K53 : Int32 → Int32 → Int32 → zModel → Prop) (Q : Int32 → zModel → Prop) : Prop := ((x1 ≤ y5 → s_X11_spare z (fun r_18 : Int32 => s_X11_liveInAll z (1 : Int32) (fun r_19 : Int32 => s_X11_liveInAll z (0 : Int32) (fun r_20 : Int32 => ∀ x_21 : Int32, x_21 = ((r_18 + r_19) + r_20) → s_X11_trialBack z (fun (u_23 : zModel) => ((¬ x2 = 0 → ((¬ x2 = (1 : Int32) → (¬ x_21 = 0) ∧ Q (((100 : Int32) * r_19) / x_21) u_23) ∧ (x2 = (1 : Int32) → Q r_18 u_23))) ∧ (x2 = 0 → Q y3 u_23))))))) ∧ (¬ x1 ≤ y5 → ((y4 = 0 → s_X11_spare z (fun r_27 : Int32 => s_X11_liveInAll z (1 : Int32) (fun r_28 : Int32 => s_X11_liveInAll z (0 : Int32) (fun r_29 : Int32 => ∀ x_30 : Int32, x_30 = ((r_27 + r_28) + r_29) → s_X11_trialBack z (fun (u_32 : zModel) => ((¬ x2 = 0 → ((¬ x2 = (1 : Int32) → (¬ x_30 = 0) ∧ Q (((100 : Int32) * r_28) / x_30) u_32) ∧ (x2 = (1 : Int32) → Q r_27 u_32))) ∧ (x2 = 0 → Q y3 u_32))))))) ∧ (¬ y4 = 0 → s_X11_quit0 z (fun (r_35 : Int32) (u_36 : zModel) => s_X11_poorest u_36 (fun r_37 : Int32 => ((r_37 = (-1 : Int32) → (((0 : Int32) = 0 → ∀ x_40 : Int32, x_40 = (y3 + (0 : Int32)) → ∀ x_41 : Int32, x_41 = y5 + (1 : Int32) → K53 x_40 (0 : Int32) x_41 u_36) ∧ (¬ (0 : Int32) = 0 → ∀ x_43 : Int32, x_43 = (y3 + (1 : Int32)) → ∀ x_44 : Int32, x_44 = y5 + (1 : Int32) → K53 x_43 (0 : Int32) x_44 u_36))) ∧ (¬ r_37 = (-1 : Int32) → s_X11_goesThrough u_36 r_37 (fun (r_46 : Int32) (u_47 : zModel) => ((r_46 = 0 → (((0 : Int32) = 0 → ∀ x_50 : Int32, x_50 = (y3 + (0 : Int32)) → ∀ x_51 : Int32, x_51 = y5 + (1 : Int32) → K53 x_50 (0 : Int32) x_51 u_47) ∧ (¬ (0 : Int32) = 0 → ∀ x_53 : Int32, x_53 = (y3 + (1 : Int32)) → ∀ x_54 : Int32, x_54 = y5 + (1 : Int32) → K53 x_53 (0 : Int32) x_54 u_47))) ∧ (¬ r_46 = 0 → (((1 : Int32) = 0 → ∀ x_57 : Int32, x_57 = (y3 + (0 : Int32)) → ∀ x_58 : Int32, x_58 = y5 + (1 : Int32) → K53 x_57 (1 : Int32) x_58 u_47) ∧ (¬ (1 : Int32) = 0 → ∀ x_60 : Int32, x_60 = (y3 + (1 : Int32)) → ∀ x_61 : Int32, x_61 = y5 + (1 : Int32) → K53 x_60 (1 : Int32) x_61 u_47)))))))))))))
theorem zc_X11_sweep : zCalV RX11 yX11_sweep cX11_sweep 8 (some .int) 2 := ⟨q_im_X11_sweep, q_se_X11_sweep, q_in_X11, q_cd_X11_sweep, ⟨by decide, by decide, by decide +kernel⟩, rfl⟩
abbrev rm_X11_sweep : Room := { frames := 9, cells := 0, slots := 0, locals := 201 }
def v_X11_sweep (u : zModel) (x1 : Int32) (x2 : Int32) (Q : Int32 → zModel → Prop) : Prop := ∃ I53 : Nat → Int32 → Int32 → Int32 → zModel → Prop, (∀ (n : Nat) (y3 : Int32) (y4 : Int32) (y5 : Int32) (z : zModel), I53 n y3 y4 y5 z → t_X11_sweep_53 x1 x2 y3 y4 y5 z (fun q0 q1 q2 q3 => ∃ k : Nat, k < n ∧ I53 k q0 q1 q2 q3) Q) ∧ t_X11_sweep_e u x1 x2 (fun q0 q1 q2 q3 => ∃ k : Nat, I53 k q0 q1 q2 q3) Q
set_option maxHeartbeats 4000000 in
set_option maxRecDepth 100000 in
theorem L_X11_sweep (l : Launch) (dC : Nat → ClassId) (dI : Nat → Nat → Nat) (cI cJ cS : ClassId) (a : Nat → Nat) (u : zModel) (x1 : Int32) (x2 : Int32) (Q : Int32 → zModel → Prop) (I53 : Nat → Int32 → Int32 → Int32 → zModel → Prop) (h53 : ∀ (n : Nat) (y3 : Int32) (y4 : Int32) (y5 : Int32) (z : zModel), I53 n y3 y4 y5 z → t_X11_sweep_53 x1 x2 y3 y4 y5 z (fun q0 q1 q2 q3 => ∃ k : Nat, k < n ∧ I53 k q0 q1 q2 q3) Q) (hf : t_X11_sweep_e u x1 x2 (fun q0 q1 q2 q3 => ∃ k : Nat, I53 k q0 q1 q2 q3) Q) : ∀ sz : Nat, Met l yX11_sweep (Cond.code yX11_sweep cX11_sweep 8 (some .int) :: zT) rm_X11_sweep (zPm dC dI cI cJ cS (cl_X11 cI cJ a u) [.ref (a 0), .int x1, .int x2] sz) (va_Qi Q (zB dC dI cI cJ cS (va_A (cl_X11 cI cJ a u) sz) (fun z => cl_X11 cI cJ a z)) (va_A (cl_X11 cI cJ a u) sz)) 0 0 (va_A (cl_X11 cI cJ a u) sz) := by
  intro sz
  refine z_enterM (Qc := fun A => va_Qi Q (zB dC dI cI cJ cS A (fun z => cl_X11 cI cJ a z)) A) (cc := cX11_sweep) (maxL := 8) (ret := (some .int)) (by decide) (Nat.le_of_ble_eq_true rfl) ?_
  intro p e s m below meth c ls A X hP hD hS hA hl
  obtain ⟨⟨hx, hb, hml, hown, hts⟩, hr, hlk, hK⟩ := id X
  have hl : lv_has ls 8 [(0, .ref (a 0)), (1, .int x1), (2, .int x2)] := hl
  have LP : ∀ n : Nat, (∀ (y3 : Int32) (y4 : Int32) (y5 : Int32) (z : zModel) (H : Heap) (locs : List Loc) (ls : Array Slot), I53 n y3 y4 y5 z → va_P (dC, dI) vwCl (cl_X11 cI cJ a z) H → va_D A (cl_X11 cI cJ a z) → va_S A s.heap H locs → lv_has ls 8 [(0, .ref (a 0)), (1, .int x1), (2, .int x2), (3, .int y3), (4, .int y4), (5, .int y5)] → W p l e rm_X11_sweep s m [.ref (a 0), .int x1, .int x2].toArray below meth c H locs 0 0 (MQ below (va_Qi Q (zB dC dI cI cJ cS A (fun z => cl_X11 cI cJ a z)) A) [.ref (a 0), .int x1, .int x2].toArray s 0 0 A) (F0 m 53 ls [])) := by
    intro n
    induction n using Nat.strongRecOn with
    | _ n ih =>
      intro y3 y4 y5 z H locs ls hI hP hD hS hl
      have hf := h53 n y3 y4 y5 z hI
      unfold t_X11_sweep_53 at hf
      refine lv_iload hx hb dX11_sweep_53 (lv_at hl 5 rfl) ?_
      refine lv_iload_n hx hb dX11_sweep_55 rfl (lv_at hl 1 rfl) ?_
      refine lv_icmp_ge (tgt := 117) hx hb dX11_sweep_56 (by decide) (fun c_17 => ?_) (fun c_17 => ?_)
      · have hf := hf.1 c_17
        refine lv_aload_n hx hb dX11_sweep_117 rfl (lv_at hl 0 rfl) ?_
        refine z_cVi (As := []) (rest := []) X (c_X11_spare l dC dI cI cJ cS a z  _ hf) zc_X11_spare q_ml_X11_317 ⟨rfl, rfl⟩ ⟨Nat.le_of_ble_eq_true rfl, Nat.le_of_ble_eq_true rfl⟩ hP [0, 1, 2, 3, 4, 5, 6, 7, 8] rfl 10 rfl rfl hl.1 rfl rfl (Nat.le_of_ble_eq_true rfl) ⟨Nat.zero_le _, Nat.zero_le _⟩ dX11_sweep_118 (fun r_18 hf => ?_)
        refine lv_istore (lv' := [(5, .int r_18), (0, .ref (a 0)), (1, .int x1), (2, .int x2), (3, .int y3), (4, .int y4)]) hx hb dX11_sweep_121 hl (by decide) rfl (fun ls hl => ?_)
        refine lv_aload_n hx hb dX11_sweep_123 rfl (lv_at hl 1 rfl) ?_
        refine lv_iconst (v := 1) hx hb dX11_sweep_124 (by decide) ?_
        refine z_cVi (As := [.int (1 : Int32)]) (rest := []) X (c_X11_liveInAll l dC dI cI cJ cS a z (1 : Int32) _ hf) zc_X11_liveInAll q_ml_X11_323 ⟨rfl, rfl⟩ ⟨Nat.le_of_ble_eq_true rfl, Nat.le_of_ble_eq_true rfl⟩ hP [0, 1, 2, 3, 4, 5, 6, 7, 8] rfl 10 rfl rfl hl.1 rfl rfl (Nat.le_of_ble_eq_true rfl) ⟨Nat.zero_le _, Nat.zero_le _⟩ dX11_sweep_125 (fun r_19 hf => ?_)
        refine lv_istore (lv' := [(6, .int r_19), (5, .int r_18), (0, .ref (a 0)), (1, .int x1), (2, .int x2), (3, .int y3), (4, .int y4)]) hx hb dX11_sweep_128 hl (by decide) rfl (fun ls hl => ?_)
        refine lv_iload hx hb dX11_sweep_130 (lv_at hl 1 rfl) ?_
        refine lv_iload hx hb dX11_sweep_132 (lv_at hl 0 rfl) ?_
        refine lv_iadd hx hb dX11_sweep_134 ?_
        refine lv_aload_n hx hb dX11_sweep_135 rfl (lv_at hl 2 rfl) ?_
        refine lv_iconst (v := 0) hx hb dX11_sweep_136 (by decide) ?_
        refine z_cVi (As := [.int (0 : Int32)]) (rest := [.int (r_18 + r_19)]) X (c_X11_liveInAll l dC dI cI cJ cS a z (0 : Int32) _ hf) zc_X11_liveInAll q_ml_X11_323 ⟨rfl, rfl⟩ ⟨Nat.le_of_ble_eq_true rfl, Nat.le_of_ble_eq_true rfl⟩ hP [0, 1, 2, 3, 4, 5, 6, 7, 8] rfl 10 rfl rfl hl.1 rfl rfl (Nat.le_of_ble_eq_true rfl) ⟨Nat.zero_le _, Nat.zero_le _⟩ dX11_sweep_137 (fun r_20 hf => ?_)
        refine lv_iadd hx hb dX11_sweep_140 ?_
        refine lv_topi (fun x_21 ex_21 => ?_)
        have hf := hf x_21 ex_21
        refine lv_istore (lv' := [(7, .int x_21), (6, .int r_19), (5, .int r_18), (0, .ref (a 0)), (1, .int x1), (2, .int x2), (3, .int y3), (4, .int y4)]) hx hb dX11_sweep_141 hl (by decide) rfl (fun ls hl => ?_)
        refine lv_aload_n hx hb dX11_sweep_143 rfl (lv_at hl 3 rfl) ?_
        refine z_mVv (Wn := (fun u_23 => cl_X11 cI cJ a u_23)) (As := []) (rest := []) (wr := []) X (c_X11_trialBack l dC dI cI cJ cS a z  _ hf _) zc_X11_trialBack q_ml_X11_314 ⟨rfl, rfl⟩ ⟨Nat.le_of_ble_eq_true rfl, Nat.le_of_ble_eq_true rfl⟩ hP hD hS hA [0, 1, 2, 3, 4, 5, 6, 7, 8] [] rfl (by decide) rfl (by decide) (by decide) [0, 1, 2, 3, 4, 5, 6, 7, 8] (by decide) (fun _ => rfl) 10 rfl rfl hl.1 rfl rfl (Nat.le_of_ble_eq_true rfl) ⟨Nat.zero_le _, Nat.zero_le _⟩ dX11_sweep_144 (fun u_23 H locs hf hP hD hS => ?_)
        refine lv_iload_n hx hb dX11_sweep_147 rfl (lv_at hl 5 rfl) ?_
        refine lv_if_ne (tgt := 155) hx hb dX11_sweep_148 (by decide) (fun c_24 => ?_) (fun c_24 => ?_)
        · have hf := hf.1 c_24
          refine lv_iload_n hx hb dX11_sweep_155 rfl (lv_at hl 5 rfl) ?_
          refine lv_iconst (v := 1) hx hb dX11_sweep_156 (by decide) ?_
          refine lv_icmp_ne (tgt := 165) hx hb dX11_sweep_157 (by decide) (fun c_25 => ?_) (fun c_25 => ?_)
          · have hf := hf.1 c_25
            refine lv_bipush (v := 100) hx hb dX11_sweep_165 (by decide) ?_
            refine lv_iload hx hb dX11_sweep_167 (lv_at hl 1 rfl) ?_
            refine lv_imul hx hb dX11_sweep_169 ?_
            refine lv_iload hx hb dX11_sweep_170 (lv_at hl 0 rfl) ?_
            obtain ⟨hg, hf⟩ := hf
            refine lv_idiv hx hb dX11_sweep_172 hg ?_
            exact z_retMi (Wf := (fun z => cl_X11 cI cJ a z)) (u := u_23) X hf hP hD hS dX11_sweep_173
          · have hf := hf.2 c_25
            refine lv_iload hx hb dX11_sweep_160 (lv_at hl 2 rfl) ?_
            refine lv_goto (tgt := 173) hx hb dX11_sweep_162 (by decide) ?_
            exact z_retMi (Wf := (fun z => cl_X11 cI cJ a z)) (u := u_23) X hf hP hD hS dX11_sweep_173
        · have hf := hf.2 c_24
          refine lv_iload_n hx hb dX11_sweep_151 rfl (lv_at hl 6 rfl) ?_
          refine lv_goto (tgt := 173) hx hb dX11_sweep_152 (by decide) ?_
          exact z_retMi (Wf := (fun z => cl_X11 cI cJ a z)) (u := u_23) X hf hP hD hS dX11_sweep_173
      · have hf := hf.2 c_17
        refine lv_iload hx hb dX11_sweep_59 (lv_at hl 4 rfl) ?_
        refine lv_if_eq (tgt := 117) hx hb dX11_sweep_61 (by decide) (fun c_26 => ?_) (fun c_26 => ?_)
        · have hf := hf.1 c_26
          refine lv_aload_n hx hb dX11_sweep_117 rfl (lv_at hl 0 rfl) ?_
          refine z_cVi (As := []) (rest := []) X (c_X11_spare l dC dI cI cJ cS a z  _ hf) zc_X11_spare q_ml_X11_317 ⟨rfl, rfl⟩ ⟨Nat.le_of_ble_eq_true rfl, Nat.le_of_ble_eq_true rfl⟩ hP [0, 1, 2, 3, 4, 5, 6, 7, 8] rfl 10 rfl rfl hl.1 rfl rfl (Nat.le_of_ble_eq_true rfl) ⟨Nat.zero_le _, Nat.zero_le _⟩ dX11_sweep_118 (fun r_27 hf => ?_)
          refine lv_istore (lv' := [(5, .int r_27), (0, .ref (a 0)), (1, .int x1), (2, .int x2), (3, .int y3), (4, .int y4)]) hx hb dX11_sweep_121 hl (by decide) rfl (fun ls hl => ?_)
          refine lv_aload_n hx hb dX11_sweep_123 rfl (lv_at hl 1 rfl) ?_
          refine lv_iconst (v := 1) hx hb dX11_sweep_124 (by decide) ?_
          refine z_cVi (As := [.int (1 : Int32)]) (rest := []) X (c_X11_liveInAll l dC dI cI cJ cS a z (1 : Int32) _ hf) zc_X11_liveInAll q_ml_X11_323 ⟨rfl, rfl⟩ ⟨Nat.le_of_ble_eq_true rfl, Nat.le_of_ble_eq_true rfl⟩ hP [0, 1, 2, 3, 4, 5, 6, 7, 8] rfl 10 rfl rfl hl.1 rfl rfl (Nat.le_of_ble_eq_true rfl) ⟨Nat.zero_le _, Nat.zero_le _⟩ dX11_sweep_125 (fun r_28 hf => ?_)
          refine lv_istore (lv' := [(6, .int r_28), (5, .int r_27), (0, .ref (a 0)), (1, .int x1), (2, .int x2), (3, .int y3), (4, .int y4)]) hx hb dX11_sweep_128 hl (by decide) rfl (fun ls hl => ?_)
          refine lv_iload hx hb dX11_sweep_130 (lv_at hl 1 rfl) ?_
          refine lv_iload hx hb dX11_sweep_132 (lv_at hl 0 rfl) ?_
          refine lv_iadd hx hb dX11_sweep_134 ?_
          refine lv_aload_n hx hb dX11_sweep_135 rfl (lv_at hl 2 rfl) ?_
          refine lv_iconst (v := 0) hx hb dX11_sweep_136 (by decide) ?_
          refine z_cVi (As := [.int (0 : Int32)]) (rest := [.int (r_27 + r_28)]) X (c_X11_liveInAll l dC dI cI cJ cS a z (0 : Int32) _ hf) zc_X11_liveInAll q_ml_X11_323 ⟨rfl, rfl⟩ ⟨Nat.le_of_ble_eq_true rfl, Nat.le_of_ble_eq_true rfl⟩ hP [0, 1, 2, 3, 4, 5, 6, 7, 8] rfl 10 rfl rfl hl.1 rfl rfl (Nat.le_of_ble_eq_true rfl) ⟨Nat.zero_le _, Nat.zero_le _⟩ dX11_sweep_137 (fun r_29 hf => ?_)
          refine lv_iadd hx hb dX11_sweep_140 ?_
          refine lv_topi (fun x_30 ex_30 => ?_)
          have hf := hf x_30 ex_30
          refine lv_istore (lv' := [(7, .int x_30), (6, .int r_28), (5, .int r_27), (0, .ref (a 0)), (1, .int x1), (2, .int x2), (3, .int y3), (4, .int y4)]) hx hb dX11_sweep_141 hl (by decide) rfl (fun ls hl => ?_)
          refine lv_aload_n hx hb dX11_sweep_143 rfl (lv_at hl 3 rfl) ?_
          refine z_mVv (Wn := (fun u_32 => cl_X11 cI cJ a u_32)) (As := []) (rest := []) (wr := []) X (c_X11_trialBack l dC dI cI cJ cS a z  _ hf _) zc_X11_trialBack q_ml_X11_314 ⟨rfl, rfl⟩ ⟨Nat.le_of_ble_eq_true rfl, Nat.le_of_ble_eq_true rfl⟩ hP hD hS hA [0, 1, 2, 3, 4, 5, 6, 7, 8] [] rfl (by decide) rfl (by decide) (by decide) [0, 1, 2, 3, 4, 5, 6, 7, 8] (by decide) (fun _ => rfl) 10 rfl rfl hl.1 rfl rfl (Nat.le_of_ble_eq_true rfl) ⟨Nat.zero_le _, Nat.zero_le _⟩ dX11_sweep_144 (fun u_32 H locs hf hP hD hS => ?_)
          refine lv_iload_n hx hb dX11_sweep_147 rfl (lv_at hl 5 rfl) ?_
          refine lv_if_ne (tgt := 155) hx hb dX11_sweep_148 (by decide) (fun c_33 => ?_) (fun c_33 => ?_)
          · have hf := hf.1 c_33
            refine lv_iload_n hx hb dX11_sweep_155 rfl (lv_at hl 5 rfl) ?_
            refine lv_iconst (v := 1) hx hb dX11_sweep_156 (by decide) ?_
            refine lv_icmp_ne (tgt := 165) hx hb dX11_sweep_157 (by decide) (fun c_34 => ?_) (fun c_34 => ?_)
            · have hf := hf.1 c_34
              refine lv_bipush (v := 100) hx hb dX11_sweep_165 (by decide) ?_
              refine lv_iload hx hb dX11_sweep_167 (lv_at hl 1 rfl) ?_
              refine lv_imul hx hb dX11_sweep_169 ?_
              refine lv_iload hx hb dX11_sweep_170 (lv_at hl 0 rfl) ?_
              obtain ⟨hg, hf⟩ := hf
              refine lv_idiv hx hb dX11_sweep_172 hg ?_
              exact z_retMi (Wf := (fun z => cl_X11 cI cJ a z)) (u := u_32) X hf hP hD hS dX11_sweep_173
            · have hf := hf.2 c_34
              refine lv_iload hx hb dX11_sweep_160 (lv_at hl 2 rfl) ?_
              refine lv_goto (tgt := 173) hx hb dX11_sweep_162 (by decide) ?_
              exact z_retMi (Wf := (fun z => cl_X11 cI cJ a z)) (u := u_32) X hf hP hD hS dX11_sweep_173
          · have hf := hf.2 c_33
            refine lv_iload_n hx hb dX11_sweep_151 rfl (lv_at hl 6 rfl) ?_
            refine lv_goto (tgt := 173) hx hb dX11_sweep_152 (by decide) ?_
            exact z_retMi (Wf := (fun z => cl_X11 cI cJ a z)) (u := u_32) X hf hP hD hS dX11_sweep_173
        · have hf := hf.2 c_26
          refine lv_aload_n hx hb dX11_sweep_64 rfl (lv_at hl 0 rfl) ?_
          refine z_mVi (Wn := (fun u_36 => cl_X11 cI cJ a u_36)) (As := []) (rest := []) (wr := []) X (c_X11_quit0 l dC dI cI cJ cS a z  _ hf _) zc_X11_quit0 q_ml_X11_243 ⟨rfl, rfl⟩ ⟨Nat.le_of_ble_eq_true rfl, Nat.le_of_ble_eq_true rfl⟩ hP hD hS hA [0, 1, 2, 3, 4, 5, 6, 7, 8] [] rfl (by decide) rfl (by decide) (by decide) [0, 1, 2, 3, 4, 5, 6, 7, 8] (by decide) (fun _ => rfl) 10 rfl rfl hl.1 rfl rfl (Nat.le_of_ble_eq_true rfl) ⟨Nat.zero_le _, Nat.zero_le _⟩ dX11_sweep_65 (fun r_35 u_36 H locs hf hP hD hS => ?_)
          refine lv_istore (lv' := [(6, .int r_35), (0, .ref (a 0)), (1, .int x1), (2, .int x2), (3, .int y3), (4, .int y4), (5, .int y5)]) hx hb dX11_sweep_68 hl (by decide) rfl (fun ls hl => ?_)
          refine lv_aload_n hx hb dX11_sweep_70 rfl (lv_at hl 1 rfl) ?_
          refine z_cVi (As := []) (rest := []) X (c_X11_poorest l dC dI cI cJ cS a u_36  _ hf) zc_X11_poorest q_ml_X11_134 ⟨rfl, rfl⟩ ⟨Nat.le_of_ble_eq_true rfl, Nat.le_of_ble_eq_true rfl⟩ hP [0, 1, 2, 3, 4, 5, 6, 7, 8] rfl 10 rfl rfl hl.1 rfl rfl (Nat.le_of_ble_eq_true rfl) ⟨Nat.zero_le _, Nat.zero_le _⟩ dX11_sweep_71 (fun r_37 hf => ?_)
          refine lv_istore (lv' := [(7, .int r_37), (6, .int r_35), (0, .ref (a 0)), (1, .int x1), (2, .int x2), (3, .int y3), (4, .int y4), (5, .int y5)]) hx hb dX11_sweep_74 hl (by decide) rfl (fun ls hl => ?_)
          refine lv_iload hx hb dX11_sweep_76 (lv_at hl 0 rfl) ?_
          refine lv_iconst (v := (-1)) hx hb dX11_sweep_78 (by decide) ?_
          refine lv_icmp_eq (tgt := 95) hx hb dX11_sweep_79 (by decide) (fun c_38 => ?_) (fun c_38 => ?_)
          · have hf := hf.1 c_38
            refine lv_iconst (v := 0) hx hb dX11_sweep_95 (by decide) ?_
            refine lv_istore (lv' := [(4, .int (0 : Int32)), (7, .int r_37), (6, .int r_35), (0, .ref (a 0)), (1, .int x1), (2, .int x2), (3, .int y3), (5, .int y5)]) hx hb dX11_sweep_96 hl (by decide) rfl (fun ls hl => ?_)
            refine lv_iload_n hx hb dX11_sweep_98 rfl (lv_at hl 6 rfl) ?_
            refine lv_iload hx hb dX11_sweep_99 (lv_at hl 0 rfl) ?_
            refine lv_if_eq (tgt := 108) hx hb dX11_sweep_101 (by decide) (fun c_39 => ?_) (fun c_39 => ?_)
            · have hf := hf.1 c_39
              refine lv_iconst (v := 0) hx hb dX11_sweep_108 (by decide) ?_
              refine lv_iadd hx hb dX11_sweep_109 ?_
              refine lv_topi (fun x_40 ex_40 => ?_)
              have hf := hf x_40 ex_40
              refine lv_istore_n (lv' := [(3, .int x_40), (4, .int (0 : Int32)), (7, .int r_37), (6, .int r_35), (0, .ref (a 0)), (1, .int x1), (2, .int x2), (5, .int y5)]) hx hb dX11_sweep_110 rfl hl (by decide) rfl (fun ls hl => ?_)
              obtain ⟨x_41, ex_41⟩ : ∃ y : Int32, y = y5 + (1 : Int32) := ⟨_, rfl⟩
              have hf := hf x_41 ex_41
              refine lv_iinc (v := x_41) (lv' := [(5, .int x_41), (3, .int x_40), (4, .int (0 : Int32)), (7, .int r_37), (6, .int r_35), (0, .ref (a 0)), (1, .int x1), (2, .int x2)]) hx hb dX11_sweep_111 hl (k := 7) rfl (by rw [ex_41]; rfl) (by decide) rfl (fun ls hl => ?_)
              refine lv_goto (tgt := 53) hx hb dX11_sweep_114 (by decide) ?_
              obtain ⟨k_42, hk_42, hf⟩ := hf
              exact (ih k_42 hk_42) _ _ _ u_36 _ _ ls hf hP hD hS (lv_sub hl [5, 6, 7, 1, 2, 0] rfl)
            · have hf := hf.2 c_39
              refine lv_iconst (v := 1) hx hb dX11_sweep_104 (by decide) ?_
              refine lv_goto (tgt := 109) hx hb dX11_sweep_105 (by decide) ?_
              refine lv_iadd hx hb dX11_sweep_109 ?_
              refine lv_topi (fun x_43 ex_43 => ?_)
              have hf := hf x_43 ex_43
              refine lv_istore_n (lv' := [(3, .int x_43), (4, .int (0 : Int32)), (7, .int r_37), (6, .int r_35), (0, .ref (a 0)), (1, .int x1), (2, .int x2), (5, .int y5)]) hx hb dX11_sweep_110 rfl hl (by decide) rfl (fun ls hl => ?_)
              obtain ⟨x_44, ex_44⟩ : ∃ y : Int32, y = y5 + (1 : Int32) := ⟨_, rfl⟩
              have hf := hf x_44 ex_44
              refine lv_iinc (v := x_44) (lv' := [(5, .int x_44), (3, .int x_43), (4, .int (0 : Int32)), (7, .int r_37), (6, .int r_35), (0, .ref (a 0)), (1, .int x1), (2, .int x2)]) hx hb dX11_sweep_111 hl (k := 7) rfl (by rw [ex_44]; rfl) (by decide) rfl (fun ls hl => ?_)
              refine lv_goto (tgt := 53) hx hb dX11_sweep_114 (by decide) ?_
              obtain ⟨k_45, hk_45, hf⟩ := hf
              exact (ih k_45 hk_45) _ _ _ u_36 _ _ ls hf hP hD hS (lv_sub hl [5, 6, 7, 1, 2, 0] rfl)
          · have hf := hf.2 c_38
            refine lv_aload_n hx hb dX11_sweep_82 rfl (lv_at hl 2 rfl) ?_
            refine lv_iload hx hb dX11_sweep_83 (lv_at hl 0 rfl) ?_
            refine z_mVi (Wn := (fun u_47 => cl_X11 cI cJ a u_47)) (As := [.int r_37]) (rest := []) (wr := []) X (c_X11_goesThrough l dC dI cI cJ cS a u_36 r_37 _ hf _) zc_X11_goesThrough q_ml_X11_320 ⟨rfl, rfl⟩ ⟨Nat.le_of_ble_eq_true rfl, Nat.le_of_ble_eq_true rfl⟩ hP hD hS hA [0, 1, 2, 3, 4, 5, 6, 7, 8] [] rfl (by decide) rfl (by decide) (by decide) [0, 1, 2, 3, 4, 5, 6, 7, 8] (by decide) (fun _ => rfl) 10 rfl rfl hl.1 rfl rfl (Nat.le_of_ble_eq_true rfl) ⟨Nat.zero_le _, Nat.zero_le _⟩ dX11_sweep_85 (fun r_46 u_47 H locs hf hP hD hS => ?_)
            obtain ⟨hbr_46, hf⟩ := hf
            refine lv_if_eq (tgt := 95) hx hb dX11_sweep_88 (by decide) (fun c_48 => ?_) (fun c_48 => ?_)
            · have hf := hf.1 c_48
              refine lv_iconst (v := 0) hx hb dX11_sweep_95 (by decide) ?_
              refine lv_istore (lv' := [(4, .int (0 : Int32)), (7, .int r_37), (6, .int r_35), (0, .ref (a 0)), (1, .int x1), (2, .int x2), (3, .int y3), (5, .int y5)]) hx hb dX11_sweep_96 hl (by decide) rfl (fun ls hl => ?_)
              refine lv_iload_n hx hb dX11_sweep_98 rfl (lv_at hl 6 rfl) ?_
              refine lv_iload hx hb dX11_sweep_99 (lv_at hl 0 rfl) ?_
              refine lv_if_eq (tgt := 108) hx hb dX11_sweep_101 (by decide) (fun c_49 => ?_) (fun c_49 => ?_)
              · have hf := hf.1 c_49
                refine lv_iconst (v := 0) hx hb dX11_sweep_108 (by decide) ?_
                refine lv_iadd hx hb dX11_sweep_109 ?_
                refine lv_topi (fun x_50 ex_50 => ?_)
                have hf := hf x_50 ex_50
                refine lv_istore_n (lv' := [(3, .int x_50), (4, .int (0 : Int32)), (7, .int r_37), (6, .int r_35), (0, .ref (a 0)), (1, .int x1), (2, .int x2), (5, .int y5)]) hx hb dX11_sweep_110 rfl hl (by decide) rfl (fun ls hl => ?_)
                obtain ⟨x_51, ex_51⟩ : ∃ y : Int32, y = y5 + (1 : Int32) := ⟨_, rfl⟩
                have hf := hf x_51 ex_51
                refine lv_iinc (v := x_51) (lv' := [(5, .int x_51), (3, .int x_50), (4, .int (0 : Int32)), (7, .int r_37), (6, .int r_35), (0, .ref (a 0)), (1, .int x1), (2, .int x2)]) hx hb dX11_sweep_111 hl (k := 7) rfl (by rw [ex_51]; rfl) (by decide) rfl (fun ls hl => ?_)
                refine lv_goto (tgt := 53) hx hb dX11_sweep_114 (by decide) ?_
                obtain ⟨k_52, hk_52, hf⟩ := hf
                exact (ih k_52 hk_52) _ _ _ u_47 _ _ ls hf hP hD hS (lv_sub hl [5, 6, 7, 1, 2, 0] rfl)
              · have hf := hf.2 c_49
                refine lv_iconst (v := 1) hx hb dX11_sweep_104 (by decide) ?_
                refine lv_goto (tgt := 109) hx hb dX11_sweep_105 (by decide) ?_
                refine lv_iadd hx hb dX11_sweep_109 ?_
                refine lv_topi (fun x_53 ex_53 => ?_)
                have hf := hf x_53 ex_53
                refine lv_istore_n (lv' := [(3, .int x_53), (4, .int (0 : Int32)), (7, .int r_37), (6, .int r_35), (0, .ref (a 0)), (1, .int x1), (2, .int x2), (5, .int y5)]) hx hb dX11_sweep_110 rfl hl (by decide) rfl (fun ls hl => ?_)
                obtain ⟨x_54, ex_54⟩ : ∃ y : Int32, y = y5 + (1 : Int32) := ⟨_, rfl⟩
                have hf := hf x_54 ex_54
                refine lv_iinc (v := x_54) (lv' := [(5, .int x_54), (3, .int x_53), (4, .int (0 : Int32)), (7, .int r_37), (6, .int r_35), (0, .ref (a 0)), (1, .int x1), (2, .int x2)]) hx hb dX11_sweep_111 hl (k := 7) rfl (by rw [ex_54]; rfl) (by decide) rfl (fun ls hl => ?_)
                refine lv_goto (tgt := 53) hx hb dX11_sweep_114 (by decide) ?_
                obtain ⟨k_55, hk_55, hf⟩ := hf
                exact (ih k_55 hk_55) _ _ _ u_47 _ _ ls hf hP hD hS (lv_sub hl [5, 6, 7, 1, 2, 0] rfl)
            · have hf := hf.2 c_48
              refine lv_iconst (v := 1) hx hb dX11_sweep_91 (by decide) ?_
              refine lv_goto (tgt := 96) hx hb dX11_sweep_92 (by decide) ?_
              refine lv_istore (lv' := [(4, .int (1 : Int32)), (7, .int r_37), (6, .int r_35), (0, .ref (a 0)), (1, .int x1), (2, .int x2), (3, .int y3), (5, .int y5)]) hx hb dX11_sweep_96 hl (by decide) rfl (fun ls hl => ?_)
              refine lv_iload_n hx hb dX11_sweep_98 rfl (lv_at hl 6 rfl) ?_
              refine lv_iload hx hb dX11_sweep_99 (lv_at hl 0 rfl) ?_
              refine lv_if_eq (tgt := 108) hx hb dX11_sweep_101 (by decide) (fun c_56 => ?_) (fun c_56 => ?_)
              · have hf := hf.1 c_56
                refine lv_iconst (v := 0) hx hb dX11_sweep_108 (by decide) ?_
                refine lv_iadd hx hb dX11_sweep_109 ?_
                refine lv_topi (fun x_57 ex_57 => ?_)
                have hf := hf x_57 ex_57
                refine lv_istore_n (lv' := [(3, .int x_57), (4, .int (1 : Int32)), (7, .int r_37), (6, .int r_35), (0, .ref (a 0)), (1, .int x1), (2, .int x2), (5, .int y5)]) hx hb dX11_sweep_110 rfl hl (by decide) rfl (fun ls hl => ?_)
                obtain ⟨x_58, ex_58⟩ : ∃ y : Int32, y = y5 + (1 : Int32) := ⟨_, rfl⟩
                have hf := hf x_58 ex_58
                refine lv_iinc (v := x_58) (lv' := [(5, .int x_58), (3, .int x_57), (4, .int (1 : Int32)), (7, .int r_37), (6, .int r_35), (0, .ref (a 0)), (1, .int x1), (2, .int x2)]) hx hb dX11_sweep_111 hl (k := 7) rfl (by rw [ex_58]; rfl) (by decide) rfl (fun ls hl => ?_)
                refine lv_goto (tgt := 53) hx hb dX11_sweep_114 (by decide) ?_
                obtain ⟨k_59, hk_59, hf⟩ := hf
                exact (ih k_59 hk_59) _ _ _ u_47 _ _ ls hf hP hD hS (lv_sub hl [5, 6, 7, 1, 2, 0] rfl)
              · have hf := hf.2 c_56
                refine lv_iconst (v := 1) hx hb dX11_sweep_104 (by decide) ?_
                refine lv_goto (tgt := 109) hx hb dX11_sweep_105 (by decide) ?_
                refine lv_iadd hx hb dX11_sweep_109 ?_
                refine lv_topi (fun x_60 ex_60 => ?_)
                have hf := hf x_60 ex_60
                refine lv_istore_n (lv' := [(3, .int x_60), (4, .int (1 : Int32)), (7, .int r_37), (6, .int r_35), (0, .ref (a 0)), (1, .int x1), (2, .int x2), (5, .int y5)]) hx hb dX11_sweep_110 rfl hl (by decide) rfl (fun ls hl => ?_)
                obtain ⟨x_61, ex_61⟩ : ∃ y : Int32, y = y5 + (1 : Int32) := ⟨_, rfl⟩
                have hf := hf x_61 ex_61
                refine lv_iinc (v := x_61) (lv' := [(5, .int x_61), (3, .int x_60), (4, .int (1 : Int32)), (7, .int r_37), (6, .int r_35), (0, .ref (a 0)), (1, .int x1), (2, .int x2)]) hx hb dX11_sweep_111 hl (k := 7) rfl (by rw [ex_61]; rfl) (by decide) rfl (fun ls hl => ?_)
                refine lv_goto (tgt := 53) hx hb dX11_sweep_114 (by decide) ?_
                obtain ⟨k_62, hk_62, hf⟩ := hf
                exact (ih k_62 hk_62) _ _ _ u_47 _ _ ls hf hP hD hS (lv_sub hl [5, 6, 7, 1, 2, 0] rfl)
  unfold t_X11_sweep_e at hf
  refine lv_aload_n hx hb dX11_sweep_0 rfl (lv_at hl 0 rfl) ?_
  refine lv_iload_n hx hb dX11_sweep_1 rfl (lv_at hl 1 rfl) ?_
  refine lv_iconst (v := 1) hx hb dX11_sweep_2 (by decide) ?_
  refine lv_bipush (v := 6) hx hb dX11_sweep_3 (by decide) ?_
  refine z_cSi (As := [.int x1, .int (1 : Int32), .int (6 : Int32)]) (rest := [.ref (a 0)]) X (c_X11_isIn l dC dI cI cJ cS   x1 (1 : Int32) (6 : Int32) _ hf) zc_X11_isIn q_ml_X11_165 ⟨rfl, rfl⟩ ⟨Nat.le_of_ble_eq_true rfl, Nat.le_of_ble_eq_true rfl⟩ hP [] rfl hl.1 rfl rfl (Nat.le_of_ble_eq_true rfl) ⟨Nat.zero_le _, Nat.zero_le _⟩ dX11_sweep_5 (fun r_1 hf => ?_)
  obtain ⟨hbr_1, hf⟩ := hf
  refine lv_if_ne (tgt := 15) hx hb dX11_sweep_8 (by decide) (fun c_2 => ?_) (fun c_2 => ?_)
  · have hf := hf.1 c_2
    refine lv_iload_n hx hb dX11_sweep_15 rfl (lv_at hl 2 rfl) ?_
    refine lv_iconst (v := 0) hx hb dX11_sweep_16 (by decide) ?_
    refine lv_iconst (v := 2) hx hb dX11_sweep_17 (by decide) ?_
    refine z_cSi (As := [.int x2, .int (0 : Int32), .int (2 : Int32)]) (rest := [.ref (a 0)]) X (c_X11_isIn l dC dI cI cJ cS   x2 (0 : Int32) (2 : Int32) _ hf) zc_X11_isIn q_ml_X11_165 ⟨rfl, rfl⟩ ⟨Nat.le_of_ble_eq_true rfl, Nat.le_of_ble_eq_true rfl⟩ hP [] rfl hl.1 rfl rfl (Nat.le_of_ble_eq_true rfl) ⟨Nat.zero_le _, Nat.zero_le _⟩ dX11_sweep_18 (fun r_3 hf => ?_)
    obtain ⟨hbr_3, hf⟩ := hf
    refine lv_if_ne (tgt := 28) hx hb dX11_sweep_21 (by decide) (fun c_4 => ?_) (fun c_4 => ?_)
    · have hf := hf.1 c_4
      refine lv_iconst (v := 0) hx hb dX11_sweep_28 (by decide) ?_
      refine z_put (w' := cl_X11 cI cJ a ((0 : Int32), u.2)) (ci := 10) (v := .int (0 : Int32)) (ty := .int) (Cn := RX11) (T := TX11) (N := 17) X inX11 tyX11 tyX11_ok nmX11 hP hD hS 0 rfl rfl 0 (by decide) (hts _ q_fl_X11_43) (fun _ h9 => h9) rfl (tyX11_ok 0 (by decide)) rfl rfl (Nat.le_of_ble_eq_true rfl) rfl dX11_sweep_29 (fun H locs hP hD hS => ?_)
      refine lv_aload_n hx hb dX11_sweep_32 rfl (lv_at hl 0 rfl) ?_
      refine va_get (D := (dC, dI)) (ci := 10) (v := .int (0 : Int32)) (C := RX11) (T := TX11) (N := 17) hx hb hts inX11 hown hK hP 0 rfl rfl 0 (by decide) (hts _ q_fl_X11_43) (fun _ h9 => h9) rfl dX11_sweep_33 ?_
      refine lv_if_le (tgt := 41) hx hb dX11_sweep_36 (by decide) (fun c_5 => ?_) (fun c_5 => ?_)
      · have hf := hf.1 c_5
        refine lv_aload_n hx hb dX11_sweep_41 rfl (lv_at hl 0 rfl) ?_
        refine z_mVv (Wn := (fun u_7 => cl_X11 cI cJ a u_7)) (As := []) (rest := []) (wr := []) X (c_X11_keepsTrial l dC dI cI cJ cS a ((0 : Int32), u.2)  _ hf _) zc_X11_keepsTrial q_ml_X11_311 ⟨rfl, rfl⟩ ⟨Nat.le_of_ble_eq_true rfl, Nat.le_of_ble_eq_true rfl⟩ hP hD hS hA [0, 1, 2, 3, 4, 5, 6, 7, 8] [] rfl (by decide) rfl (by decide) (by decide) [0, 1, 2, 3, 4, 5, 6, 7, 8] (by decide) (fun _ => rfl) 10 rfl rfl hl.1 rfl rfl (Nat.le_of_ble_eq_true rfl) ⟨Nat.zero_le _, Nat.zero_le _⟩ dX11_sweep_42 (fun u_7 H locs hf hP hD hS => ?_)
        refine lv_iconst (v := 0) hx hb dX11_sweep_45 (by decide) ?_
        refine lv_istore_n (lv' := [(3, .int (0 : Int32)), (0, .ref (a 0)), (1, .int x1), (2, .int x2)]) hx hb dX11_sweep_46 rfl hl (by decide) rfl (fun ls hl => ?_)
        refine lv_iconst (v := 1) hx hb dX11_sweep_47 (by decide) ?_
        refine lv_istore (lv' := [(4, .int (1 : Int32)), (3, .int (0 : Int32)), (0, .ref (a 0)), (1, .int x1), (2, .int x2)]) hx hb dX11_sweep_48 hl (by decide) rfl (fun ls hl => ?_)
        refine lv_iconst (v := 0) hx hb dX11_sweep_50 (by decide) ?_
        refine lv_istore (lv' := [(5, .int (0 : Int32)), (4, .int (1 : Int32)), (3, .int (0 : Int32)), (0, .ref (a 0)), (1, .int x1), (2, .int x2)]) hx hb dX11_sweep_51 hl (by decide) rfl (fun ls hl => ?_)
        obtain ⟨k_8, hf⟩ := hf
        exact (LP k_8) _ _ _ u_7 _ _ ls hf hP hD hS (lv_sub hl [3, 4, 5, 2, 1, 0] rfl)
      · have hf := hf.2 c_5
        refine lv_iconst (v := 0) hx hb dX11_sweep_39 (by decide) ?_
        exact z_retMi (Wf := (fun z => cl_X11 cI cJ a z)) (u := ((0 : Int32), u.2)) X hf hP hD hS dX11_sweep_40
    · have hf := hf.2 c_4
      refine lv_iconst (v := 2) hx hb dX11_sweep_24 (by decide) ?_
      refine lv_goto (tgt := 29) hx hb dX11_sweep_25 (by decide) ?_
      refine z_put (w' := cl_X11 cI cJ a ((2 : Int32), u.2)) (ci := 10) (v := .int (2 : Int32)) (ty := .int) (Cn := RX11) (T := TX11) (N := 17) X inX11 tyX11 tyX11_ok nmX11 hP hD hS 0 rfl rfl 0 (by decide) (hts _ q_fl_X11_43) (fun _ h9 => h9) rfl (tyX11_ok 0 (by decide)) rfl rfl (Nat.le_of_ble_eq_true rfl) rfl dX11_sweep_29 (fun H locs hP hD hS => ?_)
      refine lv_aload_n hx hb dX11_sweep_32 rfl (lv_at hl 0 rfl) ?_
      refine va_get (D := (dC, dI)) (ci := 10) (v := .int (2 : Int32)) (C := RX11) (T := TX11) (N := 17) hx hb hts inX11 hown hK hP 0 rfl rfl 0 (by decide) (hts _ q_fl_X11_43) (fun _ h9 => h9) rfl dX11_sweep_33 ?_
      refine lv_if_le (tgt := 41) hx hb dX11_sweep_36 (by decide) (fun c_9 => ?_) (fun c_9 => ?_)
      · have hf := hf.1 c_9
        refine lv_aload_n hx hb dX11_sweep_41 rfl (lv_at hl 0 rfl) ?_
        refine z_mVv (Wn := (fun u_11 => cl_X11 cI cJ a u_11)) (As := []) (rest := []) (wr := []) X (c_X11_keepsTrial l dC dI cI cJ cS a ((2 : Int32), u.2)  _ hf _) zc_X11_keepsTrial q_ml_X11_311 ⟨rfl, rfl⟩ ⟨Nat.le_of_ble_eq_true rfl, Nat.le_of_ble_eq_true rfl⟩ hP hD hS hA [0, 1, 2, 3, 4, 5, 6, 7, 8] [] rfl (by decide) rfl (by decide) (by decide) [0, 1, 2, 3, 4, 5, 6, 7, 8] (by decide) (fun _ => rfl) 10 rfl rfl hl.1 rfl rfl (Nat.le_of_ble_eq_true rfl) ⟨Nat.zero_le _, Nat.zero_le _⟩ dX11_sweep_42 (fun u_11 H locs hf hP hD hS => ?_)
        refine lv_iconst (v := 0) hx hb dX11_sweep_45 (by decide) ?_
        refine lv_istore_n (lv' := [(3, .int (0 : Int32)), (0, .ref (a 0)), (1, .int x1), (2, .int x2)]) hx hb dX11_sweep_46 rfl hl (by decide) rfl (fun ls hl => ?_)
        refine lv_iconst (v := 1) hx hb dX11_sweep_47 (by decide) ?_
        refine lv_istore (lv' := [(4, .int (1 : Int32)), (3, .int (0 : Int32)), (0, .ref (a 0)), (1, .int x1), (2, .int x2)]) hx hb dX11_sweep_48 hl (by decide) rfl (fun ls hl => ?_)
        refine lv_iconst (v := 0) hx hb dX11_sweep_50 (by decide) ?_
        refine lv_istore (lv' := [(5, .int (0 : Int32)), (4, .int (1 : Int32)), (3, .int (0 : Int32)), (0, .ref (a 0)), (1, .int x1), (2, .int x2)]) hx hb dX11_sweep_51 hl (by decide) rfl (fun ls hl => ?_)
        obtain ⟨k_12, hf⟩ := hf
        exact (LP k_12) _ _ _ u_11 _ _ ls hf hP hD hS (lv_sub hl [3, 4, 5, 2, 1, 0] rfl)
      · have hf := hf.2 c_9
        refine lv_iconst (v := 0) hx hb dX11_sweep_39 (by decide) ?_
        exact z_retMi (Wf := (fun z => cl_X11 cI cJ a z)) (u := ((2 : Int32), u.2)) X hf hP hD hS dX11_sweep_40
  · have hf := hf.2 c_2
    refine lv_iconst (v := 1) hx hb dX11_sweep_11 (by decide) ?_
    refine lv_goto (tgt := 29) hx hb dX11_sweep_12 (by decide) ?_
    refine z_put (w' := cl_X11 cI cJ a ((1 : Int32), u.2)) (ci := 10) (v := .int (1 : Int32)) (ty := .int) (Cn := RX11) (T := TX11) (N := 17) X inX11 tyX11 tyX11_ok nmX11 hP hD hS 0 rfl rfl 0 (by decide) (hts _ q_fl_X11_43) (fun _ h9 => h9) rfl (tyX11_ok 0 (by decide)) rfl rfl (Nat.le_of_ble_eq_true rfl) rfl dX11_sweep_29 (fun H locs hP hD hS => ?_)
    refine lv_aload_n hx hb dX11_sweep_32 rfl (lv_at hl 0 rfl) ?_
    refine va_get (D := (dC, dI)) (ci := 10) (v := .int (1 : Int32)) (C := RX11) (T := TX11) (N := 17) hx hb hts inX11 hown hK hP 0 rfl rfl 0 (by decide) (hts _ q_fl_X11_43) (fun _ h9 => h9) rfl dX11_sweep_33 ?_
    refine lv_if_le (tgt := 41) hx hb dX11_sweep_36 (by decide) (fun c_13 => ?_) (fun c_13 => ?_)
    · have hf := hf.1 c_13
      refine lv_aload_n hx hb dX11_sweep_41 rfl (lv_at hl 0 rfl) ?_
      refine z_mVv (Wn := (fun u_15 => cl_X11 cI cJ a u_15)) (As := []) (rest := []) (wr := []) X (c_X11_keepsTrial l dC dI cI cJ cS a ((1 : Int32), u.2)  _ hf _) zc_X11_keepsTrial q_ml_X11_311 ⟨rfl, rfl⟩ ⟨Nat.le_of_ble_eq_true rfl, Nat.le_of_ble_eq_true rfl⟩ hP hD hS hA [0, 1, 2, 3, 4, 5, 6, 7, 8] [] rfl (by decide) rfl (by decide) (by decide) [0, 1, 2, 3, 4, 5, 6, 7, 8] (by decide) (fun _ => rfl) 10 rfl rfl hl.1 rfl rfl (Nat.le_of_ble_eq_true rfl) ⟨Nat.zero_le _, Nat.zero_le _⟩ dX11_sweep_42 (fun u_15 H locs hf hP hD hS => ?_)
      refine lv_iconst (v := 0) hx hb dX11_sweep_45 (by decide) ?_
      refine lv_istore_n (lv' := [(3, .int (0 : Int32)), (0, .ref (a 0)), (1, .int x1), (2, .int x2)]) hx hb dX11_sweep_46 rfl hl (by decide) rfl (fun ls hl => ?_)
      refine lv_iconst (v := 1) hx hb dX11_sweep_47 (by decide) ?_
      refine lv_istore (lv' := [(4, .int (1 : Int32)), (3, .int (0 : Int32)), (0, .ref (a 0)), (1, .int x1), (2, .int x2)]) hx hb dX11_sweep_48 hl (by decide) rfl (fun ls hl => ?_)
      refine lv_iconst (v := 0) hx hb dX11_sweep_50 (by decide) ?_
      refine lv_istore (lv' := [(5, .int (0 : Int32)), (4, .int (1 : Int32)), (3, .int (0 : Int32)), (0, .ref (a 0)), (1, .int x1), (2, .int x2)]) hx hb dX11_sweep_51 hl (by decide) rfl (fun ls hl => ?_)
      obtain ⟨k_16, hf⟩ := hf
      exact (LP k_16) _ _ _ u_15 _ _ ls hf hP hD hS (lv_sub hl [3, 4, 5, 2, 1, 0] rfl)
    · have hf := hf.2 c_13
      refine lv_iconst (v := 0) hx hb dX11_sweep_39 (by decide) ?_
      exact z_retMi (Wf := (fun z => cl_X11 cI cJ a z)) (u := ((1 : Int32), u.2)) X hf hP hD hS dX11_sweep_40
def s_X11_sweep (u : zModel) (x1 x2 : Int32) (Q : Int32 → zModel → Prop) : Prop := ∃ (B : Nat) (G : zG), okG B G ∧ B + 400 ≤ 400000 ∧ mG G u ∧ ∀ u' : zModel, mG G u' → u'.1 = (fSweep (gNow G) x1 x2).1 → Q (fSweep (gNow G) x1 x2).2 u'
theorem uNote_quit (v : zState) (s : Nat) : uNote (uQuit v) s = uNote v s := by
  have e : ∀ j, uNt (uQuit v) s j = uNt v s j := by
    intro j
    induction j with
    | zero => rfl
    | succ j ih =>
      show (if uLiv (uQuit v) (uRec (uQuit v) s j) then (vp_updL (uNt (uQuit v) s j).1 (uNt (uQuit v) s j).2 (uRec (uQuit v) s j), (uNt (uQuit v) s j).2 + 1) else uNt (uQuit v) s j) = _
      rw [ih]; rfl
  unfold uNote
  rw [show cN (uQuit v) s = cN v s from rfl, e]; rfl
theorem uPoor_quit (v : zState) : ∀ n, uPoor (uQuit v) n = uPoor v n
  | 0 => rfl
  | n + 1 => by
    show (if (uQuit v).2.2.1.2.2.2.1 n = 2 then _ else _) = _
    rw [uPoor_quit v n]; rfl
theorem uGo_quit (v : zState) (s : Nat) : uGo (uQuit v) s = uGo v s := by unfold uGo; rw [uNote_quit]
theorem st_X11_sweep {u : zModel} {x1 x2 : Int32} {Q : Int32 → zModel → Prop} (h : s_X11_sweep u x1 x2 Q) : v_X11_sweep u x1 x2 Q := by
  obtain ⟨B0, G, hG, hB0, hm, hQ⟩ := h
  unfold fSweep at hQ
  by_cases c1 : inR x1 1 6
  · by_cases c2 : inR x2 0 2
    · rw [if_pos c1, if_pos c2] at hQ
      obtain ⟨n, hn1, hn2, rfl, en⟩ := inR_n (a := 1) (b := 6) (by decide) (by decide) c1
      rw [en] at hQ
      -- what is answered at the end, in a State that is the last one but for what is noted
      have fin : ∀ (B : Nat) (w w' : zState) (c : Nat) (mm tr : Nat → Int32) (y : Int32), okB B w' → (w' = w ∨ w' = uQuit w) → mRel w' mm → (∀ j, j < 5497 → tr j = u.2.1 j) → y = nI c → (c, w) = swN n 0 (gNow G) → s_X11_spare ((0 : Int32), mm, u.2.2.1, tr, u.2.2.2.2) (fun r_18 : Int32 => s_X11_liveInAll ((0 : Int32), mm, u.2.2.1, tr, u.2.2.2.2) (1 : Int32) (fun r_19 : Int32 => s_X11_liveInAll ((0 : Int32), mm, u.2.2.1, tr, u.2.2.2.2) (0 : Int32) (fun r_20 : Int32 => ∀ x_21 : Int32, x_21 = ((r_18 + r_19) + r_20) → s_X11_trialBack ((0 : Int32), mm, u.2.2.1, tr, u.2.2.2.2) (fun (u_23 : zModel) => ((¬ x2 = 0 → ((¬ x2 = (1 : Int32) → (¬ x_21 = 0) ∧ Q (((100 : Int32) * r_19) / x_21) u_23) ∧ (x2 = (1 : Int32) → Q r_18 u_23))) ∧ (x2 = 0 → Q y u_23)))))) := by
        intro B w w' c mm tr y hw' hww hr htr hy hsw
        rw [← hsw] at hQ
        have hmk := hw'.mok hr
        have e1 : uSpare w' = uSpare w := by rcases hww with q | q <;> rw [q] <;> rfl
        have e2 : l_sum (uLive w') 12 = l_sum (uLive w) 12 := by rcases hww with q | q <;> rw [q] <;> rfl
        have e3 : uAll w' = uAll w := by rcases hww with q | q <;> rw [q] <;> rfl
        obtain ⟨ρ, β, mo, lm, L, S, M, hP⟩ := id hw'
        refine ⟨w', hmk, w', hmk, Or.inl ⟨rfl, w', hmk, Or.inr ⟨rfl, fun y21 e21 f hf => ?_⟩⟩⟩
        have e21 : y21 = uAll w := by
          rw [e21, Int32.add_assoc, l_sub (uLive w') (fun s => w'.2.2.1.2.2.1 s) 12, ← e3]; rfl
        have hpos : ¬ y21 = 0 := fun q => by
          have := all_pos hP
          rw [e3, ← e21, q] at this
          exact absurd this (by decide)
        have mg : mG G ((0 : Int32), f, u.2.2.1, tr, u.2.2.2.2) := mG_of (hG.1.same hm.now (fun j hj => (hf j hj).trans (htr j hj))) hm.r hm.2.2.2.2.2.2
        have hQ := hQ _ mg rfl
        dsimp only at hQ
        unfold uSwA at hQ
        refine ⟨fun d => ⟨fun d2 => ⟨hpos, ?_⟩, fun d2 => ?_⟩, fun d => ?_⟩
        · rw [if_neg d, if_neg d2] at hQ
          rw [e21, e2]; exact hQ
        · rw [if_neg d, if_pos d2] at hQ
          rw [e1]; exact hQ
        · rw [if_pos d] at hQ
          rw [hy]; exact hQ
      refine ⟨fun k y3 y4 y5 z => ∃ (i c B : Nat) (w w' : zState) (mm tr : Nat → Int32), i ≤ n ∧ k = n - i ∧ y3 = nI c ∧ y5 = nI i ∧ okB B w' ∧ B + 51 * (n - i) ≤ 400000 ∧ (w' = w ∨ w' = uQuit w) ∧ mRel w' mm ∧ (∀ j, j < 5497 → tr j = u.2.1 j) ∧ z = ((0 : Int32), mm, u.2.2.1, tr, u.2.2.2.2) ∧ ((y4 = 1 ∧ swN (n - i) c w = swN n 0 (gNow G)) ∨ (y4 = 0 ∧ (c, w) = swN n 0 (gNow G))), ?_, ?_⟩
      · rintro k y3 y4 y5 z ⟨i, c, B, w, w', mm, tr, hi, rfl, rfl, rfl, hw', hB, hww, hr, htr, rfl, hsw⟩
        refine ⟨fun d => ?_, fun d => ⟨fun d2 => ?_, fun d2 => ?_⟩⟩
        · have hin : i = n := by
            have := (nI_leI (by omega) (by omega)).mp d
            omega
          subst hin
          refine fin B w w' c mm tr _ hw' hww hr htr rfl ?_
          rcases hsw with ⟨-, q⟩ | ⟨-, q⟩
          · rw [Nat.sub_self] at q; exact q
          · exact q
        · rcases hsw with ⟨q, -⟩ | ⟨-, q⟩
          · rw [q] at d2; exact absurd d2 (by decide)
          · exact fin B w w' c mm tr _ hw' hww hr htr rfl q
        · have hin : i < n := by
            have : ¬ n ≤ i := fun q => d (nI_le q (by omega))
            omega
          have hsw : swN (n - i) c w = swN n 0 (gNow G) := by
            rcases hsw with ⟨-, q⟩ | ⟨q, -⟩
            · exact q
            · exact absurd q d2
          obtain ⟨t, et⟩ : ∃ t, n - i = t + 1 := ⟨n - i - 1, by omega⟩
          have et' : n - (i + 1) = t := by omega
          rw [et] at hsw
          have hu : swN (t + 1) c w = if (uPoor w 12).1 = -1 then (c, w) else if (uGo w (uPoor w 12).1.toNatClampNeg).2.2.2.2.1.2.1 = -1 then swN t (c + 1) (uGo w (uPoor w 12).1.toNatClampNeg) else (c, uGo w (uPoor w 12).1.toNatClampNeg) := rfl
          rw [hu] at hsw
          have epo : uPoor w' 12 = uPoor w 12 := by
            rcases hww with q | q
            · rw [q]
            · rw [q]; exact uPoor_quit w 12
          have ego : ∀ s, uGo w' s = uGo w s := fun s => by
            rcases hww with q | q
            · rw [q]
            · rw [q]; exact uGo_quit w s
          -- behind QUIT
          have body : ∀ (w2 : zState) (m2 : Nat → Int32), okB B w2 → w2.2.2.2.2.1.2.1 = -1 → (w2 = w ∨ w2 = uQuit w) → uPoor w2 12 = uPoor w 12 → (∀ s, uGo w2 s = uGo w s) → mRel w2 m2 → ∀ K53 : Int32 → Int32 → Int32 → zModel → Prop, (∀ (y3 y4 y5 : Int32) (z : zModel), (∃ (i' c B : Nat) (w w' : zState) (mm tr : Nat → Int32), i' ≤ n ∧ n - (i + 1) = n - i' ∧ y3 = nI c ∧ y5 = nI i' ∧ okB B w' ∧ B + 51 * (n - i') ≤ 400000 ∧ (w' = w ∨ w' = uQuit w) ∧ mRel w' mm ∧ (∀ j, j < 5497 → tr j = u.2.1 j) ∧ z = ((0 : Int32), mm, u.2.2.1, tr, u.2.2.2.2) ∧ ((y4 = 1 ∧ swN (n - i') c w = swN n 0 (gNow G)) ∨ (y4 = 0 ∧ (c, w) = swN n 0 (gNow G)))) → K53 y3 y4 y5 z) → s_X11_poorest ((0 : Int32), m2, u.2.2.1, tr, u.2.2.2.2) (fun r_37 : Int32 => ((r_37 = (-1 : Int32) → (((0 : Int32) = 0 → ∀ x_40 : Int32, x_40 = (nI c + (0 : Int32)) → ∀ x_41 : Int32, x_41 = nI i + (1 : Int32) → K53 x_40 (0 : Int32) x_41 ((0 : Int32), m2, u.2.2.1, tr, u.2.2.2.2)) ∧ (¬ (0 : Int32) = 0 → ∀ x_43 : Int32, x_43 = (nI c + (1 : Int32)) → ∀ x_44 : Int32, x_44 = nI i + (1 : Int32) → K53 x_43 (0 : Int32) x_44 ((0 : Int32), m2, u.2.2.1, tr, u.2.2.2.2)))) ∧ (¬ r_37 = (-1 : Int32) → s_X11_goesThrough ((0 : Int32), m2, u.2.2.1, tr, u.2.2.2.2) r_37 (fun (r_46 : Int32) (u_47 : zModel) => ((r_46 = 0 → (((0 : Int32) = 0 → ∀ x_50 : Int32, x_50 = (nI c + (0 : Int32)) → ∀ x_51 : Int32, x_51 = nI i + (1 : Int32) → K53 x_50 (0 : Int32) x_51 u_47) ∧ (¬ (0 : Int32) = 0 → ∀ x_53 : Int32, x_53 = (nI c + (1 : Int32)) → ∀ x_54 : Int32, x_54 = nI i + (1 : Int32) → K53 x_53 (0 : Int32) x_54 u_47))) ∧ (¬ r_46 = 0 → (((1 : Int32) = 0 → ∀ x_57 : Int32, x_57 = (nI c + (0 : Int32)) → ∀ x_58 : Int32, x_58 = nI i + (1 : Int32) → K53 x_57 (1 : Int32) x_58 u_47) ∧ (¬ (1 : Int32) = 0 → ∀ x_60 : Int32, x_60 = (nI c + (1 : Int32)) → ∀ x_61 : Int32, x_61 = nI i + (1 : Int32) → K53 x_60 (1 : Int32) x_61 u_47))))))))  := by
            intro w2 m2 hw2 hoff hww2 epo2 ego2 hr2 K53 hK
            refine ⟨w2, hw2.mok hr2, ?_⟩
            rw [epo2]
            refine ⟨fun p => ⟨fun _ x e x' e' => hK _ _ _ _ ?_, fun q => absurd rfl q⟩, fun p => ?_⟩
            · rw [if_pos p] at hsw
              exact ⟨i + 1, c, B, w, w2, m2, tr, by omega, rfl, by rw [e, Int32.add_zero], by rw [e', nI_1], hw2, by omega, hww2, hr2, htr, rfl, Or.inr ⟨rfl, hsw⟩⟩
            · rw [if_neg p] at hsw
              obtain ⟨s, hs, es, -⟩ := (uPoor_ok w 12 (Nat.le_refl _)).resolve_left p
              rw [es, nI_clamp (by omega)] at hsw
              rw [es]
              have hse : w2.2.2.1.2.2.2.1 s = 2 := uPoor_seal w2 12 (Nat.le_refl _) s hs (by rw [epo2]; exact es)
              have hrp : uRp w2 (nI s) = 0 := uRp_1 hs hoff hse
              refine ⟨B, w2, hw2, by omega, hr2, Or.inr ⟨s, hs, rfl⟩, fun s' hs' es' h0 m' hm' => ?_, fun h0 => absurd (by rw [uSel_n _ hs]; exact hrp) h0⟩
              rw [uSel_n _ hs] at es'
              have ess : s = s' := (nI_eq (by omega) (by omega)).mp es'
              subst ess
              have hgo := hw2.go (by omega) hs hse
              unfold uGoI
              rw [ego2] at hgo hm' ⊢
              by_cases cg : (uGo w s).2.2.2.2.1.2.1 = -1
              · rw [if_pos cg] at hsw ⊢
                refine ⟨fun q => absurd q (by decide), fun _ => ⟨fun q => absurd q (by decide), fun _ x e x' e' => hK _ _ _ _ ⟨i + 1, c + 1, B + 51, uGo w s, uGo w s, m', tr, by omega, rfl, by rw [e, nI_1], by rw [e', nI_1], hgo, by omega, Or.inl rfl, hm', htr, rfl, Or.inl ⟨rfl, by rw [et']; exact hsw⟩⟩⟩⟩
              · rw [if_neg cg] at hsw ⊢
                refine ⟨fun _ => ⟨fun _ x e x' e' => hK _ _ _ _ ⟨i + 1, c, B + 51, uGo w s, uGo w s, m', tr, by omega, rfl, by rw [e, Int32.add_zero], by rw [e', nI_1], hgo, by omega, Or.inl rfl, hm', htr, rfl, Or.inr ⟨rfl, hsw⟩⟩, fun q => absurd rfl q⟩, fun q => absurd rfl q⟩
          refine ⟨w', hr, fun hon m2 hm2 => ?_, fun hoff => ?_⟩
          · have hq2 : okB B (uQuit w') := by
              obtain ⟨ρ, β, mo, lm, L, S, M, hP⟩ := id hw'
              exact ⟨ρ, β, mo, lm, L, S, M, zPr.quit hP⟩
            have hqq : uQuit w' = uQuit w := by
              rcases hww with q | q
              · rw [q]
              · rw [q]; rfl
            refine body (uQuit w') m2 hq2 rfl (Or.inr hqq) ((uPoor_quit w' 12).trans epo) (fun s => (uGo_quit w' s).trans (ego s)) hm2 (fun q0 q1 q2 q3 => ∃ k, k < n - i ∧ ∃ (i c B : Nat) (w w' : zState) (mm tr : Nat → Int32), i ≤ n ∧ k = n - i ∧ q0 = nI c ∧ q2 = nI i ∧ okB B w' ∧ B + 51 * (n - i) ≤ 400000 ∧ (w' = w ∨ w' = uQuit w) ∧ mRel w' mm ∧ (∀ j, j < 5497 → tr j = u.2.1 j) ∧ q3 = ((0 : Int32), mm, u.2.2.1, tr, u.2.2.2.2) ∧ ((q1 = 1 ∧ swN (n - i) c w = swN n 0 (gNow G)) ∨ (q1 = 0 ∧ (c, w) = swN n 0 (gNow G)))) (fun y3 y4 y5 z q => ⟨n - (i + 1), by omega, q⟩)
          · exact body w' mm hw' hoff hww epo ego hr (fun q0 q1 q2 q3 => ∃ k, k < n - i ∧ ∃ (i c B : Nat) (w w' : zState) (mm tr : Nat → Int32), i ≤ n ∧ k = n - i ∧ q0 = nI c ∧ q2 = nI i ∧ okB B w' ∧ B + 51 * (n - i) ≤ 400000 ∧ (w' = w ∨ w' = uQuit w) ∧ mRel w' mm ∧ (∀ j, j < 5497 → tr j = u.2.1 j) ∧ q3 = ((0 : Int32), mm, u.2.2.1, tr, u.2.2.2.2) ∧ ((q1 = 1 ∧ swN (n - i) c w = swN n 0 (gNow G)) ∨ (q1 = 0 ∧ (c, w) = swN n 0 (gNow G)))) (fun y3 y4 y5 z q => ⟨n - (i + 1), by omega, q⟩)
      · refine isIn_of (fun _ => ⟨fun _ => isIn_of (fun _ => ⟨fun _ => ⟨fun _ tr htr => ?_, fun q => absurd (by decide) q⟩, fun q => absurd q (by decide)⟩) (fun q => absurd c2 q), fun q => absurd q (by decide)⟩) (fun q => absurd c1 q)
        exact ⟨n - 0, 0, 0, B0, gNow G, gNow G, u.2.1, tr, Nat.zero_le _, rfl, rfl, rfl, hG.1, by omega, Or.inl rfl, hm.now, htr, rfl, Or.inl ⟨rfl, rfl⟩⟩
    · rw [if_pos c1, if_neg c2] at hQ
      exact ⟨fun _ _ _ _ _ => False, fun _ _ _ _ _ q => q.elim, isIn_of (fun _ => ⟨fun _ => isIn_of (fun q => absurd q c2) (fun _ => ⟨fun q => absurd rfl q, fun _ => ⟨fun q => absurd q (by decide), fun _ => hQ _ (hm.th 2) rfl⟩⟩), fun q => absurd q (by decide)⟩) (fun q => absurd c1 q)⟩
  · rw [if_neg c1] at hQ
    exact ⟨fun _ _ _ _ _ => False, fun _ _ _ _ _ q => q.elim, isIn_of (fun q => absurd q c1) (fun _ => ⟨fun q => absurd rfl q, fun _ => ⟨fun q => absurd q (by decide), fun _ => hQ _ (hm.th 1) rfl⟩⟩)⟩
theorem c_X11_sweep (l : Launch) (dC : Nat → ClassId) (dI : Nat → Nat → Nat) (cI cJ cS : ClassId) (a : Nat → Nat) (u : zModel) (x1 : Int32) (x2 : Int32) (Q : Int32 → zModel → Prop) (hf : s_X11_sweep u x1 x2 Q) : ∀ sz : Nat, Met l yX11_sweep (Cond.code yX11_sweep cX11_sweep 8 (some .int) :: zT) rm_X11_sweep (zPm dC dI cI cJ cS (cl_X11 cI cJ a u) [.ref (a 0), .int x1, .int x2] sz) (va_Qi Q (zB dC dI cI cJ cS (va_A (cl_X11 cI cJ a u) sz) (fun z => cl_X11 cI cJ a z)) (va_A (cl_X11 cI cJ a u) sz)) 0 0 (va_A (cl_X11 cI cJ a u) sz) := by
  obtain ⟨I53, h53, hf⟩ := st_X11_sweep hf
  exact L_X11_sweep l dC dI cI cJ cS a u x1 x2 Q I53 h53 hf
