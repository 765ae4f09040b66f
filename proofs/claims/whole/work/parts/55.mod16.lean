def t_X11_old_e (u : zModel) (x1 : Int32) (K7 : Int32 → zModel → Prop) (K29 : Int32 → Int32 → Int32 → zModel → Prop) (Q : Int32 → zModel → Prop) : Prop := K7 (0 : Int32) ((0 : Int32), u.2)
def t_X11_old_7 (x1 : Int32) (y2 : Int32) (z : zModel) (K7 : Int32 → zModel → Prop) (K29 : Int32 → Int32 → Int32 → zModel → Prop) (Q : Int32 → zModel → Prop) : Prop := (((64 : Int32) ≤ y2 → Q (-1 : Int32) z) ∧ (¬ (64 : Int32) ≤ y2 → s_X11_hasValue z y2 (fun r_3 : Int32 => ((¬ r_3 = 0 → K29 y2 (0 : Int32) (0 : Int32) z) ∧ (r_3 = 0 → ∀ x_6 : Int32, x_6 = y2 + (1 : Int32) → K7 x_6 z)))))
def t_X11_old_29 (x1 : Int32) (y2 : Int32) (y3 : Int32) (y4 : Int32) (z : zModel) (K7 : Int32 → zModel → Prop) (K29 : Int32 → Int32 → Int32 → zModel → Prop) (Q : Int32 → zModel → Prop) : Prop := (((64 : Int32) ≤ y4 → ((¬ y3 = x1 → ∀ x_10 : Int32, x_10 = y2 + (1 : Int32) → K7 x_10 z) ∧ (y3 = x1 → Q y2 z))) ∧ (¬ (64 : Int32) ≤ y4 → s_X11_hasValue z y4 (fun r_12 : Int32 => ((r_12 = 0 → ∀ x_14 : Int32, x_14 = (y3 + (0 : Int32)) → ∀ x_15 : Int32, x_15 = y4 + (1 : Int32) → K29 y2 x_14 x_15 z) ∧ (¬ r_12 = 0 → s_X11_current z y4 (0 : Int32) (fun r_17 : Int32 => s_X11_current z y2 (0 : Int32) (fun r_18 : Int32 => ((r_18 ≤ r_17 → ∀ x_20 : Int32, x_20 = (y3 + (0 : Int32)) → ∀ x_21 : Int32, x_21 = y4 + (1 : Int32) → K29 y2 x_20 x_21 z) ∧ (¬ r_18 ≤ r_17 → ∀ x_23 : Int32, x_23 = (y3 + (1 : Int32)) → ∀ x_24 : Int32, x_24 = y4 + (1 : Int32) → K29 y2 x_23 x_24 z)))))))))
theorem zc_X11_old : zCalV RX11 yX11_old cX11_old 5 (some .int) 1 := ⟨q_im_X11_old, q_se_X11_old, q_in_X11, q_cd_X11_old, ⟨by decide, by decide, by decide +kernel⟩, rfl⟩
abbrev rm_X11_old : Room := { frames := 5, cells := 0, slots := 0, locals := 109 }
def v_X11_old (u : zModel) (x1 : Int32) (Q : Int32 → zModel → Prop) : Prop := ∃ I7 : Nat → Int32 → zModel → Prop, ∃ I29 : Nat → Int32 → Int32 → Int32 → zModel → Prop, (∀ (n : Nat) (y2 : Int32) (z : zModel), I7 n y2 z → t_X11_old_7 x1 y2 z (fun q0 q1 => ∃ k : Nat, k < n ∧ I7 k q0 q1) (fun q0 q1 q2 q3 => ∃ k : Nat, k < n ∧ I29 k q0 q1 q2 q3) Q) ∧ (∀ (n : Nat) (y2 : Int32) (y3 : Int32) (y4 : Int32) (z : zModel), I29 n y2 y3 y4 z → t_X11_old_29 x1 y2 y3 y4 z (fun q0 q1 => ∃ k : Nat, k < n ∧ I7 k q0 q1) (fun q0 q1 q2 q3 => ∃ k : Nat, k < n ∧ I29 k q0 q1 q2 q3) Q) ∧ t_X11_old_e u x1 (fun q0 q1 => ∃ k : Nat, I7 k q0 q1) (fun q0 q1 q2 q3 => ∃ k : Nat, I29 k q0 q1 q2 q3) Q
set_option maxHeartbeats 4000000 in
set_option maxRecDepth 100000 in
theorem L_X11_old (l : Launch) (dC : Nat → ClassId) (dI : Nat → Nat → Nat) (cI cJ cS : ClassId) (a : Nat → Nat) (u : zModel) (x1 : Int32) (Q : Int32 → zModel → Prop) (I7 : Nat → Int32 → zModel → Prop) (I29 : Nat → Int32 → Int32 → Int32 → zModel → Prop) (h7 : ∀ (n : Nat) (y2 : Int32) (z : zModel), I7 n y2 z → t_X11_old_7 x1 y2 z (fun q0 q1 => ∃ k : Nat, k < n ∧ I7 k q0 q1) (fun q0 q1 q2 q3 => ∃ k : Nat, k < n ∧ I29 k q0 q1 q2 q3) Q) (h29 : ∀ (n : Nat) (y2 : Int32) (y3 : Int32) (y4 : Int32) (z : zModel), I29 n y2 y3 y4 z → t_X11_old_29 x1 y2 y3 y4 z (fun q0 q1 => ∃ k : Nat, k < n ∧ I7 k q0 q1) (fun q0 q1 q2 q3 => ∃ k : Nat, k < n ∧ I29 k q0 q1 q2 q3) Q) (hf : t_X11_old_e u x1 (fun q0 q1 => ∃ k : Nat, I7 k q0 q1) (fun q0 q1 q2 q3 => ∃ k : Nat, I29 k q0 q1 q2 q3) Q) : ∀ sz : Nat, Met l yX11_old (Cond.code yX11_old cX11_old 5 (some .int) :: zT) rm_X11_old (zPm dC dI cI cJ cS (cl_X11 cI cJ a u) [.ref (a 0), .int x1] sz) (va_Qi Q (zB dC dI cI cJ cS (va_A (cl_X11 cI cJ a u) sz) (fun z => cl_X11 cI cJ a z)) (va_A (cl_X11 cI cJ a u) sz)) 0 0 (va_A (cl_X11 cI cJ a u) sz) := by
  intro sz
  refine z_enterM (Qc := fun A => va_Qi Q (zB dC dI cI cJ cS A (fun z => cl_X11 cI cJ a z)) A) (cc := cX11_old) (maxL := 5) (ret := (some .int)) (by decide) (Nat.le_of_ble_eq_true rfl) ?_
  intro p e s m below meth c ls A X hP hD hS hA hl
  obtain ⟨⟨hx, hb, hml, hown, hts⟩, hr, hlk, hK⟩ := id X
  have hl : lv_has ls 5 [(0, .ref (a 0)), (1, .int x1)] := hl
  have LP : ∀ n : Nat, (∀ (y2 : Int32) (z : zModel) (H : Heap) (locs : List Loc) (ls : Array Slot), I7 n y2 z → va_P (dC, dI) vwCl (cl_X11 cI cJ a z) H → va_D A (cl_X11 cI cJ a z) → va_S A s.heap H locs → lv_has ls 5 [(0, .ref (a 0)), (1, .int x1), (2, .int y2)] → W p l e rm_X11_old s m [.ref (a 0), .int x1].toArray below meth c H locs 0 0 (MQ below (va_Qi Q (zB dC dI cI cJ cS A (fun z => cl_X11 cI cJ a z)) A) [.ref (a 0), .int x1].toArray s 0 0 A) (F0 m 7 ls [])) ∧ (∀ (y2 : Int32) (y3 : Int32) (y4 : Int32) (z : zModel) (H : Heap) (locs : List Loc) (ls : Array Slot), I29 n y2 y3 y4 z → va_P (dC, dI) vwCl (cl_X11 cI cJ a z) H → va_D A (cl_X11 cI cJ a z) → va_S A s.heap H locs → lv_has ls 5 [(0, .ref (a 0)), (1, .int x1), (2, .int y2), (3, .int y3), (4, .int y4)] → W p l e rm_X11_old s m [.ref (a 0), .int x1].toArray below meth c H locs 0 0 (MQ below (va_Qi Q (zB dC dI cI cJ cS A (fun z => cl_X11 cI cJ a z)) A) [.ref (a 0), .int x1].toArray s 0 0 A) (F0 m 29 ls [])) := by
    intro n
    induction n using Nat.strongRecOn with
    | _ n ih =>
      refine ⟨?_, ?_⟩
      · intro y2 z H locs ls hI hP hD hS hl
        have hf := h7 n y2 z hI
        unfold t_X11_old_7 at hf
        refine lv_iload_n hx hb dX11_old_7 rfl (lv_at hl 2 rfl) ?_
        refine lv_bipush (v := 64) hx hb dX11_old_8 (by decide) ?_
        refine lv_icmp_ge (tgt := 88) hx hb dX11_old_10 (by decide) (fun c_2 => ?_) (fun c_2 => ?_)
        · have hf := hf.1 c_2
          refine lv_iconst (v := (-1)) hx hb dX11_old_88 (by decide) ?_
          exact z_retMi (Wf := (fun z => cl_X11 cI cJ a z)) (u := z) X hf hP hD hS dX11_old_89
        · have hf := hf.2 c_2
          refine lv_aload_n hx hb dX11_old_13 rfl (lv_at hl 0 rfl) ?_
          refine lv_iload_n hx hb dX11_old_14 rfl (lv_at hl 2 rfl) ?_
          refine z_cVi (As := [.int y2]) (rest := []) X (c_X11_hasValue l dC dI cI cJ cS a z y2 _ hf) zc_X11_hasValue q_ml_X11_81 ⟨rfl, rfl⟩ ⟨Nat.le_of_ble_eq_true rfl, Nat.le_of_ble_eq_true rfl⟩ hP [0, 1, 2, 3, 4, 5, 6, 7, 8] rfl 10 rfl rfl hl.1 rfl rfl (Nat.le_of_ble_eq_true rfl) ⟨Nat.zero_le _, Nat.zero_le _⟩ dX11_old_15 (fun r_3 hf => ?_)
          obtain ⟨hbr_3, hf⟩ := hf
          refine lv_if_ne (tgt := 24) hx hb dX11_old_18 (by decide) (fun c_4 => ?_) (fun c_4 => ?_)
          · have hf := hf.1 c_4
            refine lv_iconst (v := 0) hx hb dX11_old_24 (by decide) ?_
            refine lv_istore_n (lv' := [(3, .int (0 : Int32)), (0, .ref (a 0)), (1, .int x1), (2, .int y2)]) hx hb dX11_old_25 rfl hl (by decide) rfl (fun ls hl => ?_)
            refine lv_iconst (v := 0) hx hb dX11_old_26 (by decide) ?_
            refine lv_istore (lv' := [(4, .int (0 : Int32)), (3, .int (0 : Int32)), (0, .ref (a 0)), (1, .int x1), (2, .int y2)]) hx hb dX11_old_27 hl (by decide) rfl (fun ls hl => ?_)
            obtain ⟨k_5, hk_5, hf⟩ := hf
            exact (ih k_5 hk_5).2 _ _ _ z _ _ ls hf hP hD hS (lv_sub hl [2, 3, 4, 1, 0] rfl)
          · have hf := hf.2 c_4
            refine lv_goto (tgt := 82) hx hb dX11_old_21 (by decide) ?_
            obtain ⟨x_6, ex_6⟩ : ∃ y : Int32, y = y2 + (1 : Int32) := ⟨_, rfl⟩
            have hf := hf x_6 ex_6
            refine lv_iinc (v := x_6) (lv' := [(2, .int x_6), (0, .ref (a 0)), (1, .int x1)]) hx hb dX11_old_82 hl (k := 2) rfl (by rw [ex_6]; rfl) (by decide) rfl (fun ls hl => ?_)
            refine lv_goto (tgt := 7) hx hb dX11_old_85 (by decide) ?_
            obtain ⟨k_7, hk_7, hf⟩ := hf
            exact (ih k_7 hk_7).1 _ z _ _ ls hf hP hD hS (lv_sub hl [1, 2, 0] rfl)
      · intro y2 y3 y4 z H locs ls hI hP hD hS hl
        have hf := h29 n y2 y3 y4 z hI
        unfold t_X11_old_29 at hf
        refine lv_iload hx hb dX11_old_29 (lv_at hl 4 rfl) ?_
        refine lv_bipush (v := 64) hx hb dX11_old_31 (by decide) ?_
        refine lv_icmp_ge (tgt := 75) hx hb dX11_old_33 (by decide) (fun c_8 => ?_) (fun c_8 => ?_)
        · have hf := hf.1 c_8
          refine lv_iload_n hx hb dX11_old_75 rfl (lv_at hl 3 rfl) ?_
          refine lv_iload_n hx hb dX11_old_76 rfl (lv_at hl 1 rfl) ?_
          refine lv_icmp_ne (tgt := 82) hx hb dX11_old_77 (by decide) (fun c_9 => ?_) (fun c_9 => ?_)
          · have hf := hf.1 c_9
            obtain ⟨x_10, ex_10⟩ : ∃ y : Int32, y = y2 + (1 : Int32) := ⟨_, rfl⟩
            have hf := hf x_10 ex_10
            refine lv_iinc (v := x_10) (lv' := [(2, .int x_10), (0, .ref (a 0)), (1, .int x1), (3, .int y3), (4, .int y4)]) hx hb dX11_old_82 hl (k := 2) rfl (by rw [ex_10]; rfl) (by decide) rfl (fun ls hl => ?_)
            refine lv_goto (tgt := 7) hx hb dX11_old_85 (by decide) ?_
            obtain ⟨k_11, hk_11, hf⟩ := hf
            exact (ih k_11 hk_11).1 _ z _ _ ls hf hP hD hS (lv_sub hl [1, 2, 0] rfl)
          · have hf := hf.2 c_9
            refine lv_iload_n hx hb dX11_old_80 rfl (lv_at hl 2 rfl) ?_
            exact z_retMi (Wf := (fun z => cl_X11 cI cJ a z)) (u := z) X hf hP hD hS dX11_old_81
        · have hf := hf.2 c_8
          refine lv_iload_n hx hb dX11_old_36 rfl (lv_at hl 3 rfl) ?_
          refine lv_aload_n hx hb dX11_old_37 rfl (lv_at hl 0 rfl) ?_
          refine lv_iload hx hb dX11_old_38 (lv_at hl 4 rfl) ?_
          refine z_cVi (As := [.int y4]) (rest := [.int y3]) X (c_X11_hasValue l dC dI cI cJ cS a z y4 _ hf) zc_X11_hasValue q_ml_X11_81 ⟨rfl, rfl⟩ ⟨Nat.le_of_ble_eq_true rfl, Nat.le_of_ble_eq_true rfl⟩ hP [0, 1, 2, 3, 4, 5, 6, 7, 8] rfl 10 rfl rfl hl.1 rfl rfl (Nat.le_of_ble_eq_true rfl) ⟨Nat.zero_le _, Nat.zero_le _⟩ dX11_old_40 (fun r_12 hf => ?_)
          obtain ⟨hbr_12, hf⟩ := hf
          refine lv_if_eq (tgt := 66) hx hb dX11_old_43 (by decide) (fun c_13 => ?_) (fun c_13 => ?_)
          · have hf := hf.1 c_13
            refine lv_iconst (v := 0) hx hb dX11_old_66 (by decide) ?_
            refine lv_iadd hx hb dX11_old_67 ?_
            refine lv_topi (fun x_14 ex_14 => ?_)
            have hf := hf x_14 ex_14
            refine lv_istore_n (lv' := [(3, .int x_14), (0, .ref (a 0)), (1, .int x1), (2, .int y2), (4, .int y4)]) hx hb dX11_old_68 rfl hl (by decide) rfl (fun ls hl => ?_)
            obtain ⟨x_15, ex_15⟩ : ∃ y : Int32, y = y4 + (1 : Int32) := ⟨_, rfl⟩
            have hf := hf x_15 ex_15
            refine lv_iinc (v := x_15) (lv' := [(4, .int x_15), (3, .int x_14), (0, .ref (a 0)), (1, .int x1), (2, .int y2)]) hx hb dX11_old_69 hl (k := 4) rfl (by rw [ex_15]; rfl) (by decide) rfl (fun ls hl => ?_)
            refine lv_goto (tgt := 29) hx hb dX11_old_72 (by decide) ?_
            obtain ⟨k_16, hk_16, hf⟩ := hf
            exact (ih k_16 hk_16).2 _ _ _ z _ _ ls hf hP hD hS (lv_sub hl [2, 3, 4, 1, 0] rfl)
          · have hf := hf.2 c_13
            refine lv_aload_n hx hb dX11_old_46 rfl (lv_at hl 0 rfl) ?_
            refine lv_iload hx hb dX11_old_47 (lv_at hl 4 rfl) ?_
            refine lv_iconst (v := 0) hx hb dX11_old_49 (by decide) ?_
            refine z_cVi (As := [.int y4, .int (0 : Int32)]) (rest := [.int y3]) X (c_X11_current l dC dI cI cJ cS a z y4 (0 : Int32) _ hf) zc_X11_current q_ml_X11_74 ⟨rfl, rfl⟩ ⟨Nat.le_of_ble_eq_true rfl, Nat.le_of_ble_eq_true rfl⟩ hP [0, 1, 2, 3, 4, 5, 6, 7, 8] rfl 10 rfl rfl hl.1 rfl rfl (Nat.le_of_ble_eq_true rfl) ⟨Nat.zero_le _, Nat.zero_le _⟩ dX11_old_50 (fun r_17 hf => ?_)
            refine lv_aload_n hx hb dX11_old_53 rfl (lv_at hl 0 rfl) ?_
            refine lv_iload_n hx hb dX11_old_54 rfl (lv_at hl 2 rfl) ?_
            refine lv_iconst (v := 0) hx hb dX11_old_55 (by decide) ?_
            refine z_cVi (As := [.int y2, .int (0 : Int32)]) (rest := [.int r_17, .int y3]) X (c_X11_current l dC dI cI cJ cS a z y2 (0 : Int32) _ hf) zc_X11_current q_ml_X11_74 ⟨rfl, rfl⟩ ⟨Nat.le_of_ble_eq_true rfl, Nat.le_of_ble_eq_true rfl⟩ hP [0, 1, 2, 3, 4, 5, 6, 7, 8] rfl 10 rfl rfl hl.1 rfl rfl (Nat.le_of_ble_eq_true rfl) ⟨Nat.zero_le _, Nat.zero_le _⟩ dX11_old_56 (fun r_18 hf => ?_)
            refine lv_icmp_ge (tgt := 66) hx hb dX11_old_59 (by decide) (fun c_19 => ?_) (fun c_19 => ?_)
            · have hf := hf.1 c_19
              refine lv_iconst (v := 0) hx hb dX11_old_66 (by decide) ?_
              refine lv_iadd hx hb dX11_old_67 ?_
              refine lv_topi (fun x_20 ex_20 => ?_)
              have hf := hf x_20 ex_20
              refine lv_istore_n (lv' := [(3, .int x_20), (0, .ref (a 0)), (1, .int x1), (2, .int y2), (4, .int y4)]) hx hb dX11_old_68 rfl hl (by decide) rfl (fun ls hl => ?_)
              obtain ⟨x_21, ex_21⟩ : ∃ y : Int32, y = y4 + (1 : Int32) := ⟨_, rfl⟩
              have hf := hf x_21 ex_21
              refine lv_iinc (v := x_21) (lv' := [(4, .int x_21), (3, .int x_20), (0, .ref (a 0)), (1, .int x1), (2, .int y2)]) hx hb dX11_old_69 hl (k := 4) rfl (by rw [ex_21]; rfl) (by decide) rfl (fun ls hl => ?_)
              refine lv_goto (tgt := 29) hx hb dX11_old_72 (by decide) ?_
              obtain ⟨k_22, hk_22, hf⟩ := hf
              exact (ih k_22 hk_22).2 _ _ _ z _ _ ls hf hP hD hS (lv_sub hl [2, 3, 4, 1, 0] rfl)
            · have hf := hf.2 c_19
              refine lv_iconst (v := 1) hx hb dX11_old_62 (by decide) ?_
              refine lv_goto (tgt := 67) hx hb dX11_old_63 (by decide) ?_
              refine lv_iadd hx hb dX11_old_67 ?_
              refine lv_topi (fun x_23 ex_23 => ?_)
              have hf := hf x_23 ex_23
              refine lv_istore_n (lv' := [(3, .int x_23), (0, .ref (a 0)), (1, .int x1), (2, .int y2), (4, .int y4)]) hx hb dX11_old_68 rfl hl (by decide) rfl (fun ls hl => ?_)
              obtain ⟨x_24, ex_24⟩ : ∃ y : Int32, y = y4 + (1 : Int32) := ⟨_, rfl⟩
              have hf := hf x_24 ex_24
              refine lv_iinc (v := x_24) (lv' := [(4, .int x_24), (3, .int x_23), (0, .ref (a 0)), (1, .int x1), (2, .int y2)]) hx hb dX11_old_69 hl (k := 4) rfl (by rw [ex_24]; rfl) (by decide) rfl (fun ls hl => ?_)
              refine lv_goto (tgt := 29) hx hb dX11_old_72 (by decide) ?_
              obtain ⟨k_25, hk_25, hf⟩ := hf
              exact (ih k_25 hk_25).2 _ _ _ z _ _ ls hf hP hD hS (lv_sub hl [2, 3, 4, 1, 0] rfl)
  unfold t_X11_old_e at hf
  refine lv_aload_n hx hb dX11_old_0 rfl (lv_at hl 0 rfl) ?_
  refine lv_iconst (v := 0) hx hb dX11_old_1 (by decide) ?_
  refine z_put (w' := cl_X11 cI cJ a ((0 : Int32), u.2)) (ci := 10) (v := .int (0 : Int32)) (ty := .int) (Cn := RX11) (T := TX11) (N := 17) X inX11 tyX11 tyX11_ok nmX11 hP hD hS 0 rfl rfl 0 (by decide) (hts _ q_fl_X11_43) (fun _ h9 => h9) rfl (tyX11_ok 0 (by decide)) rfl rfl (Nat.le_of_ble_eq_true rfl) rfl dX11_old_2 (fun H locs hP hD hS => ?_)
  refine lv_iconst (v := 0) hx hb dX11_old_5 (by decide) ?_
  refine lv_istore_n (lv' := [(2, .int (0 : Int32)), (0, .ref (a 0)), (1, .int x1)]) hx hb dX11_old_6 rfl hl (by decide) rfl (fun ls hl => ?_)
  obtain ⟨k_1, hf⟩ := hf
  exact (LP k_1).1 _ ((0 : Int32), u.2) _ _ ls hf hP hD hS (lv_sub hl [1, 2, 0] rfl)
def s_X11_old (u : zModel) (x1 : Int32) (Q : Int32 → zModel → Prop) : Prop := mAsk u (fun v => (0, fOld v x1)) Q
theorem st_X11_old {u : zModel} {x1 : Int32} {Q : Int32 → zModel → Prop} (h : s_X11_old u x1 Q) : v_X11_old u x1 Q := by
  obtain ⟨B, G, hG, hm, hQ⟩ := h
  have hmk : mOk (gNow G) u.2.1 := hG.1.mok hm.now
  have hQ := hQ _ (hm.th 0) rfl
  dsimp only at hQ
  unfold fOld at hQ
  generalize hp : (fun j => uVal (gNow G) j && decide (nI (uElder (gNow G) j 64) = x1)) = p at hQ
  have hpk : ∀ j, p j = (uVal (gNow G) j && decide (nI (uElder (gNow G) j 64) = x1)) := fun j => by rw [← hp]
  have hle := fa_first_le p 64
  have cur0 : ∀ j, uVal (gNow G) j = true → curF (gNow G) j 0 = cNum (uCur (gNow G) j) := fun j hj => by
    unfold curF
    rw [if_neg (val_ne hj).1]; rfl
  refine ⟨fun n y2 z => ∃ j : Nat, j ≤ 64 ∧ (∀ i, i < j → p i = false) ∧ n = 1000 * (64 - j) + 500 ∧ y2 = nI j ∧ z = ((0 : Int32), u.2),
    fun n y2 y3 y4 z => ∃ j o : Nat, j < 64 ∧ o ≤ 64 ∧ (∀ i, i < j → p i = false) ∧ uVal (gNow G) j = true ∧ n = 1000 * (64 - j) + (64 - o) ∧ y2 = nI j ∧ y3 = nI (uElder (gNow G) j o) ∧ y4 = nI o ∧ z = ((0 : Int32), u.2), ?_, ?_, ?_⟩
  · rintro n y2 z ⟨j, hj, hno, rfl, rfl, rfl⟩
    refine ⟨fun c => ?_, fun c => ?_⟩
    · have : j = 64 := by
        have := (nI_leI (a := 64) (b := j) (by decide) (by omega)).mp c
        omega
      subst this
      have hf : ¬ fa_first p 64 < 64 := fun q => by
        have h1 := fa_first_yes p 64 q
        rw [hno _ q] at h1
        exact absurd h1 (by decide)
      rw [zFst_no hf] at hQ; exact hQ
    · have hj : j < 64 := by
        have : ¬ 64 ≤ j := fun q => c (le64 q (by omega))
        omega
      refine ⟨gNow G, j, hmk, hj, rfl, fun d => ⟨fun _ => ⟨1000 * (64 - j) + (64 - 0), by omega, j, 0, hj, by omega, hno, d, rfl, rfl, rfl, rfl, rfl⟩, fun q => absurd q (by decide)⟩, fun d => ⟨fun q => absurd rfl q, fun _ x e => ⟨1000 * (64 - (j + 1)) + 500, by omega, j + 1, by omega, fun i hi => ?_, rfl, by rw [e, nI_1], rfl⟩⟩⟩
      by_cases q : i = j
      · subst q; rw [hpk, d]; rfl
      · exact hno i (by omega)
  · rintro n y2 y3 y4 z ⟨j, o, hj, ho, hno, hv, rfl, rfl, rfl, rfl, rfl⟩
    refine ⟨fun c => ?_, fun c => ?_⟩
    · have : o = 64 := by
        have := (nI_leI (a := 64) (b := o) (by decide) (by omega)).mp c
        omega
      subst this
      refine ⟨fun c2 x e => ⟨1000 * (64 - (j + 1)) + 500, by omega, j + 1, by omega, fun i hi => ?_, rfl, by rw [e, nI_1], rfl⟩, fun c2 => ?_⟩
      · by_cases q : i = j
        · subst q; rw [hpk, decide_eq_false c2, Bool.and_false]
        · exact hno i (by omega)
      · have hpj : p j = true := by rw [hpk, hv, decide_eq_true c2]; rfl
        have hfj : fa_first p 64 = j := by
          rcases Nat.lt_trichotomy (fa_first p 64) j with q | q | q
          · have h1 := fa_first_yes p 64 (by omega)
            rw [hno _ q] at h1
            exact absurd h1 (by decide)
          · exact q
          · have h1 := fa_first_no p 64 j q
            rw [hpj] at h1
            exact absurd h1 (by decide)
        rw [zFst_yes (by omega), hfj] at hQ; exact hQ
    · have ho : o < 64 := by
        have : ¬ 64 ≤ o := fun q => c (le64 q (by omega))
        omega
      have nx : ∀ b : Nat, uElder (gNow G) j (o + 1) = uElder (gNow G) j o + b → ∀ x : Int32, x = nI (uElder (gNow G) j o) + nI b → ∀ x' : Int32, x' = nI o + 1 → ∃ k, k < 1000 * (64 - j) + (64 - o) ∧ ∃ j' o' : Nat, j' < 64 ∧ o' ≤ 64 ∧ (∀ i, i < j' → p i = false) ∧ uVal (gNow G) j' = true ∧ k = 1000 * (64 - j') + (64 - o') ∧ nI j = nI j' ∧ x = nI (uElder (gNow G) j' o') ∧ x' = nI o' ∧ ((0 : Int32), u.2) = ((0 : Int32), u.2) := fun b eb x e x' e' => ⟨1000 * (64 - j) + (64 - (o + 1)), by omega, j, o + 1, hj, by omega, hno, hv, rfl, rfl, by rw [e, nI_add, eb], by rw [e', nI_1], rfl⟩
      refine ⟨gNow G, o, hmk, ho, rfl, fun d => ⟨fun q => absurd q (by decide), fun _ => ⟨gNow G, o, 0, hmk, ho, by decide, rfl, rfl, gNow G, j, 0, hmk, hj, by decide, rfl, rfl, ?_⟩⟩, fun d => ⟨fun _ => nx 0 (fa_cnt_no (p := fun o => uVal (gNow G) o && decide (cNum (uCur (gNow G) o) < cNum (uCur (gNow G) j))) (by show (uVal (gNow G) o && _) = false; rw [d]; rfl)), fun q => absurd rfl q⟩⟩
      rw [cur0 o d, cur0 j hv]
      refine ⟨fun c2 => nx 0 (fa_cnt_no (p := fun o => uVal (gNow G) o && decide (cNum (uCur (gNow G) o) < cNum (uCur (gNow G) j))) ?_), fun c2 => nx 1 (fa_cnt_yes (p := fun o => uVal (gNow G) o && decide (cNum (uCur (gNow G) o) < cNum (uCur (gNow G) j))) ?_)⟩
      · show (uVal (gNow G) o && decide _) = false
        rw [decide_eq_false (fun q => n_nlt q c2), Bool.and_false]
      · show (uVal (gNow G) o && decide _) = true
        rw [d, decide_eq_true (n_nle c2)]; rfl
  · exact ⟨1000 * (64 - 0) + 500, 0, by omega, fun i hi => absurd hi (Nat.not_lt_zero i), rfl, rfl, rfl⟩
theorem c_X11_old (l : Launch) (dC : Nat → ClassId) (dI : Nat → Nat → Nat) (cI cJ cS : ClassId) (a : Nat → Nat) (u : zModel) (x1 : Int32) (Q : Int32 → zModel → Prop) (hf : s_X11_old u x1 Q) : ∀ sz : Nat, Met l yX11_old (Cond.code yX11_old cX11_old 5 (some .int) :: zT) rm_X11_old (zPm dC dI cI cJ cS (cl_X11 cI cJ a u) [.ref (a 0), .int x1] sz) (va_Qi Q (zB dC dI cI cJ cS (va_A (cl_X11 cI cJ a u) sz) (fun z => cl_X11 cI cJ a z)) (va_A (cl_X11 cI cJ a u) sz)) 0 0 (va_A (cl_X11 cI cJ a u) sz) := by
  obtain ⟨I7, I29, h7, h29, hf⟩ := st_X11_old hf
  exact L_X11_old l dC dI cI cJ cS a u x1 Q I7 I29 h7 h29 hf

def t_X11_traces_e (u : zModel) (x1 : Int32) (x2 : Int32) (K49 : Int32 → Int32 → Int32 → Int32 → zModel → Prop) (K59 : Int32 → Int32 → Int32 → Int32 → Int32 → zModel → Prop) (Q : Int32 → zModel → Prop) : Prop := s_X11_isKey x1 (fun r_1 : Int32 => ((¬ r_1 = 0 → s_X11_isIn x2 (0 : Int32) (2 : Int32) (fun r_3 : Int32 => ((¬ r_3 = 0 → (((0 : Int32) ≤ 0 → K49 (0 : Int32) (0 : Int32) (0 : Int32) (0 : Int32) ((0 : Int32), u.2)) ∧ (¬ (0 : Int32) ≤ 0 → Q (0 : Int32) ((0 : Int32), u.2)))) ∧ (r_3 = 0 → (((2 : Int32) ≤ 0 → K49 (0 : Int32) (0 : Int32) (0 : Int32) (0 : Int32) ((2 : Int32), u.2)) ∧ (¬ (2 : Int32) ≤ 0 → Q (0 : Int32) ((2 : Int32), u.2))))))) ∧ (r_1 = 0 → (((1 : Int32) ≤ 0 → K49 (0 : Int32) (0 : Int32) (0 : Int32) (0 : Int32) ((1 : Int32), u.2)) ∧ (¬ (1 : Int32) ≤ 0 → Q (0 : Int32) ((1 : Int32), u.2))))))
def t_X11_traces_49 (x1 : Int32) (x2 : Int32) (y3 : Int32) (y4 : Int32) (y5 : Int32) (y6 : Int32) (z : zModel) (K49 : Int32 → Int32 → Int32 → Int32 → zModel → Prop) (K59 : Int32 → Int32 → Int32 → Int32 → Int32 → zModel → Prop) (Q : Int32 → zModel → Prop) : Prop := (((12 : Int32) ≤ y6 → ((¬ x2 = 0 → ((¬ x2 = (1 : Int32) → Q y5 z) ∧ (x2 = (1 : Int32) → Q y4 z))) ∧ (x2 = 0 → Q y3 z))) ∧ (¬ (12 : Int32) ≤ y6 → K59 y3 y4 y5 y6 (0 : Int32) z))
def t_X11_traces_59 (x1 : Int32) (x2 : Int32) (y3 : Int32) (y4 : Int32) (y5 : Int32) (y6 : Int32) (y7 : Int32) (z : zModel) (K49 : Int32 → Int32 → Int32 → Int32 → zModel → Prop) (K59 : Int32 → Int32 → Int32 → Int32 → Int32 → zModel → Prop) (Q : Int32 → zModel → Prop) : Prop := s_X11_segmentAt z y6 (1 : Int32) (fun r_15 : Int32 => ((r_15 ≤ y7 → ∀ x_17 : Int32, x_17 = y6 + (1 : Int32) → K49 y3 y4 y5 x_17 z) ∧ (¬ r_15 ≤ y7 → s_X11_noted z y6 y7 (0 : Int32) (fun r_19 : Int32 => ((r_19 = x1 → ∀ x_21 : Int32, x_21 = y3 + (1 : Int32) → s_X11_noted z y6 y7 (1 : Int32) (fun r_22 : Int32 => s_X11_sizeOf r_22 (fun r_23 : Int32 => ∀ x_24 : Int32, x_24 = (y4 + r_23) → ∀ x_25 : Int32, x_25 = (y5 ||| ((1 : Int32) <<< (y6 &&& 31))) → ∀ x_26 : Int32, x_26 = y7 + (1 : Int32) → K59 x_21 x_24 x_25 y6 x_26 z))) ∧ (¬ r_19 = x1 → ∀ x_28 : Int32, x_28 = y7 + (1 : Int32) → K59 y3 y4 y5 y6 x_28 z))))))
theorem zc_X11_traces : zCalV RX11 yX11_traces cX11_traces 8 (some .int) 2 := ⟨q_im_X11_traces, q_se_X11_traces, q_in_X11, q_cd_X11_traces, ⟨by decide, by decide, by decide +kernel⟩, rfl⟩
abbrev rm_X11_traces : Room := { frames := 2, cells := 0, slots := 0, locals := 44 }
def v_X11_traces (u : zModel) (x1 : Int32) (x2 : Int32) (Q : Int32 → zModel → Prop) : Prop := ∃ I49 : Nat → Int32 → Int32 → Int32 → Int32 → zModel → Prop, ∃ I59 : Nat → Int32 → Int32 → Int32 → Int32 → Int32 → zModel → Prop, (∀ (n : Nat) (y3 : Int32) (y4 : Int32) (y5 : Int32) (y6 : Int32) (z : zModel), I49 n y3 y4 y5 y6 z → t_X11_traces_49 x1 x2 y3 y4 y5 y6 z (fun q0 q1 q2 q3 q4 => ∃ k : Nat, k < n ∧ I49 k q0 q1 q2 q3 q4) (fun q0 q1 q2 q3 q4 q5 => ∃ k : Nat, k < n ∧ I59 k q0 q1 q2 q3 q4 q5) Q) ∧ (∀ (n : Nat) (y3 : Int32) (y4 : Int32) (y5 : Int32) (y6 : Int32) (y7 : Int32) (z : zModel), I59 n y3 y4 y5 y6 y7 z → t_X11_traces_59 x1 x2 y3 y4 y5 y6 y7 z (fun q0 q1 q2 q3 q4 => ∃ k : Nat, k < n ∧ I49 k q0 q1 q2 q3 q4) (fun q0 q1 q2 q3 q4 q5 => ∃ k : Nat, k < n ∧ I59 k q0 q1 q2 q3 q4 q5) Q) ∧ t_X11_traces_e u x1 x2 (fun q0 q1 q2 q3 q4 => ∃ k : Nat, I49 k q0 q1 q2 q3 q4) (fun q0 q1 q2 q3 q4 q5 => ∃ k : Nat, I59 k q0 q1 q2 q3 q4 q5) Q
set_option maxHeartbeats 4000000 in
set_option maxRecDepth 100000 in
theorem L_X11_traces (l : Launch) (dC : Nat → ClassId) (dI : Nat → Nat → Nat) (cI cJ cS : ClassId) (a : Nat → Nat) (u : zModel) (x1 : Int32) (x2 : Int32) (Q : Int32 → zModel → Prop) (I49 : Nat → Int32 → Int32 → Int32 → Int32 → zModel → Prop) (I59 : Nat → Int32 → Int32 → Int32 → Int32 → Int32 → zModel → Prop) (h49 : ∀ (n : Nat) (y3 : Int32) (y4 : Int32) (y5 : Int32) (y6 : Int32) (z : zModel), I49 n y3 y4 y5 y6 z → t_X11_traces_49 x1 x2 y3 y4 y5 y6 z (fun q0 q1 q2 q3 q4 => ∃ k : Nat, k < n ∧ I49 k q0 q1 q2 q3 q4) (fun q0 q1 q2 q3 q4 q5 => ∃ k : Nat, k < n ∧ I59 k q0 q1 q2 q3 q4 q5) Q) (h59 : ∀ (n : Nat) (y3 : Int32) (y4 : Int32) (y5 : Int32) (y6 : Int32) (y7 : Int32) (z : zModel), I59 n y3 y4 y5 y6 y7 z → t_X11_traces_59 x1 x2 y3 y4 y5 y6 y7 z (fun q0 q1 q2 q3 q4 => ∃ k : Nat, k < n ∧ I49 k q0 q1 q2 q3 q4) (fun q0 q1 q2 q3 q4 q5 => ∃ k : Nat, k < n ∧ I59 k q0 q1 q2 q3 q4 q5) Q) (hf : t_X11_traces_e u x1 x2 (fun q0 q1 q2 q3 q4 => ∃ k : Nat, I49 k q0 q1 q2 q3 q4) (fun q0 q1 q2 q3 q4 q5 => ∃ k : Nat, I59 k q0 q1 q2 q3 q4 q5) Q) : ∀ sz : Nat, Met l yX11_traces (Cond.code yX11_traces cX11_traces 8 (some .int) :: zT) rm_X11_traces (zPm dC dI cI cJ cS (cl_X11 cI cJ a u) [.ref (a 0), .int x1, .int x2] sz) (va_Qi Q (zB dC dI cI cJ cS (va_A (cl_X11 cI cJ a u) sz) (fun z => cl_X11 cI cJ a z)) (va_A (cl_X11 cI cJ a u) sz)) 0 0 (va_A (cl_X11 cI cJ a u) sz) := by
  intro sz
  refine z_enterM (Qc := fun A => va_Qi Q (zB dC dI cI cJ cS A (fun z => cl_X11 cI cJ a z)) A) (cc := cX11_traces) (maxL := 8) (ret := (some .int)) (by decide) (Nat.le_of_ble_eq_true rfl) ?_
  intro p e s m below meth c ls A X hP hD hS hA hl
  obtain ⟨⟨hx, hb, hml, hown, hts⟩, hr, hlk, hK⟩ := id X
  have hl : lv_has ls 8 [(0, .ref (a 0)), (1, .int x1), (2, .int x2)] := hl
  have LP : ∀ n : Nat, (∀ (y3 : Int32) (y4 : Int32) (y5 : Int32) (y6 : Int32) (z : zModel) (H : Heap) (locs : List Loc) (ls : Array Slot), I49 n y3 y4 y5 y6 z → va_P (dC, dI) vwCl (cl_X11 cI cJ a z) H → va_D A (cl_X11 cI cJ a z) → va_S A s.heap H locs → lv_has ls 8 [(0, .ref (a 0)), (1, .int x1), (2, .int x2), (3, .int y3), (4, .int y4), (5, .int y5), (6, .int y6)] → W p l e rm_X11_traces s m [.ref (a 0), .int x1, .int x2].toArray below meth c H locs 0 0 (MQ below (va_Qi Q (zB dC dI cI cJ cS A (fun z => cl_X11 cI cJ a z)) A) [.ref (a 0), .int x1, .int x2].toArray s 0 0 A) (F0 m 49 ls [])) ∧ (∀ (y3 : Int32) (y4 : Int32) (y5 : Int32) (y6 : Int32) (y7 : Int32) (z : zModel) (H : Heap) (locs : List Loc) (ls : Array Slot), I59 n y3 y4 y5 y6 y7 z → va_P (dC, dI) vwCl (cl_X11 cI cJ a z) H → va_D A (cl_X11 cI cJ a z) → va_S A s.heap H locs → lv_has ls 8 [(0, .ref (a 0)), (1, .int x1), (2, .int x2), (3, .int y3), (4, .int y4), (5, .int y5), (6, .int y6), (7, .int y7)] → W p l e rm_X11_traces s m [.ref (a 0), .int x1, .int x2].toArray below meth c H locs 0 0 (MQ below (va_Qi Q (zB dC dI cI cJ cS A (fun z => cl_X11 cI cJ a z)) A) [.ref (a 0), .int x1, .int x2].toArray s 0 0 A) (F0 m 59 ls [])) := by
    intro n
    induction n using Nat.strongRecOn with
    | _ n ih =>
      refine ⟨?_, ?_⟩
      · intro y3 y4 y5 y6 z H locs ls hI hP hD hS hl
        have hf := h49 n y3 y4 y5 y6 z hI
        unfold t_X11_traces_49 at hf
        refine lv_iload hx hb dX11_traces_49 (lv_at hl 6 rfl) ?_
        refine lv_bipush (v := 12) hx hb dX11_traces_51 (by decide) ?_
        refine lv_icmp_ge (tgt := 128) hx hb dX11_traces_53 (by decide) (fun c_11 => ?_) (fun c_11 => ?_)
        · have hf := hf.1 c_11
          refine lv_iload_n hx hb dX11_traces_128 rfl (lv_at hl 2 rfl) ?_
          refine lv_if_ne (tgt := 136) hx hb dX11_traces_129 (by decide) (fun c_12 => ?_) (fun c_12 => ?_)
          · have hf := hf.1 c_12
            refine lv_iload_n hx hb dX11_traces_136 rfl (lv_at hl 2 rfl) ?_
            refine lv_iconst (v := 1) hx hb dX11_traces_137 (by decide) ?_
            refine lv_icmp_ne (tgt := 146) hx hb dX11_traces_138 (by decide) (fun c_13 => ?_) (fun c_13 => ?_)
            · have hf := hf.1 c_13
              refine lv_iload hx hb dX11_traces_146 (lv_at hl 5 rfl) ?_
              exact z_retMi (Wf := (fun z => cl_X11 cI cJ a z)) (u := z) X hf hP hD hS dX11_traces_148
            · have hf := hf.2 c_13
              refine lv_iload hx hb dX11_traces_141 (lv_at hl 4 rfl) ?_
              refine lv_goto (tgt := 148) hx hb dX11_traces_143 (by decide) ?_
              exact z_retMi (Wf := (fun z => cl_X11 cI cJ a z)) (u := z) X hf hP hD hS dX11_traces_148
          · have hf := hf.2 c_12
            refine lv_iload_n hx hb dX11_traces_132 rfl (lv_at hl 3 rfl) ?_
            refine lv_goto (tgt := 148) hx hb dX11_traces_133 (by decide) ?_
            exact z_retMi (Wf := (fun z => cl_X11 cI cJ a z)) (u := z) X hf hP hD hS dX11_traces_148
        · have hf := hf.2 c_11
          refine lv_iconst (v := 0) hx hb dX11_traces_56 (by decide) ?_
          refine lv_istore (lv' := [(7, .int (0 : Int32)), (0, .ref (a 0)), (1, .int x1), (2, .int x2), (3, .int y3), (4, .int y4), (5, .int y5), (6, .int y6)]) hx hb dX11_traces_57 hl (by decide) rfl (fun ls hl => ?_)
          obtain ⟨k_14, hk_14, hf⟩ := hf
          exact (ih k_14 hk_14).2 _ _ _ _ _ z _ _ ls hf hP hD hS (lv_sub hl [1, 2, 3, 4, 5, 6, 7, 0] rfl)
      · intro y3 y4 y5 y6 y7 z H locs ls hI hP hD hS hl
        have hf := h59 n y3 y4 y5 y6 y7 z hI
        unfold t_X11_traces_59 at hf
        refine lv_iload hx hb dX11_traces_59 (lv_at hl 7 rfl) ?_
        refine lv_aload_n hx hb dX11_traces_61 rfl (lv_at hl 0 rfl) ?_
        refine lv_iload hx hb dX11_traces_62 (lv_at hl 6 rfl) ?_
        refine lv_iconst (v := 1) hx hb dX11_traces_64 (by decide) ?_
        refine z_cVi (As := [.int y6, .int (1 : Int32)]) (rest := [.int y7]) X (c_X11_segmentAt l dC dI cI cJ cS a z y6 (1 : Int32) _ hf) zc_X11_segmentAt q_ml_X11_53 ⟨rfl, rfl⟩ ⟨Nat.le_of_ble_eq_true rfl, Nat.le_of_ble_eq_true rfl⟩ hP [0, 1, 2, 3, 4, 5, 6, 7, 8] rfl 10 rfl rfl hl.1 rfl rfl (Nat.le_of_ble_eq_true rfl) ⟨Nat.zero_le _, Nat.zero_le _⟩ dX11_traces_65 (fun r_15 hf => ?_)
        refine lv_icmp_ge (tgt := 122) hx hb dX11_traces_68 (by decide) (fun c_16 => ?_) (fun c_16 => ?_)
        · have hf := hf.1 c_16
          obtain ⟨x_17, ex_17⟩ : ∃ y : Int32, y = y6 + (1 : Int32) := ⟨_, rfl⟩
          have hf := hf x_17 ex_17
          refine lv_iinc (v := x_17) (lv' := [(6, .int x_17), (0, .ref (a 0)), (1, .int x1), (2, .int x2), (3, .int y3), (4, .int y4), (5, .int y5), (7, .int y7)]) hx hb dX11_traces_122 hl (k := 6) rfl (by rw [ex_17]; rfl) (by decide) rfl (fun ls hl => ?_)
          refine lv_goto (tgt := 49) hx hb dX11_traces_125 (by decide) ?_
          obtain ⟨k_18, hk_18, hf⟩ := hf
          exact (ih k_18 hk_18).1 _ _ _ _ z _ _ ls hf hP hD hS (lv_sub hl [1, 2, 3, 4, 5, 6, 0] rfl)
        · have hf := hf.2 c_16
          refine lv_aload_n hx hb dX11_traces_71 rfl (lv_at hl 0 rfl) ?_
          refine lv_iload hx hb dX11_traces_72 (lv_at hl 6 rfl) ?_
          refine lv_iload hx hb dX11_traces_74 (lv_at hl 7 rfl) ?_
          refine lv_iconst (v := 0) hx hb dX11_traces_76 (by decide) ?_
          refine z_cVi (As := [.int y6, .int y7, .int (0 : Int32)]) (rest := []) X (c_X11_noted l dC dI cI cJ cS a z y6 y7 (0 : Int32) _ hf) zc_X11_noted q_ml_X11_77 ⟨rfl, rfl⟩ ⟨Nat.le_of_ble_eq_true rfl, Nat.le_of_ble_eq_true rfl⟩ hP [0, 1, 2, 3, 4, 5, 6, 7, 8] rfl 10 rfl rfl hl.1 rfl rfl (Nat.le_of_ble_eq_true rfl) ⟨Nat.zero_le _, Nat.zero_le _⟩ dX11_traces_77 (fun r_19 hf => ?_)
          refine lv_iload_n hx hb dX11_traces_80 rfl (lv_at hl 1 rfl) ?_
          refine lv_icmp_eq (tgt := 87) hx hb dX11_traces_81 (by decide) (fun c_20 => ?_) (fun c_20 => ?_)
          · have hf := hf.1 c_20
            obtain ⟨x_21, ex_21⟩ : ∃ y : Int32, y = y3 + (1 : Int32) := ⟨_, rfl⟩
            have hf := hf x_21 ex_21
            refine lv_iinc (v := x_21) (lv' := [(3, .int x_21), (0, .ref (a 0)), (1, .int x1), (2, .int x2), (4, .int y4), (5, .int y5), (6, .int y6), (7, .int y7)]) hx hb dX11_traces_87 hl (k := 3) rfl (by rw [ex_21]; rfl) (by decide) rfl (fun ls hl => ?_)
            refine lv_iload hx hb dX11_traces_90 (lv_at hl 4 rfl) ?_
            refine lv_aload_n hx hb dX11_traces_92 rfl (lv_at hl 1 rfl) ?_
            refine lv_iload hx hb dX11_traces_93 (lv_at hl 6 rfl) ?_
            refine lv_iload hx hb dX11_traces_95 (lv_at hl 7 rfl) ?_
            refine lv_iconst (v := 1) hx hb dX11_traces_97 (by decide) ?_
            refine z_cVi (As := [.int y6, .int y7, .int (1 : Int32)]) (rest := [.int y4]) X (c_X11_noted l dC dI cI cJ cS a z y6 y7 (1 : Int32) _ hf) zc_X11_noted q_ml_X11_77 ⟨rfl, rfl⟩ ⟨Nat.le_of_ble_eq_true rfl, Nat.le_of_ble_eq_true rfl⟩ hP [0, 1, 2, 3, 4, 5, 6, 7, 8] rfl 10 rfl rfl hl.1 rfl rfl (Nat.le_of_ble_eq_true rfl) ⟨Nat.zero_le _, Nat.zero_le _⟩ dX11_traces_98 (fun r_22 hf => ?_)
            refine z_cSi (As := [.int r_22]) (rest := [.int y4]) X (c_X11_sizeOf l dC dI cI cJ cS   r_22 _ hf) zc_X11_sizeOf q_ml_X11_91 ⟨rfl, rfl⟩ ⟨Nat.le_of_ble_eq_true rfl, Nat.le_of_ble_eq_true rfl⟩ hP [] rfl hl.1 rfl rfl (Nat.le_of_ble_eq_true rfl) ⟨Nat.zero_le _, Nat.zero_le _⟩ dX11_traces_101 (fun r_23 hf => ?_)
            refine lv_iadd hx hb dX11_traces_104 ?_
            refine lv_topi (fun x_24 ex_24 => ?_)
            have hf := hf x_24 ex_24
            refine lv_istore (lv' := [(4, .int x_24), (3, .int x_21), (0, .ref (a 0)), (1, .int x1), (2, .int x2), (5, .int y5), (6, .int y6), (7, .int y7)]) hx hb dX11_traces_105 hl (by decide) rfl (fun ls hl => ?_)
            refine lv_iload hx hb dX11_traces_107 (lv_at hl 5 rfl) ?_
            refine lv_iconst (v := 1) hx hb dX11_traces_109 (by decide) ?_
            refine lv_iload hx hb dX11_traces_110 (lv_at hl 6 rfl) ?_
            refine lv_ishl hx hb dX11_traces_112 ?_
            refine lv_ior hx hb dX11_traces_113 ?_
            refine lv_topi (fun x_25 ex_25 => ?_)
            have hf := hf x_25 ex_25
            refine lv_istore (lv' := [(5, .int x_25), (4, .int x_24), (3, .int x_21), (0, .ref (a 0)), (1, .int x1), (2, .int x2), (6, .int y6), (7, .int y7)]) hx hb dX11_traces_114 hl (by decide) rfl (fun ls hl => ?_)
            obtain ⟨x_26, ex_26⟩ : ∃ y : Int32, y = y7 + (1 : Int32) := ⟨_, rfl⟩
            have hf := hf x_26 ex_26
            refine lv_iinc (v := x_26) (lv' := [(7, .int x_26), (5, .int x_25), (4, .int x_24), (3, .int x_21), (0, .ref (a 0)), (1, .int x1), (2, .int x2), (6, .int y6)]) hx hb dX11_traces_116 hl (k := 7) rfl (by rw [ex_26]; rfl) (by decide) rfl (fun ls hl => ?_)
            refine lv_goto (tgt := 59) hx hb dX11_traces_119 (by decide) ?_
            obtain ⟨k_27, hk_27, hf⟩ := hf
            exact (ih k_27 hk_27).2 _ _ _ _ _ z _ _ ls hf hP hD hS (lv_sub hl [4, 5, 6, 3, 2, 1, 7, 0] rfl)
          · have hf := hf.2 c_20
            refine lv_goto (tgt := 116) hx hb dX11_traces_84 (by decide) ?_
            obtain ⟨x_28, ex_28⟩ : ∃ y : Int32, y = y7 + (1 : Int32) := ⟨_, rfl⟩
            have hf := hf x_28 ex_28
            refine lv_iinc (v := x_28) (lv' := [(7, .int x_28), (0, .ref (a 0)), (1, .int x1), (2, .int x2), (3, .int y3), (4, .int y4), (5, .int y5), (6, .int y6)]) hx hb dX11_traces_116 hl (k := 7) rfl (by rw [ex_28]; rfl) (by decide) rfl (fun ls hl => ?_)
            refine lv_goto (tgt := 59) hx hb dX11_traces_119 (by decide) ?_
            obtain ⟨k_29, hk_29, hf⟩ := hf
            exact (ih k_29 hk_29).2 _ _ _ _ _ z _ _ ls hf hP hD hS (lv_sub hl [1, 2, 3, 4, 5, 6, 7, 0] rfl)
  unfold t_X11_traces_e at hf
  refine lv_aload_n hx hb dX11_traces_0 rfl (lv_at hl 0 rfl) ?_
  refine lv_iload_n hx hb dX11_traces_1 rfl (lv_at hl 1 rfl) ?_
  refine z_cSi (As := [.int x1]) (rest := [.ref (a 0)]) X (c_X11_isKey l dC dI cI cJ cS   x1 _ hf) zc_X11_isKey q_ml_X11_254 ⟨rfl, rfl⟩ ⟨Nat.le_of_ble_eq_true rfl, Nat.le_of_ble_eq_true rfl⟩ hP [] rfl hl.1 rfl rfl (Nat.le_of_ble_eq_true rfl) ⟨Nat.zero_le _, Nat.zero_le _⟩ dX11_traces_2 (fun r_1 hf => ?_)
  obtain ⟨hbr_1, hf⟩ := hf
  refine lv_if_ne (tgt := 12) hx hb dX11_traces_5 (by decide) (fun c_2 => ?_) (fun c_2 => ?_)
  · have hf := hf.1 c_2
    refine lv_iload_n hx hb dX11_traces_12 rfl (lv_at hl 2 rfl) ?_
    refine lv_iconst (v := 0) hx hb dX11_traces_13 (by decide) ?_
    refine lv_iconst (v := 2) hx hb dX11_traces_14 (by decide) ?_
    refine z_cSi (As := [.int x2, .int (0 : Int32), .int (2 : Int32)]) (rest := [.ref (a 0)]) X (c_X11_isIn l dC dI cI cJ cS   x2 (0 : Int32) (2 : Int32) _ hf) zc_X11_isIn q_ml_X11_165 ⟨rfl, rfl⟩ ⟨Nat.le_of_ble_eq_true rfl, Nat.le_of_ble_eq_true rfl⟩ hP [] rfl hl.1 rfl rfl (Nat.le_of_ble_eq_true rfl) ⟨Nat.zero_le _, Nat.zero_le _⟩ dX11_traces_15 (fun r_3 hf => ?_)
    obtain ⟨hbr_3, hf⟩ := hf
    refine lv_if_ne (tgt := 25) hx hb dX11_traces_18 (by decide) (fun c_4 => ?_) (fun c_4 => ?_)
    · have hf := hf.1 c_4
      refine lv_iconst (v := 0) hx hb dX11_traces_25 (by decide) ?_
      refine z_put (w' := cl_X11 cI cJ a ((0 : Int32), u.2)) (ci := 10) (v := .int (0 : Int32)) (ty := .int) (Cn := RX11) (T := TX11) (N := 17) X inX11 tyX11 tyX11_ok nmX11 hP hD hS 0 rfl rfl 0 (by decide) (hts _ q_fl_X11_43) (fun _ h9 => h9) rfl (tyX11_ok 0 (by decide)) rfl rfl (Nat.le_of_ble_eq_true rfl) rfl dX11_traces_26 (fun H locs hP hD hS => ?_)
      refine lv_aload_n hx hb dX11_traces_29 rfl (lv_at hl 0 rfl) ?_
      refine va_get (D := (dC, dI)) (ci := 10) (v := .int (0 : Int32)) (C := RX11) (T := TX11) (N := 17) hx hb hts inX11 hown hK hP 0 rfl rfl 0 (by decide) (hts _ q_fl_X11_43) (fun _ h9 => h9) rfl dX11_traces_30 ?_
      refine lv_if_le (tgt := 38) hx hb dX11_traces_33 (by decide) (fun c_5 => ?_) (fun c_5 => ?_)
      · have hf := hf.1 c_5
        refine lv_iconst (v := 0) hx hb dX11_traces_38 (by decide) ?_
        refine lv_istore_n (lv' := [(3, .int (0 : Int32)), (0, .ref (a 0)), (1, .int x1), (2, .int x2)]) hx hb dX11_traces_39 rfl hl (by decide) rfl (fun ls hl => ?_)
        refine lv_iconst (v := 0) hx hb dX11_traces_40 (by decide) ?_
        refine lv_istore (lv' := [(4, .int (0 : Int32)), (3, .int (0 : Int32)), (0, .ref (a 0)), (1, .int x1), (2, .int x2)]) hx hb dX11_traces_41 hl (by decide) rfl (fun ls hl => ?_)
        refine lv_iconst (v := 0) hx hb dX11_traces_43 (by decide) ?_
        refine lv_istore (lv' := [(5, .int (0 : Int32)), (4, .int (0 : Int32)), (3, .int (0 : Int32)), (0, .ref (a 0)), (1, .int x1), (2, .int x2)]) hx hb dX11_traces_44 hl (by decide) rfl (fun ls hl => ?_)
        refine lv_iconst (v := 0) hx hb dX11_traces_46 (by decide) ?_
        refine lv_istore (lv' := [(6, .int (0 : Int32)), (5, .int (0 : Int32)), (4, .int (0 : Int32)), (3, .int (0 : Int32)), (0, .ref (a 0)), (1, .int x1), (2, .int x2)]) hx hb dX11_traces_47 hl (by decide) rfl (fun ls hl => ?_)
        obtain ⟨k_6, hf⟩ := hf
        exact (LP k_6).1 _ _ _ _ ((0 : Int32), u.2) _ _ ls hf hP hD hS (lv_sub hl [4, 5, 6, 3, 2, 1, 0] rfl)
      · have hf := hf.2 c_5
        refine lv_iconst (v := 0) hx hb dX11_traces_36 (by decide) ?_
        exact z_retMi (Wf := (fun z => cl_X11 cI cJ a z)) (u := ((0 : Int32), u.2)) X hf hP hD hS dX11_traces_37
    · have hf := hf.2 c_4
      refine lv_iconst (v := 2) hx hb dX11_traces_21 (by decide) ?_
      refine lv_goto (tgt := 26) hx hb dX11_traces_22 (by decide) ?_
      refine z_put (w' := cl_X11 cI cJ a ((2 : Int32), u.2)) (ci := 10) (v := .int (2 : Int32)) (ty := .int) (Cn := RX11) (T := TX11) (N := 17) X inX11 tyX11 tyX11_ok nmX11 hP hD hS 0 rfl rfl 0 (by decide) (hts _ q_fl_X11_43) (fun _ h9 => h9) rfl (tyX11_ok 0 (by decide)) rfl rfl (Nat.le_of_ble_eq_true rfl) rfl dX11_traces_26 (fun H locs hP hD hS => ?_)
      refine lv_aload_n hx hb dX11_traces_29 rfl (lv_at hl 0 rfl) ?_
      refine va_get (D := (dC, dI)) (ci := 10) (v := .int (2 : Int32)) (C := RX11) (T := TX11) (N := 17) hx hb hts inX11 hown hK hP 0 rfl rfl 0 (by decide) (hts _ q_fl_X11_43) (fun _ h9 => h9) rfl dX11_traces_30 ?_
      refine lv_if_le (tgt := 38) hx hb dX11_traces_33 (by decide) (fun c_7 => ?_) (fun c_7 => ?_)
      · have hf := hf.1 c_7
        refine lv_iconst (v := 0) hx hb dX11_traces_38 (by decide) ?_
        refine lv_istore_n (lv' := [(3, .int (0 : Int32)), (0, .ref (a 0)), (1, .int x1), (2, .int x2)]) hx hb dX11_traces_39 rfl hl (by decide) rfl (fun ls hl => ?_)
        refine lv_iconst (v := 0) hx hb dX11_traces_40 (by decide) ?_
        refine lv_istore (lv' := [(4, .int (0 : Int32)), (3, .int (0 : Int32)), (0, .ref (a 0)), (1, .int x1), (2, .int x2)]) hx hb dX11_traces_41 hl (by decide) rfl (fun ls hl => ?_)
        refine lv_iconst (v := 0) hx hb dX11_traces_43 (by decide) ?_
        refine lv_istore (lv' := [(5, .int (0 : Int32)), (4, .int (0 : Int32)), (3, .int (0 : Int32)), (0, .ref (a 0)), (1, .int x1), (2, .int x2)]) hx hb dX11_traces_44 hl (by decide) rfl (fun ls hl => ?_)
        refine lv_iconst (v := 0) hx hb dX11_traces_46 (by decide) ?_
        refine lv_istore (lv' := [(6, .int (0 : Int32)), (5, .int (0 : Int32)), (4, .int (0 : Int32)), (3, .int (0 : Int32)), (0, .ref (a 0)), (1, .int x1), (2, .int x2)]) hx hb dX11_traces_47 hl (by decide) rfl (fun ls hl => ?_)
        obtain ⟨k_8, hf⟩ := hf
        exact (LP k_8).1 _ _ _ _ ((2 : Int32), u.2) _ _ ls hf hP hD hS (lv_sub hl [4, 5, 6, 3, 2, 1, 0] rfl)
      · have hf := hf.2 c_7
        refine lv_iconst (v := 0) hx hb dX11_traces_36 (by decide) ?_
        exact z_retMi (Wf := (fun z => cl_X11 cI cJ a z)) (u := ((2 : Int32), u.2)) X hf hP hD hS dX11_traces_37
  · have hf := hf.2 c_2
    refine lv_iconst (v := 1) hx hb dX11_traces_8 (by decide) ?_
    refine lv_goto (tgt := 26) hx hb dX11_traces_9 (by decide) ?_
    refine z_put (w' := cl_X11 cI cJ a ((1 : Int32), u.2)) (ci := 10) (v := .int (1 : Int32)) (ty := .int) (Cn := RX11) (T := TX11) (N := 17) X inX11 tyX11 tyX11_ok nmX11 hP hD hS 0 rfl rfl 0 (by decide) (hts _ q_fl_X11_43) (fun _ h9 => h9) rfl (tyX11_ok 0 (by decide)) rfl rfl (Nat.le_of_ble_eq_true rfl) rfl dX11_traces_26 (fun H locs hP hD hS => ?_)
    refine lv_aload_n hx hb dX11_traces_29 rfl (lv_at hl 0 rfl) ?_
    refine va_get (D := (dC, dI)) (ci := 10) (v := .int (1 : Int32)) (C := RX11) (T := TX11) (N := 17) hx hb hts inX11 hown hK hP 0 rfl rfl 0 (by decide) (hts _ q_fl_X11_43) (fun _ h9 => h9) rfl dX11_traces_30 ?_
    refine lv_if_le (tgt := 38) hx hb dX11_traces_33 (by decide) (fun c_9 => ?_) (fun c_9 => ?_)
    · have hf := hf.1 c_9
      refine lv_iconst (v := 0) hx hb dX11_traces_38 (by decide) ?_
      refine lv_istore_n (lv' := [(3, .int (0 : Int32)), (0, .ref (a 0)), (1, .int x1), (2, .int x2)]) hx hb dX11_traces_39 rfl hl (by decide) rfl (fun ls hl => ?_)
      refine lv_iconst (v := 0) hx hb dX11_traces_40 (by decide) ?_
      refine lv_istore (lv' := [(4, .int (0 : Int32)), (3, .int (0 : Int32)), (0, .ref (a 0)), (1, .int x1), (2, .int x2)]) hx hb dX11_traces_41 hl (by decide) rfl (fun ls hl => ?_)
      refine lv_iconst (v := 0) hx hb dX11_traces_43 (by decide) ?_
      refine lv_istore (lv' := [(5, .int (0 : Int32)), (4, .int (0 : Int32)), (3, .int (0 : Int32)), (0, .ref (a 0)), (1, .int x1), (2, .int x2)]) hx hb dX11_traces_44 hl (by decide) rfl (fun ls hl => ?_)
      refine lv_iconst (v := 0) hx hb dX11_traces_46 (by decide) ?_
      refine lv_istore (lv' := [(6, .int (0 : Int32)), (5, .int (0 : Int32)), (4, .int (0 : Int32)), (3, .int (0 : Int32)), (0, .ref (a 0)), (1, .int x1), (2, .int x2)]) hx hb dX11_traces_47 hl (by decide) rfl (fun ls hl => ?_)
      obtain ⟨k_10, hf⟩ := hf
      exact (LP k_10).1 _ _ _ _ ((1 : Int32), u.2) _ _ ls hf hP hD hS (lv_sub hl [4, 5, 6, 3, 2, 1, 0] rfl)
    · have hf := hf.2 c_9
      refine lv_iconst (v := 0) hx hb dX11_traces_36 (by decide) ?_
      exact z_retMi (Wf := (fun z => cl_X11 cI cJ a z)) (u := ((1 : Int32), u.2)) X hf hP hD hS dX11_traces_37
def s_X11_traces (u : zModel) (x1 x2 : Int32) (Q : Int32 → zModel → Prop) : Prop := mAsk u (fun v => fTraces v x1 x2) Q
theorem st_X11_traces {u : zModel} {x1 x2 : Int32} {Q : Int32 → zModel → Prop} (h : s_X11_traces u x1 x2 Q) : v_X11_traces u x1 x2 Q := by
  obtain ⟨B, G, hG, hm, hQ⟩ := h
  dsimp only at hQ
  unfold fTraces at hQ
  have ho := hG.1.ok
  obtain ⟨ρ, β, mo, lm, L, S, M, hP⟩ := id hG.1
  have hg := hP.2.2.2.2.2.1
  by_cases c1 : inR x1 0 63
  · by_cases c2 : inR x2 0 2
    · rw [if_pos c1, if_pos c2] at hQ
      have hQ := hQ _ (hm.th 0) rfl
      dsimp only at hQ
      refine ⟨fun n y3 y4 y5 y6 z => ∃ s : Nat, s ≤ 12 ∧ n = 1000 * (12 - s) + 500 ∧ y3 = (trA (gNow G) x1 s).1 ∧ y4 = (trA (gNow G) x1 s).2.1 ∧ y5 = (trA (gNow G) x1 s).2.2 ∧ y6 = nI s ∧ z = ((0 : Int32), u.2),
        fun n y3 y4 y5 y6 y7 z => ∃ s j : Nat, s < 12 ∧ j ≤ gN (gNow G).2.2.1 s ∧ n = 1000 * (12 - s) + (60 - j) ∧ y3 = (trR (gNow G) x1 s j (trA (gNow G) x1 s)).1 ∧ y4 = (trR (gNow G) x1 s j (trA (gNow G) x1 s)).2.1 ∧ y5 = (trR (gNow G) x1 s j (trA (gNow G) x1 s)).2.2 ∧ y6 = nI s ∧ y7 = nI j ∧ z = ((0 : Int32), u.2), ?_, ?_, ?_⟩
      · rintro n y3 y4 y5 y6 z ⟨s, hs, rfl, rfl, rfl, rfl, rfl, rfl⟩
        refine ⟨fun c => ?_, fun c => ?_⟩
        · have : s = 12 := by
            have := (nI_leI (a := 12) (b := s) (by decide) (by omega)).mp c
            omega
          subst this
          refine ⟨fun d => ⟨fun d2 => ?_, fun d2 => ?_⟩, fun d => ?_⟩
          · rw [if_neg d, if_neg d2] at hQ; exact hQ
          · rw [if_neg d, if_pos d2] at hQ; exact hQ
          · rw [if_pos d] at hQ; exact hQ
        · have hs : s < 12 := by
            have : ¬ 12 ≤ s := fun q => c (le12 q (by omega))
            omega
          exact ⟨1000 * (12 - s) + (60 - 0), by omega, s, 0, hs, Nat.zero_le _, rfl, rfl, rfl, rfl, rfl, rfl, rfl⟩
      · rintro n y3 y4 y5 y6 y7 z ⟨s, j, hs, hj, rfl, rfl, rfl, rfl, rfl, rfl, rfl⟩
        have h50 := (hg.2.1 s hs).2
        have m1 : u.2.1 (66 + 3 * s + 1) = nI (gN (gNow G).2.2.1 s) := (hm.now.2.1 s 1 hs (by decide)).trans (hg.2.1 s hs).1
        refine ⟨s, 1, hs, by decide, rfl, rfl, ?_⟩
        dsimp only
        rw [m1]
        refine ⟨fun c x e => ?_, fun c => ?_⟩
        · have : j = gN (gNow G).2.2.1 s := by
            have := (nI_leI (by omega) (by omega)).mp c
            omega
          subst this
          exact ⟨1000 * (12 - (s + 1)) + 500, by omega, s + 1, by omega, rfl, rfl, rfl, rfl, by rw [e, nI_1], rfl⟩
        · have hj : j < gN (gNow G).2.2.1 s := by
            have : ¬ gN (gNow G).2.2.1 s ≤ j := fun q => c (nI_le q (by omega))
            omega
          have hu : trR (gNow G) x1 s (j + 1) (trA (gNow G) x1 s) = if cKey (uRec (gNow G) s j) = x1 then ((trR (gNow G) x1 s j (trA (gNow G) x1 s)).1 + 1, (trR (gNow G) x1 s j (trA (gNow G) x1 s)).2.1 + (4 + cLen (uRec (gNow G) s j)), (trR (gNow G) x1 s j (trA (gNow G) x1 s)).2.2 ||| ((1 : Int32) <<< (nI s &&& 31))) else trR (gNow G) x1 s j (trA (gNow G) x1 s) := rfl
          have hro := hg.2.2.2.2.1 s hs j hj
          refine ⟨s, j, 0, hs, by omega, by decide, rfl, rfl, rfl, ?_⟩
          dsimp only
          rw [hm.now.2.2.1 s j 0 hs hj (by decide)]
          refine ⟨fun d x e => ⟨s, j, 1, hs, by omega, by decide, rfl, rfl, rfl, ?_⟩, fun d x e => ?_⟩
          · have d : cKey (uRec (gNow G) s j) = x1 := d
            rw [if_pos d] at hu
            dsimp only
            rw [hm.now.2.2.1 s j 1 hs hj (by decide), show recF (uRec (gNow G) s j) 1 = lnI (lnN (uRec (gNow G) s j)) from lnI_c (lnN_eq _).1 hro.2.2.2.2.2]
            refine lnI_size hro.2.2.2.2.2 (fun x2 e2 x3 e3 x4 e4 => ⟨1000 * (12 - s) + (60 - (j + 1)), by omega, s, j + 1, hs, hj, rfl, ?_, ?_, ?_, rfl, by rw [e4, nI_1], rfl⟩)
            · rw [hu, e]
            · rw [hu, e2, ← (lnN_eq _).1]
            · rw [hu, e3]
          · have d : ¬ cKey (uRec (gNow G) s j) = x1 := d
            rw [if_neg d] at hu
            exact ⟨1000 * (12 - s) + (60 - (j + 1)), by omega, s, j + 1, hs, hj, rfl, by rw [hu], by rw [hu], by rw [hu], rfl, by rw [e, nI_1], rfl⟩
      · exact isIn_of (fun _ => ⟨fun _ => isIn_of (fun _ => ⟨fun _ => ⟨fun _ => ⟨1000 * (12 - 0) + 500, 0, by omega, rfl, rfl, rfl, rfl, rfl, rfl⟩, fun q => absurd (by decide) q⟩, fun q => absurd q (by decide)⟩) (fun q => absurd c2 q), fun q => absurd q (by decide)⟩) (fun q => absurd c1 q)
    · rw [if_pos c1, if_neg c2] at hQ
      exact ⟨fun _ _ _ _ _ _ => False, fun _ _ _ _ _ _ _ => False, fun _ _ _ _ _ _ q => q.elim, fun _ _ _ _ _ _ _ q => q.elim, isIn_of (fun _ => ⟨fun _ => isIn_of (fun q => absurd q c2) (fun _ => ⟨fun q => absurd rfl q, fun _ => ⟨fun q => absurd q (by decide), fun _ => hQ _ (hm.th 2) rfl⟩⟩), fun q => absurd q (by decide)⟩) (fun q => absurd c1 q)⟩
  · rw [if_neg c1] at hQ
    exact ⟨fun _ _ _ _ _ _ => False, fun _ _ _ _ _ _ _ => False, fun _ _ _ _ _ _ q => q.elim, fun _ _ _ _ _ _ _ q => q.elim, isIn_of (fun q => absurd q c1) (fun _ => ⟨fun q => absurd rfl q, fun _ => ⟨fun q => absurd q (by decide), fun _ => hQ _ (hm.th 1) rfl⟩⟩)⟩
theorem c_X11_traces (l : Launch) (dC : Nat → ClassId) (dI : Nat → Nat → Nat) (cI cJ cS : ClassId) (a : Nat → Nat) (u : zModel) (x1 : Int32) (x2 : Int32) (Q : Int32 → zModel → Prop) (hf : s_X11_traces u x1 x2 Q) : ∀ sz : Nat, Met l yX11_traces (Cond.code yX11_traces cX11_traces 8 (some .int) :: zT) rm_X11_traces (zPm dC dI cI cJ cS (cl_X11 cI cJ a u) [.ref (a 0), .int x1, .int x2] sz) (va_Qi Q (zB dC dI cI cJ cS (va_A (cl_X11 cI cJ a u) sz) (fun z => cl_X11 cI cJ a z)) (va_A (cl_X11 cI cJ a u) sz)) 0 0 (va_A (cl_X11 cI cJ a u) sz) := by
  obtain ⟨I49, I59, h49, h59, hf⟩ := st_X11_traces hf
  exact L_X11_traces l dC dI cI cJ cS a u x1 x2 Q I49 I59 h49 h59 hf

def t_X11_log (u : zModel) (x1 : Int32) (x2 : Int32) (Q : Int32 → zModel → Prop) : Prop := s_X11_isIn x2 (0 : Int32) (2 : Int32) (fun r_1 : Int32 => ((r_1 = 0 → (((1 : Int32) ≤ 0 → vp_in (5406 : Int32) 5497 ∧ s_X11_isIn x1 (0 : Int32) ((u.2.1 (5406 : Int32).toNatClampNeg) - (1 : Int32)) (fun r_4 : Int32 => ((r_4 = 0 → Q (-1 : Int32) ((1 : Int32), u.2)) ∧ (¬ r_4 = 0 → vp_in (((5407 : Int32) + ((3 : Int32) * x1)) + x2) 5497 ∧ Q (u.2.1 (((5407 : Int32) + ((3 : Int32) * x1)) + x2).toNatClampNeg) ((1 : Int32), u.2))))) ∧ (¬ (1 : Int32) ≤ 0 → Q (0 : Int32) ((1 : Int32), u.2)))) ∧ (¬ r_1 = 0 → (((0 : Int32) ≤ 0 → vp_in (5406 : Int32) 5497 ∧ s_X11_isIn x1 (0 : Int32) ((u.2.1 (5406 : Int32).toNatClampNeg) - (1 : Int32)) (fun r_7 : Int32 => ((r_7 = 0 → Q (-1 : Int32) ((0 : Int32), u.2)) ∧ (¬ r_7 = 0 → vp_in (((5407 : Int32) + ((3 : Int32) * x1)) + x2) 5497 ∧ Q (u.2.1 (((5407 : Int32) + ((3 : Int32) * x1)) + x2).toNatClampNeg) ((0 : Int32), u.2))))) ∧ (¬ (0 : Int32) ≤ 0 → Q (0 : Int32) ((0 : Int32), u.2))))))
theorem zc_X11_log : zCalV RX11 yX11_log cX11_log 3 (some .int) 2 := ⟨q_im_X11_log, q_se_X11_log, q_in_X11, q_cd_X11_log, ⟨by decide, by decide, by decide +kernel⟩, rfl⟩
abbrev rm_X11_log : Room := { frames := 1, cells := 0, slots := 0, locals := 22 }
set_option maxHeartbeats 4000000 in
set_option maxRecDepth 100000 in
theorem L_X11_log (l : Launch) (dC : Nat → ClassId) (dI : Nat → Nat → Nat) (cI cJ cS : ClassId) (a : Nat → Nat) (u : zModel) (x1 : Int32) (x2 : Int32) (Q : Int32 → zModel → Prop) (hf : t_X11_log u x1 x2 Q) : ∀ sz : Nat, Met l yX11_log (Cond.code yX11_log cX11_log 3 (some .int) :: zT) rm_X11_log (zPm dC dI cI cJ cS (cl_X11 cI cJ a u) [.ref (a 0), .int x1, .int x2] sz) (va_Qi Q (zB dC dI cI cJ cS (va_A (cl_X11 cI cJ a u) sz) (fun z => cl_X11 cI cJ a z)) (va_A (cl_X11 cI cJ a u) sz)) 0 0 (va_A (cl_X11 cI cJ a u) sz) := by
  intro sz
  refine z_enterM (Qc := fun A => va_Qi Q (zB dC dI cI cJ cS A (fun z => cl_X11 cI cJ a z)) A) (cc := cX11_log) (maxL := 3) (ret := (some .int)) (by decide) (Nat.le_of_ble_eq_true rfl) ?_
  intro p e s m below meth c ls A X hP hD hS hA hl
  obtain ⟨⟨hx, hb, hml, hown, hts⟩, hr, hlk, hK⟩ := id X
  have hl : lv_has ls 3 [(0, .ref (a 0)), (1, .int x1), (2, .int x2)] := hl
  unfold t_X11_log at hf
  refine lv_aload_n hx hb dX11_log_0 rfl (lv_at hl 0 rfl) ?_
  refine lv_iload_n hx hb dX11_log_1 rfl (lv_at hl 2 rfl) ?_
  refine lv_iconst (v := 0) hx hb dX11_log_2 (by decide) ?_
  refine lv_iconst (v := 2) hx hb dX11_log_3 (by decide) ?_
  refine z_cSi (As := [.int x2, .int (0 : Int32), .int (2 : Int32)]) (rest := [.ref (a 0)]) X (c_X11_isIn l dC dI cI cJ cS   x2 (0 : Int32) (2 : Int32) _ hf) zc_X11_isIn q_ml_X11_165 ⟨rfl, rfl⟩ ⟨Nat.le_of_ble_eq_true rfl, Nat.le_of_ble_eq_true rfl⟩ hP [] rfl hl.1 rfl rfl (Nat.le_of_ble_eq_true rfl) ⟨Nat.zero_le _, Nat.zero_le _⟩ dX11_log_4 (fun r_1 hf => ?_)
  obtain ⟨hbr_1, hf⟩ := hf
  refine lv_if_eq (tgt := 14) hx hb dX11_log_7 (by decide) (fun c_2 => ?_) (fun c_2 => ?_)
  · have hf := hf.1 c_2
    refine lv_iconst (v := 1) hx hb dX11_log_14 (by decide) ?_
    refine z_put (w' := cl_X11 cI cJ a ((1 : Int32), u.2)) (ci := 10) (v := .int (1 : Int32)) (ty := .int) (Cn := RX11) (T := TX11) (N := 17) X inX11 tyX11 tyX11_ok nmX11 hP hD hS 0 rfl rfl 0 (by decide) (hts _ q_fl_X11_43) (fun _ h9 => h9) rfl (tyX11_ok 0 (by decide)) rfl rfl (Nat.le_of_ble_eq_true rfl) rfl dX11_log_15 (fun H locs hP hD hS => ?_)
    refine lv_aload_n hx hb dX11_log_18 rfl (lv_at hl 0 rfl) ?_
    refine va_get (D := (dC, dI)) (ci := 10) (v := .int (1 : Int32)) (C := RX11) (T := TX11) (N := 17) hx hb hts inX11 hown hK hP 0 rfl rfl 0 (by decide) (hts _ q_fl_X11_43) (fun _ h9 => h9) rfl dX11_log_19 ?_
    refine lv_if_le (tgt := 27) hx hb dX11_log_22 (by decide) (fun c_3 => ?_) (fun c_3 => ?_)
    · have hf := hf.1 c_3
      refine lv_iload_n hx hb dX11_log_27 rfl (lv_at hl 1 rfl) ?_
      refine lv_iconst (v := 0) hx hb dX11_log_28 (by decide) ?_
      refine lv_aload_n hx hb dX11_log_29 rfl (lv_at hl 0 rfl) ?_
      refine va_get (D := (dC, dI)) (ci := 10) (v := .ref (a 1)) (C := RX11) (T := TX11) (N := 17) hx hb hts inX11 hown hK hP 0 rfl rfl 1 (by decide) (hts _ q_fl_X11_7) (fun _ h9 => h9) rfl dX11_log_30 ?_
      refine lv_sipush (v := 5406) hx hb dX11_log_33 (by decide) ?_
      obtain ⟨hg, hf⟩ := hf
      refine va_iald hx hb hK hP 1 0 rfl rfl hg dX11_log_36 ?_
      refine lv_iconst (v := 1) hx hb dX11_log_37 (by decide) ?_
      refine lv_isub hx hb dX11_log_38 ?_
      refine z_cSi (As := [.int x1, .int (0 : Int32), .int ((u.2.1 (5406 : Int32).toNatClampNeg) - (1 : Int32))]) (rest := []) X (c_X11_isIn l dC dI cI cJ cS   x1 (0 : Int32) ((u.2.1 (5406 : Int32).toNatClampNeg) - (1 : Int32)) _ hf) zc_X11_isIn q_ml_X11_165 ⟨rfl, rfl⟩ ⟨Nat.le_of_ble_eq_true rfl, Nat.le_of_ble_eq_true rfl⟩ hP [] rfl hl.1 rfl rfl (Nat.le_of_ble_eq_true rfl) ⟨Nat.zero_le _, Nat.zero_le _⟩ dX11_log_39 (fun r_4 hf => ?_)
      obtain ⟨hbr_4, hf⟩ := hf
      refine lv_if_eq (tgt := 62) hx hb dX11_log_42 (by decide) (fun c_5 => ?_) (fun c_5 => ?_)
      · have hf := hf.1 c_5
        refine lv_iconst (v := (-1)) hx hb dX11_log_62 (by decide) ?_
        exact z_retMi (Wf := (fun z => cl_X11 cI cJ a z)) (u := ((1 : Int32), u.2)) X hf hP hD hS dX11_log_63
      · have hf := hf.2 c_5
        refine lv_aload_n hx hb dX11_log_45 rfl (lv_at hl 0 rfl) ?_
        refine va_get (D := (dC, dI)) (ci := 10) (v := .ref (a 1)) (C := RX11) (T := TX11) (N := 17) hx hb hts inX11 hown hK hP 0 rfl rfl 1 (by decide) (hts _ q_fl_X11_7) (fun _ h9 => h9) rfl dX11_log_46 ?_
        refine lv_sipush (v := 5407) hx hb dX11_log_49 (by decide) ?_
        refine lv_iconst (v := 3) hx hb dX11_log_52 (by decide) ?_
        refine lv_iload_n hx hb dX11_log_53 rfl (lv_at hl 1 rfl) ?_
        refine lv_imul hx hb dX11_log_54 ?_
        refine lv_iadd hx hb dX11_log_55 ?_
        refine lv_iload_n hx hb dX11_log_56 rfl (lv_at hl 2 rfl) ?_
        refine lv_iadd hx hb dX11_log_57 ?_
        obtain ⟨hg, hf⟩ := hf
        refine va_iald hx hb hK hP 1 0 rfl rfl hg dX11_log_58 ?_
        refine lv_goto (tgt := 63) hx hb dX11_log_59 (by decide) ?_
        exact z_retMi (Wf := (fun z => cl_X11 cI cJ a z)) (u := ((1 : Int32), u.2)) X hf hP hD hS dX11_log_63
    · have hf := hf.2 c_3
      refine lv_iconst (v := 0) hx hb dX11_log_25 (by decide) ?_
      exact z_retMi (Wf := (fun z => cl_X11 cI cJ a z)) (u := ((1 : Int32), u.2)) X hf hP hD hS dX11_log_26
  · have hf := hf.2 c_2
    refine lv_iconst (v := 0) hx hb dX11_log_10 (by decide) ?_
    refine lv_goto (tgt := 15) hx hb dX11_log_11 (by decide) ?_
    refine z_put (w' := cl_X11 cI cJ a ((0 : Int32), u.2)) (ci := 10) (v := .int (0 : Int32)) (ty := .int) (Cn := RX11) (T := TX11) (N := 17) X inX11 tyX11 tyX11_ok nmX11 hP hD hS 0 rfl rfl 0 (by decide) (hts _ q_fl_X11_43) (fun _ h9 => h9) rfl (tyX11_ok 0 (by decide)) rfl rfl (Nat.le_of_ble_eq_true rfl) rfl dX11_log_15 (fun H locs hP hD hS => ?_)
    refine lv_aload_n hx hb dX11_log_18 rfl (lv_at hl 0 rfl) ?_
    refine va_get (D := (dC, dI)) (ci := 10) (v := .int (0 : Int32)) (C := RX11) (T := TX11) (N := 17) hx hb hts inX11 hown hK hP 0 rfl rfl 0 (by decide) (hts _ q_fl_X11_43) (fun _ h9 => h9) rfl dX11_log_19 ?_
    refine lv_if_le (tgt := 27) hx hb dX11_log_22 (by decide) (fun c_6 => ?_) (fun c_6 => ?_)
    · have hf := hf.1 c_6
      refine lv_iload_n hx hb dX11_log_27 rfl (lv_at hl 1 rfl) ?_
      refine lv_iconst (v := 0) hx hb dX11_log_28 (by decide) ?_
      refine lv_aload_n hx hb dX11_log_29 rfl (lv_at hl 0 rfl) ?_
      refine va_get (D := (dC, dI)) (ci := 10) (v := .ref (a 1)) (C := RX11) (T := TX11) (N := 17) hx hb hts inX11 hown hK hP 0 rfl rfl 1 (by decide) (hts _ q_fl_X11_7) (fun _ h9 => h9) rfl dX11_log_30 ?_
      refine lv_sipush (v := 5406) hx hb dX11_log_33 (by decide) ?_
      obtain ⟨hg, hf⟩ := hf
      refine va_iald hx hb hK hP 1 0 rfl rfl hg dX11_log_36 ?_
      refine lv_iconst (v := 1) hx hb dX11_log_37 (by decide) ?_
      refine lv_isub hx hb dX11_log_38 ?_
      refine z_cSi (As := [.int x1, .int (0 : Int32), .int ((u.2.1 (5406 : Int32).toNatClampNeg) - (1 : Int32))]) (rest := []) X (c_X11_isIn l dC dI cI cJ cS   x1 (0 : Int32) ((u.2.1 (5406 : Int32).toNatClampNeg) - (1 : Int32)) _ hf) zc_X11_isIn q_ml_X11_165 ⟨rfl, rfl⟩ ⟨Nat.le_of_ble_eq_true rfl, Nat.le_of_ble_eq_true rfl⟩ hP [] rfl hl.1 rfl rfl (Nat.le_of_ble_eq_true rfl) ⟨Nat.zero_le _, Nat.zero_le _⟩ dX11_log_39 (fun r_7 hf => ?_)
      obtain ⟨hbr_7, hf⟩ := hf
      refine lv_if_eq (tgt := 62) hx hb dX11_log_42 (by decide) (fun c_8 => ?_) (fun c_8 => ?_)
      · have hf := hf.1 c_8
        refine lv_iconst (v := (-1)) hx hb dX11_log_62 (by decide) ?_
        exact z_retMi (Wf := (fun z => cl_X11 cI cJ a z)) (u := ((0 : Int32), u.2)) X hf hP hD hS dX11_log_63
      · have hf := hf.2 c_8
        refine lv_aload_n hx hb dX11_log_45 rfl (lv_at hl 0 rfl) ?_
        refine va_get (D := (dC, dI)) (ci := 10) (v := .ref (a 1)) (C := RX11) (T := TX11) (N := 17) hx hb hts inX11 hown hK hP 0 rfl rfl 1 (by decide) (hts _ q_fl_X11_7) (fun _ h9 => h9) rfl dX11_log_46 ?_
        refine lv_sipush (v := 5407) hx hb dX11_log_49 (by decide) ?_
        refine lv_iconst (v := 3) hx hb dX11_log_52 (by decide) ?_
        refine lv_iload_n hx hb dX11_log_53 rfl (lv_at hl 1 rfl) ?_
        refine lv_imul hx hb dX11_log_54 ?_
        refine lv_iadd hx hb dX11_log_55 ?_
        refine lv_iload_n hx hb dX11_log_56 rfl (lv_at hl 2 rfl) ?_
        refine lv_iadd hx hb dX11_log_57 ?_
        obtain ⟨hg, hf⟩ := hf
        refine va_iald hx hb hK hP 1 0 rfl rfl hg dX11_log_58 ?_
        refine lv_goto (tgt := 63) hx hb dX11_log_59 (by decide) ?_
        exact z_retMi (Wf := (fun z => cl_X11 cI cJ a z)) (u := ((0 : Int32), u.2)) X hf hP hD hS dX11_log_63
    · have hf := hf.2 c_6
      refine lv_iconst (v := 0) hx hb dX11_log_25 (by decide) ?_
      exact z_retMi (Wf := (fun z => cl_X11 cI cJ a z)) (u := ((0 : Int32), u.2)) X hf hP hD hS dX11_log_26
def s_X11_log (u : zModel) (x1 x2 : Int32) (Q : Int32 → zModel → Prop) : Prop := mAsk u (fun v => fLog v x1 x2) Q
theorem st_X11_log {u : zModel} {x1 x2 : Int32} {Q : Int32 → zModel → Prop} (h : s_X11_log u x1 x2 Q) : t_X11_log u x1 x2 Q := by
  obtain ⟨B, G, hG, hm, hQ⟩ := h
  dsimp only at hQ
  unfold fLog at hQ
  obtain ⟨ρ, β, mo, lm, L, S, M, hP⟩ := id hG.1
  have hD := hP.2.2.2.2.2.2.2.2.2.2.1
  have hl := (mRel_iff.mp hm.now).2.2.2.2.2
  refine isIn_of (fun c1 => ⟨fun q => absurd q (by decide), fun _ => ⟨fun _ => ?_, fun q => absurd (by decide) q⟩⟩) (fun c1 => ⟨fun _ => ⟨fun q => absurd q (by decide), fun _ => ?_⟩, fun q => absurd rfl q⟩)
  · rw [if_pos c1] at hQ
    obtain ⟨w, -, hw, rfl, ew⟩ := inR_n (a := 0) (b := 2) (by decide) (by decide) c1
    rw [ew] at hQ
    refine ⟨vp_in_nI (n := 5406) (by decide) (by decide), ?_⟩
    rw [n_c5406, hl.1]
    refine isIn_of (fun c2 => ⟨fun q => absurd q (by decide), fun _ => ?_⟩) (fun c2 => ⟨fun _ => ?_, fun q => absurd rfl q⟩)
    · rw [if_pos c2] at hQ
      rw [hD.1] at c2
      obtain ⟨k, hk, rfl⟩ := (n_range (by have := hD.2; omega)).mp c2
      have := hD.2
      rw [nI_clamp (by omega)] at hQ
      have hQ := hQ _ (hm.th 0) rfl
      rw [show (5407 : Int32) + ((3 : Int32) * nI k) + nI w = nI (5407 + (3 * k + w)) by rw [show (5407 : Int32) = nI 5407 from rfl, n_lit3, n_mul, nI_add, nI_add, Nat.add_assoc], nI_clamp (by omega), hl.2 _ (by omega)]
      exact ⟨vp_in_nI (by omega) (by decide), hQ⟩
    · rw [if_neg c2] at hQ
      exact hQ _ (hm.th 0) rfl
  · rw [if_neg c1] at hQ
    exact hQ _ (hm.th 1) rfl
theorem c_X11_log (l : Launch) (dC : Nat → ClassId) (dI : Nat → Nat → Nat) (cI cJ cS : ClassId) (a : Nat → Nat) (u : zModel) (x1 : Int32) (x2 : Int32) (Q : Int32 → zModel → Prop) (hf : s_X11_log u x1 x2 Q) : ∀ sz : Nat, Met l yX11_log (Cond.code yX11_log cX11_log 3 (some .int) :: zT) rm_X11_log (zPm dC dI cI cJ cS (cl_X11 cI cJ a u) [.ref (a 0), .int x1, .int x2] sz) (va_Qi Q (zB dC dI cI cJ cS (va_A (cl_X11 cI cJ a u) sz) (fun z => cl_X11 cI cJ a z)) (va_A (cl_X11 cI cJ a u) sz)) 0 0 (va_A (cl_X11 cI cJ a u) sz) := L_X11_log l dC dI cI cJ cS a u x1 x2 Q (st_X11_log hf)

def t_X11_doomed_e (u : zModel) (K8 : Int32 → Int32 → zModel → Prop) (Q : Int32 → zModel → Prop) : Prop := s_X11_crashes u (fun (u_2 : zModel) => K8 (0 : Int32) (0 : Int32) u_2)
def t_X11_doomed_8 (y1 : Int32) (y2 : Int32) (z : zModel) (K8 : Int32 → Int32 → zModel → Prop) (Q : Int32 → zModel → Prop) : Prop := (((64 : Int32) ≤ y2 → Q y1 z) ∧ (¬ (64 : Int32) ≤ y2 → vp_in y2 64 ∧ s_X11_lengthOf z y2 (fun r_5 : Int32 => ((¬ (z.2.2.2.2.2.2.2.2.2.2.2.2.2.2.1 y2.toNatClampNeg) = r_5 → ∀ x_7 : Int32, x_7 = (y1 + (1 : Int32)) → ∀ x_8 : Int32, x_8 = y2 + (1 : Int32) → K8 x_7 x_8 z) ∧ ((z.2.2.2.2.2.2.2.2.2.2.2.2.2.2.1 y2.toNatClampNeg) = r_5 → vp_in y2 64 ∧ s_X11_seedOf z y2 (fun r_10 : Int32 => (((z.2.2.2.2.2.2.2.2.2.2.2.2.2.2.2.1 y2.toNatClampNeg) = r_10 → ∀ x_12 : Int32, x_12 = (y1 + (0 : Int32)) → ∀ x_13 : Int32, x_13 = y2 + (1 : Int32) → K8 x_12 x_13 z) ∧ (¬ (z.2.2.2.2.2.2.2.2.2.2.2.2.2.2.2.1 y2.toNatClampNeg) = r_10 → ∀ x_15 : Int32, x_15 = (y1 + (1 : Int32)) → ∀ x_16 : Int32, x_16 = y2 + (1 : Int32) → K8 x_15 x_16 z))))))))
theorem zc_X11_doomed : zCalV RX11 yX11_doomed cX11_doomed 3 (some .int) 0 := ⟨q_im_X11_doomed, q_se_X11_doomed, q_in_X11, q_cd_X11_doomed, ⟨by decide, by decide, by decide +kernel⟩, rfl⟩
abbrev rm_X11_doomed : Room := { frames := 7, cells := 0, slots := 0, locals := 153 }
def v_X11_doomed (u : zModel) (Q : Int32 → zModel → Prop) : Prop := ∃ I8 : Nat → Int32 → Int32 → zModel → Prop, (∀ (n : Nat) (y1 : Int32) (y2 : Int32) (z : zModel), I8 n y1 y2 z → t_X11_doomed_8 y1 y2 z (fun q0 q1 q2 => ∃ k : Nat, k < n ∧ I8 k q0 q1 q2) Q) ∧ t_X11_doomed_e u (fun q0 q1 q2 => ∃ k : Nat, I8 k q0 q1 q2) Q
set_option maxHeartbeats 4000000 in
set_option maxRecDepth 100000 in
theorem L_X11_doomed (l : Launch) (dC : Nat → ClassId) (dI : Nat → Nat → Nat) (cI cJ cS : ClassId) (a : Nat → Nat) (u : zModel) (Q : Int32 → zModel → Prop) (I8 : Nat → Int32 → Int32 → zModel → Prop) (h8 : ∀ (n : Nat) (y1 : Int32) (y2 : Int32) (z : zModel), I8 n y1 y2 z → t_X11_doomed_8 y1 y2 z (fun q0 q1 q2 => ∃ k : Nat, k < n ∧ I8 k q0 q1 q2) Q) (hf : t_X11_doomed_e u (fun q0 q1 q2 => ∃ k : Nat, I8 k q0 q1 q2) Q) : ∀ sz : Nat, Met l yX11_doomed (Cond.code yX11_doomed cX11_doomed 3 (some .int) :: zT) rm_X11_doomed (zPm dC dI cI cJ cS (cl_X11 cI cJ a u) [.ref (a 0)] sz) (va_Qi Q (zB dC dI cI cJ cS (va_A (cl_X11 cI cJ a u) sz) (fun z => cl_X11 cI cJ a z)) (va_A (cl_X11 cI cJ a u) sz)) 0 0 (va_A (cl_X11 cI cJ a u) sz) := by
  intro sz
  refine z_enterM (Qc := fun A => va_Qi Q (zB dC dI cI cJ cS A (fun z => cl_X11 cI cJ a z)) A) (cc := cX11_doomed) (maxL := 3) (ret := (some .int)) (by decide) (Nat.le_of_ble_eq_true rfl) ?_
  intro p e s m below meth c ls A X hP hD hS hA hl
  obtain ⟨⟨hx, hb, hml, hown, hts⟩, hr, hlk, hK⟩ := id X
  have hl : lv_has ls 3 [(0, .ref (a 0))] := hl
  have LP : ∀ n : Nat, (∀ (y1 : Int32) (y2 : Int32) (z : zModel) (H : Heap) (locs : List Loc) (ls : Array Slot), I8 n y1 y2 z → va_P (dC, dI) vwCl (cl_X11 cI cJ a z) H → va_D A (cl_X11 cI cJ a z) → va_S A s.heap H locs → lv_has ls 3 [(0, .ref (a 0)), (1, .int y1), (2, .int y2)] → W p l e rm_X11_doomed s m [.ref (a 0)].toArray below meth c H locs 0 0 (MQ below (va_Qi Q (zB dC dI cI cJ cS A (fun z => cl_X11 cI cJ a z)) A) [.ref (a 0)].toArray s 0 0 A) (F0 m 8 ls [])) := by
    intro n
    induction n using Nat.strongRecOn with
    | _ n ih =>
      intro y1 y2 z H locs ls hI hP hD hS hl
      have hf := h8 n y1 y2 z hI
      unfold t_X11_doomed_8 at hf
      refine lv_iload_n hx hb dX11_doomed_8 rfl (lv_at hl 2 rfl) ?_
      refine lv_bipush (v := 64) hx hb dX11_doomed_9 (by decide) ?_
      refine lv_icmp_ge (tgt := 56) hx hb dX11_doomed_11 (by decide) (fun c_4 => ?_) (fun c_4 => ?_)
      · have hf := hf.1 c_4
        refine lv_iload_n hx hb dX11_doomed_56 rfl (lv_at hl 1 rfl) ?_
        exact z_retMi (Wf := (fun z => cl_X11 cI cJ a z)) (u := z) X hf hP hD hS dX11_doomed_57
      · have hf := hf.2 c_4
        refine lv_iload_n hx hb dX11_doomed_14 rfl (lv_at hl 1 rfl) ?_
        refine lv_aload_n hx hb dX11_doomed_15 rfl (lv_at hl 0 rfl) ?_
        refine va_get (D := (dC, dI)) (ci := 10) (v := .ref (a 7)) (C := RX11) (T := TX11) (N := 17) hx hb hts inX11 hown hK hP 0 rfl rfl 14 (by decide) (hts _ q_fl_X11_33) (fun _ h9 => h9) rfl dX11_doomed_16 ?_
        refine lv_iload_n hx hb dX11_doomed_19 rfl (lv_at hl 2 rfl) ?_
        obtain ⟨hg, hf⟩ := hf
        refine va_iald hx hb hK hP 7 0 rfl rfl hg dX11_doomed_20 ?_
        refine lv_aload_n hx hb dX11_doomed_21 rfl (lv_at hl 0 rfl) ?_
        refine lv_iload_n hx hb dX11_doomed_22 rfl (lv_at hl 2 rfl) ?_
        refine z_cVi (As := [.int y2]) (rest := [.int (z.2.2.2.2.2.2.2.2.2.2.2.2.2.2.1 y2.toNatClampNeg), .int y1]) X (c_X11_lengthOf l dC dI cI cJ cS a z y2 _ hf) zc_X11_lengthOf q_ml_X11_266 ⟨rfl, rfl⟩ ⟨Nat.le_of_ble_eq_true rfl, Nat.le_of_ble_eq_true rfl⟩ hP [0, 1, 2, 3, 4, 5, 6, 7, 8] rfl 10 rfl rfl hl.1 rfl rfl (Nat.le_of_ble_eq_true rfl) ⟨Nat.zero_le _, Nat.zero_le _⟩ dX11_doomed_23 (fun r_5 hf => ?_)
        refine lv_icmp_ne (tgt := 43) hx hb dX11_doomed_26 (by decide) (fun c_6 => ?_) (fun c_6 => ?_)
        · have hf := hf.1 c_6
          refine lv_iconst (v := 1) hx hb dX11_doomed_43 (by decide) ?_
          refine lv_goto (tgt := 48) hx hb dX11_doomed_44 (by decide) ?_
          refine lv_iadd hx hb dX11_doomed_48 ?_
          refine lv_topi (fun x_7 ex_7 => ?_)
          have hf := hf x_7 ex_7
          refine lv_istore_n (lv' := [(1, .int x_7), (0, .ref (a 0)), (2, .int y2)]) hx hb dX11_doomed_49 rfl hl (by decide) rfl (fun ls hl => ?_)
          obtain ⟨x_8, ex_8⟩ : ∃ y : Int32, y = y2 + (1 : Int32) := ⟨_, rfl⟩
          have hf := hf x_8 ex_8
          refine lv_iinc (v := x_8) (lv' := [(2, .int x_8), (1, .int x_7), (0, .ref (a 0))]) hx hb dX11_doomed_50 hl (k := 2) rfl (by rw [ex_8]; rfl) (by decide) rfl (fun ls hl => ?_)
          refine lv_goto (tgt := 8) hx hb dX11_doomed_53 (by decide) ?_
          obtain ⟨k_9, hk_9, hf⟩ := hf
          exact (ih k_9 hk_9) _ _ z _ _ ls hf hP hD hS (lv_sub hl [2, 1, 0] rfl)
        · have hf := hf.2 c_6
          refine lv_aload_n hx hb dX11_doomed_29 rfl (lv_at hl 0 rfl) ?_
          refine va_get (D := (dC, dI)) (ci := 10) (v := .ref (a 8)) (C := RX11) (T := TX11) (N := 17) hx hb hts inX11 hown hK hP 0 rfl rfl 15 (by decide) (hts _ q_fl_X11_36) (fun _ h9 => h9) rfl dX11_doomed_30 ?_
          refine lv_iload_n hx hb dX11_doomed_33 rfl (lv_at hl 2 rfl) ?_
          obtain ⟨hg, hf⟩ := hf
          refine va_iald hx hb hK hP 8 0 rfl rfl hg dX11_doomed_34 ?_
          refine lv_aload_n hx hb dX11_doomed_35 rfl (lv_at hl 0 rfl) ?_
          refine lv_iload_n hx hb dX11_doomed_36 rfl (lv_at hl 2 rfl) ?_
          refine z_cVi (As := [.int y2]) (rest := [.int (z.2.2.2.2.2.2.2.2.2.2.2.2.2.2.2.1 y2.toNatClampNeg), .int y1]) X (c_X11_seedOf l dC dI cI cJ cS a z y2 _ hf) zc_X11_seedOf q_ml_X11_269 ⟨rfl, rfl⟩ ⟨Nat.le_of_ble_eq_true rfl, Nat.le_of_ble_eq_true rfl⟩ hP [0, 1, 2, 3, 4, 5, 6, 7, 8] rfl 10 rfl rfl hl.1 rfl rfl (Nat.le_of_ble_eq_true rfl) ⟨Nat.zero_le _, Nat.zero_le _⟩ dX11_doomed_37 (fun r_10 hf => ?_)
          refine lv_icmp_eq (tgt := 47) hx hb dX11_doomed_40 (by decide) (fun c_11 => ?_) (fun c_11 => ?_)
          · have hf := hf.1 c_11
            refine lv_iconst (v := 0) hx hb dX11_doomed_47 (by decide) ?_
            refine lv_iadd hx hb dX11_doomed_48 ?_
            refine lv_topi (fun x_12 ex_12 => ?_)
            have hf := hf x_12 ex_12
            refine lv_istore_n (lv' := [(1, .int x_12), (0, .ref (a 0)), (2, .int y2)]) hx hb dX11_doomed_49 rfl hl (by decide) rfl (fun ls hl => ?_)
            obtain ⟨x_13, ex_13⟩ : ∃ y : Int32, y = y2 + (1 : Int32) := ⟨_, rfl⟩
            have hf := hf x_13 ex_13
            refine lv_iinc (v := x_13) (lv' := [(2, .int x_13), (1, .int x_12), (0, .ref (a 0))]) hx hb dX11_doomed_50 hl (k := 2) rfl (by rw [ex_13]; rfl) (by decide) rfl (fun ls hl => ?_)
            refine lv_goto (tgt := 8) hx hb dX11_doomed_53 (by decide) ?_
            obtain ⟨k_14, hk_14, hf⟩ := hf
            exact (ih k_14 hk_14) _ _ z _ _ ls hf hP hD hS (lv_sub hl [2, 1, 0] rfl)
          · have hf := hf.2 c_11
            refine lv_iconst (v := 1) hx hb dX11_doomed_43 (by decide) ?_
            refine lv_goto (tgt := 48) hx hb dX11_doomed_44 (by decide) ?_
            refine lv_iadd hx hb dX11_doomed_48 ?_
            refine lv_topi (fun x_15 ex_15 => ?_)
            have hf := hf x_15 ex_15
            refine lv_istore_n (lv' := [(1, .int x_15), (0, .ref (a 0)), (2, .int y2)]) hx hb dX11_doomed_49 rfl hl (by decide) rfl (fun ls hl => ?_)
            obtain ⟨x_16, ex_16⟩ : ∃ y : Int32, y = y2 + (1 : Int32) := ⟨_, rfl⟩
            have hf := hf x_16 ex_16
            refine lv_iinc (v := x_16) (lv' := [(2, .int x_16), (1, .int x_15), (0, .ref (a 0))]) hx hb dX11_doomed_50 hl (k := 2) rfl (by rw [ex_16]; rfl) (by decide) rfl (fun ls hl => ?_)
            refine lv_goto (tgt := 8) hx hb dX11_doomed_53 (by decide) ?_
            obtain ⟨k_17, hk_17, hf⟩ := hf
            exact (ih k_17 hk_17) _ _ z _ _ ls hf hP hD hS (lv_sub hl [2, 1, 0] rfl)
  unfold t_X11_doomed_e at hf
  refine lv_aload_n hx hb dX11_doomed_0 rfl (lv_at hl 0 rfl) ?_
  refine z_mVv (Wn := (fun u_2 => cl_X11 cI cJ a u_2)) (As := []) (rest := []) (wr := []) X (c_X11_crashes l dC dI cI cJ cS a u  _ hf _) zc_X11_crashes q_ml_X11_281 ⟨rfl, rfl⟩ ⟨Nat.le_of_ble_eq_true rfl, Nat.le_of_ble_eq_true rfl⟩ hP hD hS hA [0, 1, 2, 3, 4, 5, 6, 7, 8] [] rfl (by decide) rfl (by decide) (by decide) [0, 1, 2, 3, 4, 5, 6, 7, 8] (by decide) (fun _ => rfl) 10 rfl rfl hl.1 rfl rfl (Nat.le_of_ble_eq_true rfl) ⟨Nat.zero_le _, Nat.zero_le _⟩ dX11_doomed_1 (fun u_2 H locs hf hP hD hS => ?_)
  refine lv_iconst (v := 0) hx hb dX11_doomed_4 (by decide) ?_
  refine lv_istore_n (lv' := [(1, .int (0 : Int32)), (0, .ref (a 0))]) hx hb dX11_doomed_5 rfl hl (by decide) rfl (fun ls hl => ?_)
  refine lv_iconst (v := 0) hx hb dX11_doomed_6 (by decide) ?_
  refine lv_istore_n (lv' := [(2, .int (0 : Int32)), (1, .int (0 : Int32)), (0, .ref (a 0))]) hx hb dX11_doomed_7 rfl hl (by decide) rfl (fun ls hl => ?_)
  obtain ⟨k_3, hf⟩ := hf
  exact (LP k_3) _ _ u_2 _ _ ls hf hP hD hS (lv_sub hl [2, 1, 0] rfl)
def s_X11_doomed (u : zModel) (Q : Int32 → zModel → Prop) : Prop := ∃ (B : Nat) (G : zG), okG B G ∧ mG G u ∧ ∀ u' : zModel, mG G u' → Q (uDoom (gNow G)) u'
theorem st_X11_doomed {u : zModel} {Q : Int32 → zModel → Prop} (h : s_X11_doomed u Q) : v_X11_doomed u Q := by
  obtain ⟨B, G, hG, hm, hQ⟩ := h
  unfold uDoom at hQ
  generalize hp : (fun k => decide (¬ uVof (gNow G) k = uVof (uCrash (gNow G)) k)) = p at hQ
  have hpk : ∀ k, p k = decide (¬ uVof (gNow G) k = uVof (uCrash (gNow G)) k) := fun k => by rw [← hp]
  refine ⟨fun n y1 y2 z => ∃ (k : Nat) (m' tr lo se : Nat → Int32), k ≤ 64 ∧ n = 64 - k ∧ y1 = nI (fa_cnt p k) ∧ y2 = nI k ∧ (∀ j, j < 5497 → m' j = u.2.1 j) ∧ (∀ k, k < 64 → lo k = uLenF (uCrash (gNow G)) k ∧ se k = uSeedF (uCrash (gNow G)) k) ∧ z = (u.1, m', u.2.2.1, tr, u.2.2.2.2.1, u.2.2.2.2.2.1, u.2.2.2.2.2.2.1, u.2.2.2.2.2.2.2.1, u.2.2.2.2.2.2.2.2.1, u.2.2.2.2.2.2.2.2.2.1, u.2.2.2.2.2.2.2.2.2.2.1, u.2.2.2.2.2.2.2.2.2.2.2.1, u.2.2.2.2.2.2.2.2.2.2.2.2.1, u.2.2.2.2.2.2.2.2.2.2.2.2.2.1, lo, se, u.2.2.2.2.2.2.2.2.2.2.2.2.2.2.2.2), ?_, ?_⟩
  · rintro n y1 y2 z ⟨k, m', tr, lo, se, hk, rfl, rfl, rfl, hm', hls, rfl⟩
    have hr' : mRel (gNow G) m' := hG.1.same hm.now hm'
    have hmk : mOk (gNow G) m' := hG.1.mok hr'
    refine ⟨fun c => ?_, fun c => ?_⟩
    · have : k = 64 := by
        have := (nI_leI (a := 64) (b := k) (by decide) (by omega)).mp c
        omega
      subst this
      exact hQ _ (mG_of hr' hm.r hm.2.2.2.2.2.2)
    · have hk : k < 64 := by
        have : ¬ 64 ≤ k := fun q => c (le64 q (by omega))
        omega
      obtain ⟨el, es⟩ := hls k hk
      have nx : ∀ b : Nat, fa_cnt p (k + 1) = fa_cnt p k + b → ∀ x : Int32, x = nI (fa_cnt p k) + nI b → ∀ x' : Int32, x' = nI k + 1 → ∃ q, q < 64 - k ∧ ∃ (k' : Nat) (m2 tr2 lo2 se2 : Nat → Int32), k' ≤ 64 ∧ q = 64 - k' ∧ x = nI (fa_cnt p k') ∧ x' = nI k' ∧ (∀ j, j < 5497 → m2 j = u.2.1 j) ∧ (∀ k, k < 64 → lo2 k = uLenF (uCrash (gNow G)) k ∧ se2 k = uSeedF (uCrash (gNow G)) k) ∧ (u.1, m', u.2.2.1, tr, u.2.2.2.2.1, u.2.2.2.2.2.1, u.2.2.2.2.2.2.1, u.2.2.2.2.2.2.2.1, u.2.2.2.2.2.2.2.2.1, u.2.2.2.2.2.2.2.2.2.1, u.2.2.2.2.2.2.2.2.2.2.1, u.2.2.2.2.2.2.2.2.2.2.2.1, u.2.2.2.2.2.2.2.2.2.2.2.2.1, u.2.2.2.2.2.2.2.2.2.2.2.2.2.1, lo, se, u.2.2.2.2.2.2.2.2.2.2.2.2.2.2.2.2) = (u.1, m2, u.2.2.1, tr2, u.2.2.2.2.1, u.2.2.2.2.2.1, u.2.2.2.2.2.2.1, u.2.2.2.2.2.2.2.1, u.2.2.2.2.2.2.2.2.1, u.2.2.2.2.2.2.2.2.2.1, u.2.2.2.2.2.2.2.2.2.2.1, u.2.2.2.2.2.2.2.2.2.2.2.1, u.2.2.2.2.2.2.2.2.2.2.2.2.1, u.2.2.2.2.2.2.2.2.2.2.2.2.2.1, lo2, se2, u.2.2.2.2.2.2.2.2.2.2.2.2.2.2.2.2) := fun b eb x e x' e' => ⟨64 - (k + 1), by omega, k + 1, m', tr, lo, se, by omega, rfl, by rw [e, nI_add, eb], by rw [e', nI_1], hm', hls, rfl⟩
      dsimp only
      rw [nI_clamp (by omega), el, es]
      refine ⟨vp_in_nI hk (by decide), gNow G, k, hmk, hk, rfl, fun d => nx 1 (fa_cnt_yes ?_), fun d => ⟨vp_in_nI hk (by decide), gNow G, k, hmk, hk, rfl, fun d2 => nx 0 (fa_cnt_no ?_), fun d2 => nx 1 (fa_cnt_yes ?_)⟩⟩
      · rw [hpk]; exact decide_eq_true (fun q => d ((vof_iff _ _ _ _).mp q).1.symm)
      · rw [hpk]; exact decide_eq_false (fun q => q ((vof_iff _ _ _ _).mpr ⟨d.symm, d2.symm⟩))
      · rw [hpk]; exact decide_eq_true (fun q => d2 ((vof_iff _ _ _ _).mp q).2.symm)
  · exact ⟨B, gNow G, hG.1, hm.now, fun m' tr lo se hm' hls => ⟨64 - 0, 0, m', tr, lo, se, by omega, rfl, rfl, rfl, hm', hls, rfl⟩⟩
theorem c_X11_doomed (l : Launch) (dC : Nat → ClassId) (dI : Nat → Nat → Nat) (cI cJ cS : ClassId) (a : Nat → Nat) (u : zModel) (Q : Int32 → zModel → Prop) (hf : s_X11_doomed u Q) : ∀ sz : Nat, Met l yX11_doomed (Cond.code yX11_doomed cX11_doomed 3 (some .int) :: zT) rm_X11_doomed (zPm dC dI cI cJ cS (cl_X11 cI cJ a u) [.ref (a 0)] sz) (va_Qi Q (zB dC dI cI cJ cS (va_A (cl_X11 cI cJ a u) sz) (fun z => cl_X11 cI cJ a z)) (va_A (cl_X11 cI cJ a u) sz)) 0 0 (va_A (cl_X11 cI cJ a u) sz) := by
  obtain ⟨I8, h8, hf⟩ := st_X11_doomed hf
  exact L_X11_doomed l dC dI cI cJ cS a u Q I8 h8 hf

def t_X11_key (u : zModel) (x1 : Int32) (x2 : Int32) (Q : Int32 → zModel → Prop) : Prop := s_X11_isKey x1 (fun r_1 : Int32 => ((¬ r_1 = 0 → s_X11_isIn x2 (0 : Int32) (9 : Int32) (fun r_3 : Int32 => ((¬ r_3 = 0 → (((0 : Int32) ≤ 0 → ((x2 = (0 : Int32) → s_X11_lengthOf ((0 : Int32), u.2) x1 (fun r_7 : Int32 => Q r_7 ((0 : Int32), u.2))) ∧ (¬ x2 = (0 : Int32) → ((x2 = (1 : Int32) → s_X11_seedOf ((0 : Int32), u.2) x1 (fun r_9 : Int32 => Q r_9 ((0 : Int32), u.2))) ∧ (¬ x2 = (1 : Int32) → ((x2 = (2 : Int32) → s_X11_current ((0 : Int32), u.2) x1 (1 : Int32) (fun r_11 : Int32 => Q r_11 ((0 : Int32), u.2))) ∧ (¬ x2 = (2 : Int32) → ((x2 = (3 : Int32) → s_X11_tableOf ((0 : Int32), u.2) x1 (fun r_13 : Int32 => ((¬ r_13 = (-1 : Int32) → s_X11_current ((0 : Int32), u.2) x1 (0 : Int32) (fun r_15 : Int32 => Q r_15 ((0 : Int32), u.2))) ∧ (r_13 = (-1 : Int32) → Q (-1 : Int32) ((0 : Int32), u.2))))) ∧ (¬ x2 = (3 : Int32) → ((x2 = (4 : Int32) → s_X11_asideOnly ((0 : Int32), u.2) x1 (4 : Int32) (fun r_17 : Int32 => Q r_17 ((0 : Int32), u.2))) ∧ (¬ x2 = (4 : Int32) → ((x2 = (5 : Int32) → s_X11_asideOnly ((0 : Int32), u.2) x1 (5 : Int32) (fun r_19 : Int32 => Q r_19 ((0 : Int32), u.2))) ∧ (¬ x2 = (5 : Int32) → ((x2 = (6 : Int32) → s_X11_costOf ((0 : Int32), u.2) x1 (fun r_21 : Int32 => Q r_21 ((0 : Int32), u.2))) ∧ (¬ x2 = (6 : Int32) → ((x2 = (7 : Int32) → s_X11_tableOf ((0 : Int32), u.2) x1 (fun r_23 : Int32 => Q r_23 ((0 : Int32), u.2))) ∧ (¬ x2 = (7 : Int32) → ((x2 = (8 : Int32) → s_X11_entriesOf ((0 : Int32), u.2) x1 (fun r_25 : Int32 => Q r_25 ((0 : Int32), u.2))) ∧ (¬ x2 = (8 : Int32) → s_X11_crashes ((0 : Int32), u.2) (fun (u_27 : zModel) => vp_in x1 64 ∧ Q (u_27.2.2.2.2.2.2.2.2.2.2.2.2.2.2.1 x1.toNatClampNeg) u_27)))))))))))))))))))) ∧ (¬ (0 : Int32) ≤ 0 → Q (0 : Int32) ((0 : Int32), u.2)))) ∧ (r_3 = 0 → (((2 : Int32) ≤ 0 → ((x2 = (0 : Int32) → s_X11_lengthOf ((2 : Int32), u.2) x1 (fun r_30 : Int32 => Q r_30 ((2 : Int32), u.2))) ∧ (¬ x2 = (0 : Int32) → ((x2 = (1 : Int32) → s_X11_seedOf ((2 : Int32), u.2) x1 (fun r_32 : Int32 => Q r_32 ((2 : Int32), u.2))) ∧ (¬ x2 = (1 : Int32) → ((x2 = (2 : Int32) → s_X11_current ((2 : Int32), u.2) x1 (1 : Int32) (fun r_34 : Int32 => Q r_34 ((2 : Int32), u.2))) ∧ (¬ x2 = (2 : Int32) → ((x2 = (3 : Int32) → s_X11_tableOf ((2 : Int32), u.2) x1 (fun r_36 : Int32 => ((¬ r_36 = (-1 : Int32) → s_X11_current ((2 : Int32), u.2) x1 (0 : Int32) (fun r_38 : Int32 => Q r_38 ((2 : Int32), u.2))) ∧ (r_36 = (-1 : Int32) → Q (-1 : Int32) ((2 : Int32), u.2))))) ∧ (¬ x2 = (3 : Int32) → ((x2 = (4 : Int32) → s_X11_asideOnly ((2 : Int32), u.2) x1 (4 : Int32) (fun r_40 : Int32 => Q r_40 ((2 : Int32), u.2))) ∧ (¬ x2 = (4 : Int32) → ((x2 = (5 : Int32) → s_X11_asideOnly ((2 : Int32), u.2) x1 (5 : Int32) (fun r_42 : Int32 => Q r_42 ((2 : Int32), u.2))) ∧ (¬ x2 = (5 : Int32) → ((x2 = (6 : Int32) → s_X11_costOf ((2 : Int32), u.2) x1 (fun r_44 : Int32 => Q r_44 ((2 : Int32), u.2))) ∧ (¬ x2 = (6 : Int32) → ((x2 = (7 : Int32) → s_X11_tableOf ((2 : Int32), u.2) x1 (fun r_46 : Int32 => Q r_46 ((2 : Int32), u.2))) ∧ (¬ x2 = (7 : Int32) → ((x2 = (8 : Int32) → s_X11_entriesOf ((2 : Int32), u.2) x1 (fun r_48 : Int32 => Q r_48 ((2 : Int32), u.2))) ∧ (¬ x2 = (8 : Int32) → s_X11_crashes ((2 : Int32), u.2) (fun (u_50 : zModel) => vp_in x1 64 ∧ Q (u_50.2.2.2.2.2.2.2.2.2.2.2.2.2.2.1 x1.toNatClampNeg) u_50)))))))))))))))))))) ∧ (¬ (2 : Int32) ≤ 0 → Q (0 : Int32) ((2 : Int32), u.2))))))) ∧ (r_1 = 0 → (((1 : Int32) ≤ 0 → ((x2 = (0 : Int32) → s_X11_lengthOf ((1 : Int32), u.2) x1 (fun r_53 : Int32 => Q r_53 ((1 : Int32), u.2))) ∧ (¬ x2 = (0 : Int32) → ((x2 = (1 : Int32) → s_X11_seedOf ((1 : Int32), u.2) x1 (fun r_55 : Int32 => Q r_55 ((1 : Int32), u.2))) ∧ (¬ x2 = (1 : Int32) → ((x2 = (2 : Int32) → s_X11_current ((1 : Int32), u.2) x1 (1 : Int32) (fun r_57 : Int32 => Q r_57 ((1 : Int32), u.2))) ∧ (¬ x2 = (2 : Int32) → ((x2 = (3 : Int32) → s_X11_tableOf ((1 : Int32), u.2) x1 (fun r_59 : Int32 => ((¬ r_59 = (-1 : Int32) → s_X11_current ((1 : Int32), u.2) x1 (0 : Int32) (fun r_61 : Int32 => Q r_61 ((1 : Int32), u.2))) ∧ (r_59 = (-1 : Int32) → Q (-1 : Int32) ((1 : Int32), u.2))))) ∧ (¬ x2 = (3 : Int32) → ((x2 = (4 : Int32) → s_X11_asideOnly ((1 : Int32), u.2) x1 (4 : Int32) (fun r_63 : Int32 => Q r_63 ((1 : Int32), u.2))) ∧ (¬ x2 = (4 : Int32) → ((x2 = (5 : Int32) → s_X11_asideOnly ((1 : Int32), u.2) x1 (5 : Int32) (fun r_65 : Int32 => Q r_65 ((1 : Int32), u.2))) ∧ (¬ x2 = (5 : Int32) → ((x2 = (6 : Int32) → s_X11_costOf ((1 : Int32), u.2) x1 (fun r_67 : Int32 => Q r_67 ((1 : Int32), u.2))) ∧ (¬ x2 = (6 : Int32) → ((x2 = (7 : Int32) → s_X11_tableOf ((1 : Int32), u.2) x1 (fun r_69 : Int32 => Q r_69 ((1 : Int32), u.2))) ∧ (¬ x2 = (7 : Int32) → ((x2 = (8 : Int32) → s_X11_entriesOf ((1 : Int32), u.2) x1 (fun r_71 : Int32 => Q r_71 ((1 : Int32), u.2))) ∧ (¬ x2 = (8 : Int32) → s_X11_crashes ((1 : Int32), u.2) (fun (u_73 : zModel) => vp_in x1 64 ∧ Q (u_73.2.2.2.2.2.2.2.2.2.2.2.2.2.2.1 x1.toNatClampNeg) u_73)))))))))))))))))))) ∧ (¬ (1 : Int32) ≤ 0 → Q (0 : Int32) ((1 : Int32), u.2))))))
theorem zc_X11_key : zCalV RX11 yX11_key cX11_key 3 (some .int) 2 := ⟨q_im_X11_key, q_se_X11_key, q_in_X11, q_cd_X11_key, ⟨by decide, by decide, by decide +kernel⟩, rfl⟩
abbrev rm_X11_key : Room := { frames := 7, cells := 0, slots := 0, locals := 153 }
set_option maxHeartbeats 4000000 in
set_option maxRecDepth 100000 in
theorem L_X11_key (l : Launch) (dC : Nat → ClassId) (dI : Nat → Nat → Nat) (cI cJ cS : ClassId) (a : Nat → Nat) (u : zModel) (x1 : Int32) (x2 : Int32) (Q : Int32 → zModel → Prop) (hf : t_X11_key u x1 x2 Q) : ∀ sz : Nat, Met l yX11_key (Cond.code yX11_key cX11_key 3 (some .int) :: zT) rm_X11_key (zPm dC dI cI cJ cS (cl_X11 cI cJ a u) [.ref (a 0), .int x1, .int x2] sz) (va_Qi Q (zB dC dI cI cJ cS (va_A (cl_X11 cI cJ a u) sz) (fun z => cl_X11 cI cJ a z)) (va_A (cl_X11 cI cJ a u) sz)) 0 0 (va_A (cl_X11 cI cJ a u) sz) := by
  intro sz
  refine z_enterM (Qc := fun A => va_Qi Q (zB dC dI cI cJ cS A (fun z => cl_X11 cI cJ a z)) A) (cc := cX11_key) (maxL := 3) (ret := (some .int)) (by decide) (Nat.le_of_ble_eq_true rfl) ?_
  intro p e s m below meth c ls A X hP hD hS hA hl
  obtain ⟨⟨hx, hb, hml, hown, hts⟩, hr, hlk, hK⟩ := id X
  have hl : lv_has ls 3 [(0, .ref (a 0)), (1, .int x1), (2, .int x2)] := hl
  unfold t_X11_key at hf
  refine lv_aload_n hx hb dX11_key_0 rfl (lv_at hl 0 rfl) ?_
  refine lv_iload_n hx hb dX11_key_1 rfl (lv_at hl 1 rfl) ?_
  refine z_cSi (As := [.int x1]) (rest := [.ref (a 0)]) X (c_X11_isKey l dC dI cI cJ cS   x1 _ hf) zc_X11_isKey q_ml_X11_254 ⟨rfl, rfl⟩ ⟨Nat.le_of_ble_eq_true rfl, Nat.le_of_ble_eq_true rfl⟩ hP [] rfl hl.1 rfl rfl (Nat.le_of_ble_eq_true rfl) ⟨Nat.zero_le _, Nat.zero_le _⟩ dX11_key_2 (fun r_1 hf => ?_)
  obtain ⟨hbr_1, hf⟩ := hf
  refine lv_if_ne (tgt := 12) hx hb dX11_key_5 (by decide) (fun c_2 => ?_) (fun c_2 => ?_)
  · have hf := hf.1 c_2
    refine lv_iload_n hx hb dX11_key_12 rfl (lv_at hl 2 rfl) ?_
    refine lv_iconst (v := 0) hx hb dX11_key_13 (by decide) ?_
    refine lv_bipush (v := 9) hx hb dX11_key_14 (by decide) ?_
    refine z_cSi (As := [.int x2, .int (0 : Int32), .int (9 : Int32)]) (rest := [.ref (a 0)]) X (c_X11_isIn l dC dI cI cJ cS   x2 (0 : Int32) (9 : Int32) _ hf) zc_X11_isIn q_ml_X11_165 ⟨rfl, rfl⟩ ⟨Nat.le_of_ble_eq_true rfl, Nat.le_of_ble_eq_true rfl⟩ hP [] rfl hl.1 rfl rfl (Nat.le_of_ble_eq_true rfl) ⟨Nat.zero_le _, Nat.zero_le _⟩ dX11_key_16 (fun r_3 hf => ?_)
    obtain ⟨hbr_3, hf⟩ := hf
    refine lv_if_ne (tgt := 26) hx hb dX11_key_19 (by decide) (fun c_4 => ?_) (fun c_4 => ?_)
    · have hf := hf.1 c_4
      refine lv_iconst (v := 0) hx hb dX11_key_26 (by decide) ?_
      refine z_put (w' := cl_X11 cI cJ a ((0 : Int32), u.2)) (ci := 10) (v := .int (0 : Int32)) (ty := .int) (Cn := RX11) (T := TX11) (N := 17) X inX11 tyX11 tyX11_ok nmX11 hP hD hS 0 rfl rfl 0 (by decide) (hts _ q_fl_X11_43) (fun _ h9 => h9) rfl (tyX11_ok 0 (by decide)) rfl rfl (Nat.le_of_ble_eq_true rfl) rfl dX11_key_27 (fun H locs hP hD hS => ?_)
      refine lv_aload_n hx hb dX11_key_30 rfl (lv_at hl 0 rfl) ?_
      refine va_get (D := (dC, dI)) (ci := 10) (v := .int (0 : Int32)) (C := RX11) (T := TX11) (N := 17) hx hb hts inX11 hown hK hP 0 rfl rfl 0 (by decide) (hts _ q_fl_X11_43) (fun _ h9 => h9) rfl dX11_key_31 ?_
      refine lv_if_le (tgt := 39) hx hb dX11_key_34 (by decide) (fun c_5 => ?_) (fun c_5 => ?_)
      · have hf := hf.1 c_5
        refine lv_iload_n hx hb dX11_key_39 rfl (lv_at hl 2 rfl) ?_
        by_cases c_6 : x2 = (0 : Int32)
        · have hf := hf.1 c_6
          refine lv_tableIn (off := 52) (tgt := 92) hx hb dX11_key_40 (by rw [c_6]; decide) (by rw [c_6]; decide) (by rw [c_6]; decide) (by decide) ?_
          refine lv_aload_n hx hb dX11_key_92 rfl (lv_at hl 0 rfl) ?_
          refine lv_iload_n hx hb dX11_key_93 rfl (lv_at hl 1 rfl) ?_
          refine z_cVi (As := [.int x1]) (rest := []) X (c_X11_lengthOf l dC dI cI cJ cS a ((0 : Int32), u.2) x1 _ hf) zc_X11_lengthOf q_ml_X11_266 ⟨rfl, rfl⟩ ⟨Nat.le_of_ble_eq_true rfl, Nat.le_of_ble_eq_true rfl⟩ hP [0, 1, 2, 3, 4, 5, 6, 7, 8] rfl 10 rfl rfl hl.1 rfl rfl (Nat.le_of_ble_eq_true rfl) ⟨Nat.zero_le _, Nat.zero_le _⟩ dX11_key_94 (fun r_7 hf => ?_)
          exact z_retMi (Wf := (fun z => cl_X11 cI cJ a z)) (u := ((0 : Int32), u.2)) X hf hP hD hS dX11_key_97
        have hf := hf.2 c_6
        by_cases c_8 : x2 = (1 : Int32)
        · have hf := hf.1 c_8
          refine lv_tableIn (off := 58) (tgt := 98) hx hb dX11_key_40 (by rw [c_8]; decide) (by rw [c_8]; decide) (by rw [c_8]; decide) (by decide) ?_
          refine lv_aload_n hx hb dX11_key_98 rfl (lv_at hl 0 rfl) ?_
          refine lv_iload_n hx hb dX11_key_99 rfl (lv_at hl 1 rfl) ?_
          refine z_cVi (As := [.int x1]) (rest := []) X (c_X11_seedOf l dC dI cI cJ cS a ((0 : Int32), u.2) x1 _ hf) zc_X11_seedOf q_ml_X11_269 ⟨rfl, rfl⟩ ⟨Nat.le_of_ble_eq_true rfl, Nat.le_of_ble_eq_true rfl⟩ hP [0, 1, 2, 3, 4, 5, 6, 7, 8] rfl 10 rfl rfl hl.1 rfl rfl (Nat.le_of_ble_eq_true rfl) ⟨Nat.zero_le _, Nat.zero_le _⟩ dX11_key_100 (fun r_9 hf => ?_)
          exact z_retMi (Wf := (fun z => cl_X11 cI cJ a z)) (u := ((0 : Int32), u.2)) X hf hP hD hS dX11_key_103
        have hf := hf.2 c_8
        by_cases c_10 : x2 = (2 : Int32)
        · have hf := hf.1 c_10
          refine lv_tableIn (off := 64) (tgt := 104) hx hb dX11_key_40 (by rw [c_10]; decide) (by rw [c_10]; decide) (by rw [c_10]; decide) (by decide) ?_
          refine lv_aload_n hx hb dX11_key_104 rfl (lv_at hl 0 rfl) ?_
          refine lv_iload_n hx hb dX11_key_105 rfl (lv_at hl 1 rfl) ?_
          refine lv_iconst (v := 1) hx hb dX11_key_106 (by decide) ?_
          refine z_cVi (As := [.int x1, .int (1 : Int32)]) (rest := []) X (c_X11_current l dC dI cI cJ cS a ((0 : Int32), u.2) x1 (1 : Int32) _ hf) zc_X11_current q_ml_X11_74 ⟨rfl, rfl⟩ ⟨Nat.le_of_ble_eq_true rfl, Nat.le_of_ble_eq_true rfl⟩ hP [0, 1, 2, 3, 4, 5, 6, 7, 8] rfl 10 rfl rfl hl.1 rfl rfl (Nat.le_of_ble_eq_true rfl) ⟨Nat.zero_le _, Nat.zero_le _⟩ dX11_key_107 (fun r_11 hf => ?_)
          exact z_retMi (Wf := (fun z => cl_X11 cI cJ a z)) (u := ((0 : Int32), u.2)) X hf hP hD hS dX11_key_110
        have hf := hf.2 c_10
        by_cases c_12 : x2 = (3 : Int32)
        · have hf := hf.1 c_12
          refine lv_tableIn (off := 71) (tgt := 111) hx hb dX11_key_40 (by rw [c_12]; decide) (by rw [c_12]; decide) (by rw [c_12]; decide) (by decide) ?_
          refine lv_aload_n hx hb dX11_key_111 rfl (lv_at hl 0 rfl) ?_
          refine lv_iload_n hx hb dX11_key_112 rfl (lv_at hl 1 rfl) ?_
          refine z_cVi (As := [.int x1]) (rest := []) X (c_X11_tableOf l dC dI cI cJ cS a ((0 : Int32), u.2) x1 _ hf) zc_X11_tableOf q_ml_X11_70 ⟨rfl, rfl⟩ ⟨Nat.le_of_ble_eq_true rfl, Nat.le_of_ble_eq_true rfl⟩ hP [0, 1, 2, 3, 4, 5, 6, 7, 8] rfl 10 rfl rfl hl.1 rfl rfl (Nat.le_of_ble_eq_true rfl) ⟨Nat.zero_le _, Nat.zero_le _⟩ dX11_key_113 (fun r_13 hf => ?_)
          refine lv_iconst (v := (-1)) hx hb dX11_key_116 (by decide) ?_
          refine lv_icmp_ne (tgt := 124) hx hb dX11_key_117 (by decide) (fun c_14 => ?_) (fun c_14 => ?_)
          · have hf := hf.1 c_14
            refine lv_aload_n hx hb dX11_key_124 rfl (lv_at hl 0 rfl) ?_
            refine lv_iload_n hx hb dX11_key_125 rfl (lv_at hl 1 rfl) ?_
            refine lv_iconst (v := 0) hx hb dX11_key_126 (by decide) ?_
            refine z_cVi (As := [.int x1, .int (0 : Int32)]) (rest := []) X (c_X11_current l dC dI cI cJ cS a ((0 : Int32), u.2) x1 (0 : Int32) _ hf) zc_X11_current q_ml_X11_74 ⟨rfl, rfl⟩ ⟨Nat.le_of_ble_eq_true rfl, Nat.le_of_ble_eq_true rfl⟩ hP [0, 1, 2, 3, 4, 5, 6, 7, 8] rfl 10 rfl rfl hl.1 rfl rfl (Nat.le_of_ble_eq_true rfl) ⟨Nat.zero_le _, Nat.zero_le _⟩ dX11_key_127 (fun r_15 hf => ?_)
            exact z_retMi (Wf := (fun z => cl_X11 cI cJ a z)) (u := ((0 : Int32), u.2)) X hf hP hD hS dX11_key_130
          · have hf := hf.2 c_14
            refine lv_iconst (v := (-1)) hx hb dX11_key_120 (by decide) ?_
            refine lv_goto (tgt := 130) hx hb dX11_key_121 (by decide) ?_
            exact z_retMi (Wf := (fun z => cl_X11 cI cJ a z)) (u := ((0 : Int32), u.2)) X hf hP hD hS dX11_key_130
        have hf := hf.2 c_12
        by_cases c_16 : x2 = (4 : Int32)
        · have hf := hf.1 c_16
          refine lv_tableIn (off := 91) (tgt := 131) hx hb dX11_key_40 (by rw [c_16]; decide) (by rw [c_16]; decide) (by rw [c_16]; decide) (by decide) ?_
          refine lv_aload_n hx hb dX11_key_131 rfl (lv_at hl 0 rfl) ?_
          refine lv_iload_n hx hb dX11_key_132 rfl (lv_at hl 1 rfl) ?_
          refine lv_iconst (v := 4) hx hb dX11_key_133 (by decide) ?_
          refine z_cVi (As := [.int x1, .int (4 : Int32)]) (rest := []) X (c_X11_asideOnly l dC dI cI cJ cS a ((0 : Int32), u.2) x1 (4 : Int32) _ hf) zc_X11_asideOnly q_ml_X11_272 ⟨rfl, rfl⟩ ⟨Nat.le_of_ble_eq_true rfl, Nat.le_of_ble_eq_true rfl⟩ hP [0, 1, 2, 3, 4, 5, 6, 7, 8] rfl 10 rfl rfl hl.1 rfl rfl (Nat.le_of_ble_eq_true rfl) ⟨Nat.zero_le _, Nat.zero_le _⟩ dX11_key_134 (fun r_17 hf => ?_)
          exact z_retMi (Wf := (fun z => cl_X11 cI cJ a z)) (u := ((0 : Int32), u.2)) X hf hP hD hS dX11_key_137
        have hf := hf.2 c_16
        by_cases c_18 : x2 = (5 : Int32)
        · have hf := hf.1 c_18
          refine lv_tableIn (off := 98) (tgt := 138) hx hb dX11_key_40 (by rw [c_18]; decide) (by rw [c_18]; decide) (by rw [c_18]; decide) (by decide) ?_
          refine lv_aload_n hx hb dX11_key_138 rfl (lv_at hl 0 rfl) ?_
          refine lv_iload_n hx hb dX11_key_139 rfl (lv_at hl 1 rfl) ?_
          refine lv_iconst (v := 5) hx hb dX11_key_140 (by decide) ?_
          refine z_cVi (As := [.int x1, .int (5 : Int32)]) (rest := []) X (c_X11_asideOnly l dC dI cI cJ cS a ((0 : Int32), u.2) x1 (5 : Int32) _ hf) zc_X11_asideOnly q_ml_X11_272 ⟨rfl, rfl⟩ ⟨Nat.le_of_ble_eq_true rfl, Nat.le_of_ble_eq_true rfl⟩ hP [0, 1, 2, 3, 4, 5, 6, 7, 8] rfl 10 rfl rfl hl.1 rfl rfl (Nat.le_of_ble_eq_true rfl) ⟨Nat.zero_le _, Nat.zero_le _⟩ dX11_key_141 (fun r_19 hf => ?_)
          exact z_retMi (Wf := (fun z => cl_X11 cI cJ a z)) (u := ((0 : Int32), u.2)) X hf hP hD hS dX11_key_144
        have hf := hf.2 c_18
        by_cases c_20 : x2 = (6 : Int32)
        · have hf := hf.1 c_20
          refine lv_tableIn (off := 105) (tgt := 145) hx hb dX11_key_40 (by rw [c_20]; decide) (by rw [c_20]; decide) (by rw [c_20]; decide) (by decide) ?_
          refine lv_aload_n hx hb dX11_key_145 rfl (lv_at hl 0 rfl) ?_
          refine lv_iload_n hx hb dX11_key_146 rfl (lv_at hl 1 rfl) ?_
          refine z_cVi (As := [.int x1]) (rest := []) X (c_X11_costOf l dC dI cI cJ cS a ((0 : Int32), u.2) x1 _ hf) zc_X11_costOf q_ml_X11_275 ⟨rfl, rfl⟩ ⟨Nat.le_of_ble_eq_true rfl, Nat.le_of_ble_eq_true rfl⟩ hP [0, 1, 2, 3, 4, 5, 6, 7, 8] rfl 10 rfl rfl hl.1 rfl rfl (Nat.le_of_ble_eq_true rfl) ⟨Nat.zero_le _, Nat.zero_le _⟩ dX11_key_147 (fun r_21 hf => ?_)
          exact z_retMi (Wf := (fun z => cl_X11 cI cJ a z)) (u := ((0 : Int32), u.2)) X hf hP hD hS dX11_key_150
        have hf := hf.2 c_20
        by_cases c_22 : x2 = (7 : Int32)
        · have hf := hf.1 c_22
          refine lv_tableIn (off := 111) (tgt := 151) hx hb dX11_key_40 (by rw [c_22]; decide) (by rw [c_22]; decide) (by rw [c_22]; decide) (by decide) ?_
          refine lv_aload_n hx hb dX11_key_151 rfl (lv_at hl 0 rfl) ?_
          refine lv_iload_n hx hb dX11_key_152 rfl (lv_at hl 1 rfl) ?_
          refine z_cVi (As := [.int x1]) (rest := []) X (c_X11_tableOf l dC dI cI cJ cS a ((0 : Int32), u.2) x1 _ hf) zc_X11_tableOf q_ml_X11_70 ⟨rfl, rfl⟩ ⟨Nat.le_of_ble_eq_true rfl, Nat.le_of_ble_eq_true rfl⟩ hP [0, 1, 2, 3, 4, 5, 6, 7, 8] rfl 10 rfl rfl hl.1 rfl rfl (Nat.le_of_ble_eq_true rfl) ⟨Nat.zero_le _, Nat.zero_le _⟩ dX11_key_153 (fun r_23 hf => ?_)
          exact z_retMi (Wf := (fun z => cl_X11 cI cJ a z)) (u := ((0 : Int32), u.2)) X hf hP hD hS dX11_key_156
        have hf := hf.2 c_22
        by_cases c_24 : x2 = (8 : Int32)
        · have hf := hf.1 c_24
          refine lv_tableIn (off := 117) (tgt := 157) hx hb dX11_key_40 (by rw [c_24]; decide) (by rw [c_24]; decide) (by rw [c_24]; decide) (by decide) ?_
          refine lv_aload_n hx hb dX11_key_157 rfl (lv_at hl 0 rfl) ?_
          refine lv_iload_n hx hb dX11_key_158 rfl (lv_at hl 1 rfl) ?_
          refine z_cVi (As := [.int x1]) (rest := []) X (c_X11_entriesOf l dC dI cI cJ cS a ((0 : Int32), u.2) x1 _ hf) zc_X11_entriesOf q_ml_X11_278 ⟨rfl, rfl⟩ ⟨Nat.le_of_ble_eq_true rfl, Nat.le_of_ble_eq_true rfl⟩ hP [0, 1, 2, 3, 4, 5, 6, 7, 8] rfl 10 rfl rfl hl.1 rfl rfl (Nat.le_of_ble_eq_true rfl) ⟨Nat.zero_le _, Nat.zero_le _⟩ dX11_key_159 (fun r_25 hf => ?_)
          exact z_retMi (Wf := (fun z => cl_X11 cI cJ a z)) (u := ((0 : Int32), u.2)) X hf hP hD hS dX11_key_162
        have hf := hf.2 c_24
        refine lv_tableOut (tgt := 163) hx hb dX11_key_40 (by have q0 : ¬ x2.toInt = (0 : Int) := fun h => c_6 (Int32.toInt_inj.mp (show x2.toInt = (0 : Int32).toInt from h)); have q1 : ¬ x2.toInt = (1 : Int) := fun h => c_8 (Int32.toInt_inj.mp (show x2.toInt = (1 : Int32).toInt from h)); have q2 : ¬ x2.toInt = (2 : Int) := fun h => c_10 (Int32.toInt_inj.mp (show x2.toInt = (2 : Int32).toInt from h)); have q3 : ¬ x2.toInt = (3 : Int) := fun h => c_12 (Int32.toInt_inj.mp (show x2.toInt = (3 : Int32).toInt from h)); have q4 : ¬ x2.toInt = (4 : Int) := fun h => c_16 (Int32.toInt_inj.mp (show x2.toInt = (4 : Int32).toInt from h)); have q5 : ¬ x2.toInt = (5 : Int) := fun h => c_18 (Int32.toInt_inj.mp (show x2.toInt = (5 : Int32).toInt from h)); have q6 : ¬ x2.toInt = (6 : Int) := fun h => c_20 (Int32.toInt_inj.mp (show x2.toInt = (6 : Int32).toInt from h)); have q7 : ¬ x2.toInt = (7 : Int) := fun h => c_22 (Int32.toInt_inj.mp (show x2.toInt = (7 : Int32).toInt from h)); have q8 : ¬ x2.toInt = (8 : Int) := fun h => c_24 (Int32.toInt_inj.mp (show x2.toInt = (8 : Int32).toInt from h)); omega) (by decide) ?_
        refine lv_aload_n hx hb dX11_key_163 rfl (lv_at hl 0 rfl) ?_
        refine z_mVv (Wn := (fun u_27 => cl_X11 cI cJ a u_27)) (As := []) (rest := []) (wr := []) X (c_X11_crashes l dC dI cI cJ cS a ((0 : Int32), u.2)  _ hf _) zc_X11_crashes q_ml_X11_281 ⟨rfl, rfl⟩ ⟨Nat.le_of_ble_eq_true rfl, Nat.le_of_ble_eq_true rfl⟩ hP hD hS hA [0, 1, 2, 3, 4, 5, 6, 7, 8] [] rfl (by decide) rfl (by decide) (by decide) [0, 1, 2, 3, 4, 5, 6, 7, 8] (by decide) (fun _ => rfl) 10 rfl rfl hl.1 rfl rfl (Nat.le_of_ble_eq_true rfl) ⟨Nat.zero_le _, Nat.zero_le _⟩ dX11_key_164 (fun u_27 H locs hf hP hD hS => ?_)
        refine lv_aload_n hx hb dX11_key_167 rfl (lv_at hl 0 rfl) ?_
        refine va_get (D := (dC, dI)) (ci := 10) (v := .ref (a 7)) (C := RX11) (T := TX11) (N := 17) hx hb hts inX11 hown hK hP 0 rfl rfl 14 (by decide) (hts _ q_fl_X11_33) (fun _ h9 => h9) rfl dX11_key_168 ?_
        refine lv_iload_n hx hb dX11_key_171 rfl (lv_at hl 1 rfl) ?_
        obtain ⟨hg, hf⟩ := hf
        refine va_iald hx hb hK hP 7 0 rfl rfl hg dX11_key_172 ?_
        exact z_retMi (Wf := (fun z => cl_X11 cI cJ a z)) (u := u_27) X hf hP hD hS dX11_key_173
      · have hf := hf.2 c_5
        refine lv_iconst (v := 0) hx hb dX11_key_37 (by decide) ?_
        exact z_retMi (Wf := (fun z => cl_X11 cI cJ a z)) (u := ((0 : Int32), u.2)) X hf hP hD hS dX11_key_38
    · have hf := hf.2 c_4
      refine lv_iconst (v := 2) hx hb dX11_key_22 (by decide) ?_
      refine lv_goto (tgt := 27) hx hb dX11_key_23 (by decide) ?_
      refine z_put (w' := cl_X11 cI cJ a ((2 : Int32), u.2)) (ci := 10) (v := .int (2 : Int32)) (ty := .int) (Cn := RX11) (T := TX11) (N := 17) X inX11 tyX11 tyX11_ok nmX11 hP hD hS 0 rfl rfl 0 (by decide) (hts _ q_fl_X11_43) (fun _ h9 => h9) rfl (tyX11_ok 0 (by decide)) rfl rfl (Nat.le_of_ble_eq_true rfl) rfl dX11_key_27 (fun H locs hP hD hS => ?_)
      refine lv_aload_n hx hb dX11_key_30 rfl (lv_at hl 0 rfl) ?_
      refine va_get (D := (dC, dI)) (ci := 10) (v := .int (2 : Int32)) (C := RX11) (T := TX11) (N := 17) hx hb hts inX11 hown hK hP 0 rfl rfl 0 (by decide) (hts _ q_fl_X11_43) (fun _ h9 => h9) rfl dX11_key_31 ?_
      refine lv_if_le (tgt := 39) hx hb dX11_key_34 (by decide) (fun c_28 => ?_) (fun c_28 => ?_)
      · have hf := hf.1 c_28
        refine lv_iload_n hx hb dX11_key_39 rfl (lv_at hl 2 rfl) ?_
        by_cases c_29 : x2 = (0 : Int32)
        · have hf := hf.1 c_29
          refine lv_tableIn (off := 52) (tgt := 92) hx hb dX11_key_40 (by rw [c_29]; decide) (by rw [c_29]; decide) (by rw [c_29]; decide) (by decide) ?_
          refine lv_aload_n hx hb dX11_key_92 rfl (lv_at hl 0 rfl) ?_
          refine lv_iload_n hx hb dX11_key_93 rfl (lv_at hl 1 rfl) ?_
          refine z_cVi (As := [.int x1]) (rest := []) X (c_X11_lengthOf l dC dI cI cJ cS a ((2 : Int32), u.2) x1 _ hf) zc_X11_lengthOf q_ml_X11_266 ⟨rfl, rfl⟩ ⟨Nat.le_of_ble_eq_true rfl, Nat.le_of_ble_eq_true rfl⟩ hP [0, 1, 2, 3, 4, 5, 6, 7, 8] rfl 10 rfl rfl hl.1 rfl rfl (Nat.le_of_ble_eq_true rfl) ⟨Nat.zero_le _, Nat.zero_le _⟩ dX11_key_94 (fun r_30 hf => ?_)
          exact z_retMi (Wf := (fun z => cl_X11 cI cJ a z)) (u := ((2 : Int32), u.2)) X hf hP hD hS dX11_key_97
        have hf := hf.2 c_29
        by_cases c_31 : x2 = (1 : Int32)
        · have hf := hf.1 c_31
          refine lv_tableIn (off := 58) (tgt := 98) hx hb dX11_key_40 (by rw [c_31]; decide) (by rw [c_31]; decide) (by rw [c_31]; decide) (by decide) ?_
          refine lv_aload_n hx hb dX11_key_98 rfl (lv_at hl 0 rfl) ?_
          refine lv_iload_n hx hb dX11_key_99 rfl (lv_at hl 1 rfl) ?_
          refine z_cVi (As := [.int x1]) (rest := []) X (c_X11_seedOf l dC dI cI cJ cS a ((2 : Int32), u.2) x1 _ hf) zc_X11_seedOf q_ml_X11_269 ⟨rfl, rfl⟩ ⟨Nat.le_of_ble_eq_true rfl, Nat.le_of_ble_eq_true rfl⟩ hP [0, 1, 2, 3, 4, 5, 6, 7, 8] rfl 10 rfl rfl hl.1 rfl rfl (Nat.le_of_ble_eq_true rfl) ⟨Nat.zero_le _, Nat.zero_le _⟩ dX11_key_100 (fun r_32 hf => ?_)
          exact z_retMi (Wf := (fun z => cl_X11 cI cJ a z)) (u := ((2 : Int32), u.2)) X hf hP hD hS dX11_key_103
        have hf := hf.2 c_31
        by_cases c_33 : x2 = (2 : Int32)
        · have hf := hf.1 c_33
          refine lv_tableIn (off := 64) (tgt := 104) hx hb dX11_key_40 (by rw [c_33]; decide) (by rw [c_33]; decide) (by rw [c_33]; decide) (by decide) ?_
          refine lv_aload_n hx hb dX11_key_104 rfl (lv_at hl 0 rfl) ?_
          refine lv_iload_n hx hb dX11_key_105 rfl (lv_at hl 1 rfl) ?_
          refine lv_iconst (v := 1) hx hb dX11_key_106 (by decide) ?_
          refine z_cVi (As := [.int x1, .int (1 : Int32)]) (rest := []) X (c_X11_current l dC dI cI cJ cS a ((2 : Int32), u.2) x1 (1 : Int32) _ hf) zc_X11_current q_ml_X11_74 ⟨rfl, rfl⟩ ⟨Nat.le_of_ble_eq_true rfl, Nat.le_of_ble_eq_true rfl⟩ hP [0, 1, 2, 3, 4, 5, 6, 7, 8] rfl 10 rfl rfl hl.1 rfl rfl (Nat.le_of_ble_eq_true rfl) ⟨Nat.zero_le _, Nat.zero_le _⟩ dX11_key_107 (fun r_34 hf => ?_)
          exact z_retMi (Wf := (fun z => cl_X11 cI cJ a z)) (u := ((2 : Int32), u.2)) X hf hP hD hS dX11_key_110
        have hf := hf.2 c_33
        by_cases c_35 : x2 = (3 : Int32)
        · have hf := hf.1 c_35
          refine lv_tableIn (off := 71) (tgt := 111) hx hb dX11_key_40 (by rw [c_35]; decide) (by rw [c_35]; decide) (by rw [c_35]; decide) (by decide) ?_
          refine lv_aload_n hx hb dX11_key_111 rfl (lv_at hl 0 rfl) ?_
          refine lv_iload_n hx hb dX11_key_112 rfl (lv_at hl 1 rfl) ?_
          refine z_cVi (As := [.int x1]) (rest := []) X (c_X11_tableOf l dC dI cI cJ cS a ((2 : Int32), u.2) x1 _ hf) zc_X11_tableOf q_ml_X11_70 ⟨rfl, rfl⟩ ⟨Nat.le_of_ble_eq_true rfl, Nat.le_of_ble_eq_true rfl⟩ hP [0, 1, 2, 3, 4, 5, 6, 7, 8] rfl 10 rfl rfl hl.1 rfl rfl (Nat.le_of_ble_eq_true rfl) ⟨Nat.zero_le _, Nat.zero_le _⟩ dX11_key_113 (fun r_36 hf => ?_)
          refine lv_iconst (v := (-1)) hx hb dX11_key_116 (by decide) ?_
          refine lv_icmp_ne (tgt := 124) hx hb dX11_key_117 (by decide) (fun c_37 => ?_) (fun c_37 => ?_)
          · have hf := hf.1 c_37
            refine lv_aload_n hx hb dX11_key_124 rfl (lv_at hl 0 rfl) ?_
            refine lv_iload_n hx hb dX11_key_125 rfl (lv_at hl 1 rfl) ?_
            refine lv_iconst (v := 0) hx hb dX11_key_126 (by decide) ?_
            refine z_cVi (As := [.int x1, .int (0 : Int32)]) (rest := []) X (c_X11_current l dC dI cI cJ cS a ((2 : Int32), u.2) x1 (0 : Int32) _ hf) zc_X11_current q_ml_X11_74 ⟨rfl, rfl⟩ ⟨Nat.le_of_ble_eq_true rfl, Nat.le_of_ble_eq_true rfl⟩ hP [0, 1, 2, 3, 4, 5, 6, 7, 8] rfl 10 rfl rfl hl.1 rfl rfl (Nat.le_of_ble_eq_true rfl) ⟨Nat.zero_le _, Nat.zero_le _⟩ dX11_key_127 (fun r_38 hf => ?_)
            exact z_retMi (Wf := (fun z => cl_X11 cI cJ a z)) (u := ((2 : Int32), u.2)) X hf hP hD hS dX11_key_130
          · have hf := hf.2 c_37
            refine lv_iconst (v := (-1)) hx hb dX11_key_120 (by decide) ?_
            refine lv_goto (tgt := 130) hx hb dX11_key_121 (by decide) ?_
            exact z_retMi (Wf := (fun z => cl_X11 cI cJ a z)) (u := ((2 : Int32), u.2)) X hf hP hD hS dX11_key_130
        have hf := hf.2 c_35
        by_cases c_39 : x2 = (4 : Int32)
        · have hf := hf.1 c_39
          refine lv_tableIn (off := 91) (tgt := 131) hx hb dX11_key_40 (by rw [c_39]; decide) (by rw [c_39]; decide) (by rw [c_39]; decide) (by decide) ?_
          refine lv_aload_n hx hb dX11_key_131 rfl (lv_at hl 0 rfl) ?_
          refine lv_iload_n hx hb dX11_key_132 rfl (lv_at hl 1 rfl) ?_
          refine lv_iconst (v := 4) hx hb dX11_key_133 (by decide) ?_
          refine z_cVi (As := [.int x1, .int (4 : Int32)]) (rest := []) X (c_X11_asideOnly l dC dI cI cJ cS a ((2 : Int32), u.2) x1 (4 : Int32) _ hf) zc_X11_asideOnly q_ml_X11_272 ⟨rfl, rfl⟩ ⟨Nat.le_of_ble_eq_true rfl, Nat.le_of_ble_eq_true rfl⟩ hP [0, 1, 2, 3, 4, 5, 6, 7, 8] rfl 10 rfl rfl hl.1 rfl rfl (Nat.le_of_ble_eq_true rfl) ⟨Nat.zero_le _, Nat.zero_le _⟩ dX11_key_134 (fun r_40 hf => ?_)
          exact z_retMi (Wf := (fun z => cl_X11 cI cJ a z)) (u := ((2 : Int32), u.2)) X hf hP hD hS dX11_key_137
        have hf := hf.2 c_39
        by_cases c_41 : x2 = (5 : Int32)
        · have hf := hf.1 c_41
          refine lv_tableIn (off := 98) (tgt := 138) hx hb dX11_key_40 (by rw [c_41]; decide) (by rw [c_41]; decide) (by rw [c_41]; decide) (by decide) ?_
          refine lv_aload_n hx hb dX11_key_138 rfl (lv_at hl 0 rfl) ?_
          refine lv_iload_n hx hb dX11_key_139 rfl (lv_at hl 1 rfl) ?_
          refine lv_iconst (v := 5) hx hb dX11_key_140 (by decide) ?_
          refine z_cVi (As := [.int x1, .int (5 : Int32)]) (rest := []) X (c_X11_asideOnly l dC dI cI cJ cS a ((2 : Int32), u.2) x1 (5 : Int32) _ hf) zc_X11_asideOnly q_ml_X11_272 ⟨rfl, rfl⟩ ⟨Nat.le_of_ble_eq_true rfl, Nat.le_of_ble_eq_true rfl⟩ hP [0, 1, 2, 3, 4, 5, 6, 7, 8] rfl 10 rfl rfl hl.1 rfl rfl (Nat.le_of_ble_eq_true rfl) ⟨Nat.zero_le _, Nat.zero_le _⟩ dX11_key_141 (fun r_42 hf => ?_)
          exact z_retMi (Wf := (fun z => cl_X11 cI cJ a z)) (u := ((2 : Int32), u.2)) X hf hP hD hS dX11_key_144
        have hf := hf.2 c_41
        by_cases c_43 : x2 = (6 : Int32)
        · have hf := hf.1 c_43
          refine lv_tableIn (off := 105) (tgt := 145) hx hb dX11_key_40 (by rw [c_43]; decide) (by rw [c_43]; decide) (by rw [c_43]; decide) (by decide) ?_
          refine lv_aload_n hx hb dX11_key_145 rfl (lv_at hl 0 rfl) ?_
          refine lv_iload_n hx hb dX11_key_146 rfl (lv_at hl 1 rfl) ?_
          refine z_cVi (As := [.int x1]) (rest := []) X (c_X11_costOf l dC dI cI cJ cS a ((2 : Int32), u.2) x1 _ hf) zc_X11_costOf q_ml_X11_275 ⟨rfl, rfl⟩ ⟨Nat.le_of_ble_eq_true rfl, Nat.le_of_ble_eq_true rfl⟩ hP [0, 1, 2, 3, 4, 5, 6, 7, 8] rfl 10 rfl rfl hl.1 rfl rfl (Nat.le_of_ble_eq_true rfl) ⟨Nat.zero_le _, Nat.zero_le _⟩ dX11_key_147 (fun r_44 hf => ?_)
          exact z_retMi (Wf := (fun z => cl_X11 cI cJ a z)) (u := ((2 : Int32), u.2)) X hf hP hD hS dX11_key_150
        have hf := hf.2 c_43
        by_cases c_45 : x2 = (7 : Int32)
        · have hf := hf.1 c_45
          refine lv_tableIn (off := 111) (tgt := 151) hx hb dX11_key_40 (by rw [c_45]; decide) (by rw [c_45]; decide) (by rw [c_45]; decide) (by decide) ?_
          refine lv_aload_n hx hb dX11_key_151 rfl (lv_at hl 0 rfl) ?_
          refine lv_iload_n hx hb dX11_key_152 rfl (lv_at hl 1 rfl) ?_
          refine z_cVi (As := [.int x1]) (rest := []) X (c_X11_tableOf l dC dI cI cJ cS a ((2 : Int32), u.2) x1 _ hf) zc_X11_tableOf q_ml_X11_70 ⟨rfl, rfl⟩ ⟨Nat.le_of_ble_eq_true rfl, Nat.le_of_ble_eq_true rfl⟩ hP [0, 1, 2, 3, 4, 5, 6, 7, 8] rfl 10 rfl rfl hl.1 rfl rfl (Nat.le_of_ble_eq_true rfl) ⟨Nat.zero_le _, Nat.zero_le _⟩ dX11_key_153 (fun r_46 hf => ?_)
          exact z_retMi (Wf := (fun z => cl_X11 cI cJ a z)) (u := ((2 : Int32), u.2)) X hf hP hD hS dX11_key_156
        have hf := hf.2 c_45
        by_cases c_47 : x2 = (8 : Int32)
        · have hf := hf.1 c_47
          refine lv_tableIn (off := 117) (tgt := 157) hx hb dX11_key_40 (by rw [c_47]; decide) (by rw [c_47]; decide) (by rw [c_47]; decide) (by decide) ?_
          refine lv_aload_n hx hb dX11_key_157 rfl (lv_at hl 0 rfl) ?_
          refine lv_iload_n hx hb dX11_key_158 rfl (lv_at hl 1 rfl) ?_
          refine z_cVi (As := [.int x1]) (rest := []) X (c_X11_entriesOf l dC dI cI cJ cS a ((2 : Int32), u.2) x1 _ hf) zc_X11_entriesOf q_ml_X11_278 ⟨rfl, rfl⟩ ⟨Nat.le_of_ble_eq_true rfl, Nat.le_of_ble_eq_true rfl⟩ hP [0, 1, 2, 3, 4, 5, 6, 7, 8] rfl 10 rfl rfl hl.1 rfl rfl (Nat.le_of_ble_eq_true rfl) ⟨Nat.zero_le _, Nat.zero_le _⟩ dX11_key_159 (fun r_48 hf => ?_)
          exact z_retMi (Wf := (fun z => cl_X11 cI cJ a z)) (u := ((2 : Int32), u.2)) X hf hP hD hS dX11_key_162
        have hf := hf.2 c_47
        refine lv_tableOut (tgt := 163) hx hb dX11_key_40 (by have q0 : ¬ x2.toInt = (0 : Int) := fun h => c_29 (Int32.toInt_inj.mp (show x2.toInt = (0 : Int32).toInt from h)); have q1 : ¬ x2.toInt = (1 : Int) := fun h => c_31 (Int32.toInt_inj.mp (show x2.toInt = (1 : Int32).toInt from h)); have q2 : ¬ x2.toInt = (2 : Int) := fun h => c_33 (Int32.toInt_inj.mp (show x2.toInt = (2 : Int32).toInt from h)); have q3 : ¬ x2.toInt = (3 : Int) := fun h => c_35 (Int32.toInt_inj.mp (show x2.toInt = (3 : Int32).toInt from h)); have q4 : ¬ x2.toInt = (4 : Int) := fun h => c_39 (Int32.toInt_inj.mp (show x2.toInt = (4 : Int32).toInt from h)); have q5 : ¬ x2.toInt = (5 : Int) := fun h => c_41 (Int32.toInt_inj.mp (show x2.toInt = (5 : Int32).toInt from h)); have q6 : ¬ x2.toInt = (6 : Int) := fun h => c_43 (Int32.toInt_inj.mp (show x2.toInt = (6 : Int32).toInt from h)); have q7 : ¬ x2.toInt = (7 : Int) := fun h => c_45 (Int32.toInt_inj.mp (show x2.toInt = (7 : Int32).toInt from h)); have q8 : ¬ x2.toInt = (8 : Int) := fun h => c_47 (Int32.toInt_inj.mp (show x2.toInt = (8 : Int32).toInt from h)); omega) (by decide) ?_
        refine lv_aload_n hx hb dX11_key_163 rfl (lv_at hl 0 rfl) ?_
        refine z_mVv (Wn := (fun u_50 => cl_X11 cI cJ a u_50)) (As := []) (rest := []) (wr := []) X (c_X11_crashes l dC dI cI cJ cS a ((2 : Int32), u.2)  _ hf _) zc_X11_crashes q_ml_X11_281 ⟨rfl, rfl⟩ ⟨Nat.le_of_ble_eq_true rfl, Nat.le_of_ble_eq_true rfl⟩ hP hD hS hA [0, 1, 2, 3, 4, 5, 6, 7, 8] [] rfl (by decide) rfl (by decide) (by decide) [0, 1, 2, 3, 4, 5, 6, 7, 8] (by decide) (fun _ => rfl) 10 rfl rfl hl.1 rfl rfl (Nat.le_of_ble_eq_true rfl) ⟨Nat.zero_le _, Nat.zero_le _⟩ dX11_key_164 (fun u_50 H locs hf hP hD hS => ?_)
        refine lv_aload_n hx hb dX11_key_167 rfl (lv_at hl 0 rfl) ?_
        refine va_get (D := (dC, dI)) (ci := 10) (v := .ref (a 7)) (C := RX11) (T := TX11) (N := 17) hx hb hts inX11 hown hK hP 0 rfl rfl 14 (by decide) (hts _ q_fl_X11_33) (fun _ h9 => h9) rfl dX11_key_168 ?_
        refine lv_iload_n hx hb dX11_key_171 rfl (lv_at hl 1 rfl) ?_
        obtain ⟨hg, hf⟩ := hf
        refine va_iald hx hb hK hP 7 0 rfl rfl hg dX11_key_172 ?_
        exact z_retMi (Wf := (fun z => cl_X11 cI cJ a z)) (u := u_50) X hf hP hD hS dX11_key_173
      · have hf := hf.2 c_28
        refine lv_iconst (v := 0) hx hb dX11_key_37 (by decide) ?_
        exact z_retMi (Wf := (fun z => cl_X11 cI cJ a z)) (u := ((2 : Int32), u.2)) X hf hP hD hS dX11_key_38
  · have hf := hf.2 c_2
    refine lv_iconst (v := 1) hx hb dX11_key_8 (by decide) ?_
    refine lv_goto (tgt := 27) hx hb dX11_key_9 (by decide) ?_
    refine z_put (w' := cl_X11 cI cJ a ((1 : Int32), u.2)) (ci := 10) (v := .int (1 : Int32)) (ty := .int) (Cn := RX11) (T := TX11) (N := 17) X inX11 tyX11 tyX11_ok nmX11 hP hD hS 0 rfl rfl 0 (by decide) (hts _ q_fl_X11_43) (fun _ h9 => h9) rfl (tyX11_ok 0 (by decide)) rfl rfl (Nat.le_of_ble_eq_true rfl) rfl dX11_key_27 (fun H locs hP hD hS => ?_)
    refine lv_aload_n hx hb dX11_key_30 rfl (lv_at hl 0 rfl) ?_
    refine va_get (D := (dC, dI)) (ci := 10) (v := .int (1 : Int32)) (C := RX11) (T := TX11) (N := 17) hx hb hts inX11 hown hK hP 0 rfl rfl 0 (by decide) (hts _ q_fl_X11_43) (fun _ h9 => h9) rfl dX11_key_31 ?_
    refine lv_if_le (tgt := 39) hx hb dX11_key_34 (by decide) (fun c_51 => ?_) (fun c_51 => ?_)
    · have hf := hf.1 c_51
      refine lv_iload_n hx hb dX11_key_39 rfl (lv_at hl 2 rfl) ?_
      by_cases c_52 : x2 = (0 : Int32)
      · have hf := hf.1 c_52
        refine lv_tableIn (off := 52) (tgt := 92) hx hb dX11_key_40 (by rw [c_52]; decide) (by rw [c_52]; decide) (by rw [c_52]; decide) (by decide) ?_
        refine lv_aload_n hx hb dX11_key_92 rfl (lv_at hl 0 rfl) ?_
        refine lv_iload_n hx hb dX11_key_93 rfl (lv_at hl 1 rfl) ?_
        refine z_cVi (As := [.int x1]) (rest := []) X (c_X11_lengthOf l dC dI cI cJ cS a ((1 : Int32), u.2) x1 _ hf) zc_X11_lengthOf q_ml_X11_266 ⟨rfl, rfl⟩ ⟨Nat.le_of_ble_eq_true rfl, Nat.le_of_ble_eq_true rfl⟩ hP [0, 1, 2, 3, 4, 5, 6, 7, 8] rfl 10 rfl rfl hl.1 rfl rfl (Nat.le_of_ble_eq_true rfl) ⟨Nat.zero_le _, Nat.zero_le _⟩ dX11_key_94 (fun r_53 hf => ?_)
        exact z_retMi (Wf := (fun z => cl_X11 cI cJ a z)) (u := ((1 : Int32), u.2)) X hf hP hD hS dX11_key_97
      have hf := hf.2 c_52
      by_cases c_54 : x2 = (1 : Int32)
      · have hf := hf.1 c_54
        refine lv_tableIn (off := 58) (tgt := 98) hx hb dX11_key_40 (by rw [c_54]; decide) (by rw [c_54]; decide) (by rw [c_54]; decide) (by decide) ?_
        refine lv_aload_n hx hb dX11_key_98 rfl (lv_at hl 0 rfl) ?_
        refine lv_iload_n hx hb dX11_key_99 rfl (lv_at hl 1 rfl) ?_
        refine z_cVi (As := [.int x1]) (rest := []) X (c_X11_seedOf l dC dI cI cJ cS a ((1 : Int32), u.2) x1 _ hf) zc_X11_seedOf q_ml_X11_269 ⟨rfl, rfl⟩ ⟨Nat.le_of_ble_eq_true rfl, Nat.le_of_ble_eq_true rfl⟩ hP [0, 1, 2, 3, 4, 5, 6, 7, 8] rfl 10 rfl rfl hl.1 rfl rfl (Nat.le_of_ble_eq_true rfl) ⟨Nat.zero_le _, Nat.zero_le _⟩ dX11_key_100 (fun r_55 hf => ?_)
        exact z_retMi (Wf := (fun z => cl_X11 cI cJ a z)) (u := ((1 : Int32), u.2)) X hf hP hD hS dX11_key_103
      have hf := hf.2 c_54
      by_cases c_56 : x2 = (2 : Int32)
      · have hf := hf.1 c_56
        refine lv_tableIn (off := 64) (tgt := 104) hx hb dX11_key_40 (by rw [c_56]; decide) (by rw [c_56]; decide) (by rw [c_56]; decide) (by decide) ?_
        refine lv_aload_n hx hb dX11_key_104 rfl (lv_at hl 0 rfl) ?_
        refine lv_iload_n hx hb dX11_key_105 rfl (lv_at hl 1 rfl) ?_
        refine lv_iconst (v := 1) hx hb dX11_key_106 (by decide) ?_
        refine z_cVi (As := [.int x1, .int (1 : Int32)]) (rest := []) X (c_X11_current l dC dI cI cJ cS a ((1 : Int32), u.2) x1 (1 : Int32) _ hf) zc_X11_current q_ml_X11_74 ⟨rfl, rfl⟩ ⟨Nat.le_of_ble_eq_true rfl, Nat.le_of_ble_eq_true rfl⟩ hP [0, 1, 2, 3, 4, 5, 6, 7, 8] rfl 10 rfl rfl hl.1 rfl rfl (Nat.le_of_ble_eq_true rfl) ⟨Nat.zero_le _, Nat.zero_le _⟩ dX11_key_107 (fun r_57 hf => ?_)
        exact z_retMi (Wf := (fun z => cl_X11 cI cJ a z)) (u := ((1 : Int32), u.2)) X hf hP hD hS dX11_key_110
      have hf := hf.2 c_56
      by_cases c_58 : x2 = (3 : Int32)
      · have hf := hf.1 c_58
        refine lv_tableIn (off := 71) (tgt := 111) hx hb dX11_key_40 (by rw [c_58]; decide) (by rw [c_58]; decide) (by rw [c_58]; decide) (by decide) ?_
        refine lv_aload_n hx hb dX11_key_111 rfl (lv_at hl 0 rfl) ?_
        refine lv_iload_n hx hb dX11_key_112 rfl (lv_at hl 1 rfl) ?_
        refine z_cVi (As := [.int x1]) (rest := []) X (c_X11_tableOf l dC dI cI cJ cS a ((1 : Int32), u.2) x1 _ hf) zc_X11_tableOf q_ml_X11_70 ⟨rfl, rfl⟩ ⟨Nat.le_of_ble_eq_true rfl, Nat.le_of_ble_eq_true rfl⟩ hP [0, 1, 2, 3, 4, 5, 6, 7, 8] rfl 10 rfl rfl hl.1 rfl rfl (Nat.le_of_ble_eq_true rfl) ⟨Nat.zero_le _, Nat.zero_le _⟩ dX11_key_113 (fun r_59 hf => ?_)
        refine lv_iconst (v := (-1)) hx hb dX11_key_116 (by decide) ?_
        refine lv_icmp_ne (tgt := 124) hx hb dX11_key_117 (by decide) (fun c_60 => ?_) (fun c_60 => ?_)
        · have hf := hf.1 c_60
          refine lv_aload_n hx hb dX11_key_124 rfl (lv_at hl 0 rfl) ?_
          refine lv_iload_n hx hb dX11_key_125 rfl (lv_at hl 1 rfl) ?_
          refine lv_iconst (v := 0) hx hb dX11_key_126 (by decide) ?_
          refine z_cVi (As := [.int x1, .int (0 : Int32)]) (rest := []) X (c_X11_current l dC dI cI cJ cS a ((1 : Int32), u.2) x1 (0 : Int32) _ hf) zc_X11_current q_ml_X11_74 ⟨rfl, rfl⟩ ⟨Nat.le_of_ble_eq_true rfl, Nat.le_of_ble_eq_true rfl⟩ hP [0, 1, 2, 3, 4, 5, 6, 7, 8] rfl 10 rfl rfl hl.1 rfl rfl (Nat.le_of_ble_eq_true rfl) ⟨Nat.zero_le _, Nat.zero_le _⟩ dX11_key_127 (fun r_61 hf => ?_)
          exact z_retMi (Wf := (fun z => cl_X11 cI cJ a z)) (u := ((1 : Int32), u.2)) X hf hP hD hS dX11_key_130
        · have hf := hf.2 c_60
          refine lv_iconst (v := (-1)) hx hb dX11_key_120 (by decide) ?_
          refine lv_goto (tgt := 130) hx hb dX11_key_121 (by decide) ?_
          exact z_retMi (Wf := (fun z => cl_X11 cI cJ a z)) (u := ((1 : Int32), u.2)) X hf hP hD hS dX11_key_130
      have hf := hf.2 c_58
      by_cases c_62 : x2 = (4 : Int32)
      · have hf := hf.1 c_62
        refine lv_tableIn (off := 91) (tgt := 131) hx hb dX11_key_40 (by rw [c_62]; decide) (by rw [c_62]; decide) (by rw [c_62]; decide) (by decide) ?_
        refine lv_aload_n hx hb dX11_key_131 rfl (lv_at hl 0 rfl) ?_
        refine lv_iload_n hx hb dX11_key_132 rfl (lv_at hl 1 rfl) ?_
        refine lv_iconst (v := 4) hx hb dX11_key_133 (by decide) ?_
        refine z_cVi (As := [.int x1, .int (4 : Int32)]) (rest := []) X (c_X11_asideOnly l dC dI cI cJ cS a ((1 : Int32), u.2) x1 (4 : Int32) _ hf) zc_X11_asideOnly q_ml_X11_272 ⟨rfl, rfl⟩ ⟨Nat.le_of_ble_eq_true rfl, Nat.le_of_ble_eq_true rfl⟩ hP [0, 1, 2, 3, 4, 5, 6, 7, 8] rfl 10 rfl rfl hl.1 rfl rfl (Nat.le_of_ble_eq_true rfl) ⟨Nat.zero_le _, Nat.zero_le _⟩ dX11_key_134 (fun r_63 hf => ?_)
        exact z_retMi (Wf := (fun z => cl_X11 cI cJ a z)) (u := ((1 : Int32), u.2)) X hf hP hD hS dX11_key_137
      have hf := hf.2 c_62
      by_cases c_64 : x2 = (5 : Int32)
      · have hf := hf.1 c_64
        refine lv_tableIn (off := 98) (tgt := 138) hx hb dX11_key_40 (by rw [c_64]; decide) (by rw [c_64]; decide) (by rw [c_64]; decide) (by decide) ?_
        refine lv_aload_n hx hb dX11_key_138 rfl (lv_at hl 0 rfl) ?_
        refine lv_iload_n hx hb dX11_key_139 rfl (lv_at hl 1 rfl) ?_
        refine lv_iconst (v := 5) hx hb dX11_key_140 (by decide) ?_
        refine z_cVi (As := [.int x1, .int (5 : Int32)]) (rest := []) X (c_X11_asideOnly l dC dI cI cJ cS a ((1 : Int32), u.2) x1 (5 : Int32) _ hf) zc_X11_asideOnly q_ml_X11_272 ⟨rfl, rfl⟩ ⟨Nat.le_of_ble_eq_true rfl, Nat.le_of_ble_eq_true rfl⟩ hP [0, 1, 2, 3, 4, 5, 6, 7, 8] rfl 10 rfl rfl hl.1 rfl rfl (Nat.le_of_ble_eq_true rfl) ⟨Nat.zero_le _, Nat.zero_le _⟩ dX11_key_141 (fun r_65 hf => ?_)
        exact z_retMi (Wf := (fun z => cl_X11 cI cJ a z)) (u := ((1 : Int32), u.2)) X hf hP hD hS dX11_key_144
      have hf := hf.2 c_64
      by_cases c_66 : x2 = (6 : Int32)
      · have hf := hf.1 c_66
        refine lv_tableIn (off := 105) (tgt := 145) hx hb dX11_key_40 (by rw [c_66]; decide) (by rw [c_66]; decide) (by rw [c_66]; decide) (by decide) ?_
        refine lv_aload_n hx hb dX11_key_145 rfl (lv_at hl 0 rfl) ?_
        refine lv_iload_n hx hb dX11_key_146 rfl (lv_at hl 1 rfl) ?_
        refine z_cVi (As := [.int x1]) (rest := []) X (c_X11_costOf l dC dI cI cJ cS a ((1 : Int32), u.2) x1 _ hf) zc_X11_costOf q_ml_X11_275 ⟨rfl, rfl⟩ ⟨Nat.le_of_ble_eq_true rfl, Nat.le_of_ble_eq_true rfl⟩ hP [0, 1, 2, 3, 4, 5, 6, 7, 8] rfl 10 rfl rfl hl.1 rfl rfl (Nat.le_of_ble_eq_true rfl) ⟨Nat.zero_le _, Nat.zero_le _⟩ dX11_key_147 (fun r_67 hf => ?_)
        exact z_retMi (Wf := (fun z => cl_X11 cI cJ a z)) (u := ((1 : Int32), u.2)) X hf hP hD hS dX11_key_150
      have hf := hf.2 c_66
      by_cases c_68 : x2 = (7 : Int32)
      · have hf := hf.1 c_68
        refine lv_tableIn (off := 111) (tgt := 151) hx hb dX11_key_40 (by rw [c_68]; decide) (by rw [c_68]; decide) (by rw [c_68]; decide) (by decide) ?_
        refine lv_aload_n hx hb dX11_key_151 rfl (lv_at hl 0 rfl) ?_
        refine lv_iload_n hx hb dX11_key_152 rfl (lv_at hl 1 rfl) ?_
        refine z_cVi (As := [.int x1]) (rest := []) X (c_X11_tableOf l dC dI cI cJ cS a ((1 : Int32), u.2) x1 _ hf) zc_X11_tableOf q_ml_X11_70 ⟨rfl, rfl⟩ ⟨Nat.le_of_ble_eq_true rfl, Nat.le_of_ble_eq_true rfl⟩ hP [0, 1, 2, 3, 4, 5, 6, 7, 8] rfl 10 rfl rfl hl.1 rfl rfl (Nat.le_of_ble_eq_true rfl) ⟨Nat.zero_le _, Nat.zero_le _⟩ dX11_key_153 (fun r_69 hf => ?_)
        exact z_retMi (Wf := (fun z => cl_X11 cI cJ a z)) (u := ((1 : Int32), u.2)) X hf hP hD hS dX11_key_156
      have hf := hf.2 c_68
      by_cases c_70 : x2 = (8 : Int32)
      · have hf := hf.1 c_70
        refine lv_tableIn (off := 117) (tgt := 157) hx hb dX11_key_40 (by rw [c_70]; decide) (by rw [c_70]; decide) (by rw [c_70]; decide) (by decide) ?_
        refine lv_aload_n hx hb dX11_key_157 rfl (lv_at hl 0 rfl) ?_
        refine lv_iload_n hx hb dX11_key_158 rfl (lv_at hl 1 rfl) ?_
        refine z_cVi (As := [.int x1]) (rest := []) X (c_X11_entriesOf l dC dI cI cJ cS a ((1 : Int32), u.2) x1 _ hf) zc_X11_entriesOf q_ml_X11_278 ⟨rfl, rfl⟩ ⟨Nat.le_of_ble_eq_true rfl, Nat.le_of_ble_eq_true rfl⟩ hP [0, 1, 2, 3, 4, 5, 6, 7, 8] rfl 10 rfl rfl hl.1 rfl rfl (Nat.le_of_ble_eq_true rfl) ⟨Nat.zero_le _, Nat.zero_le _⟩ dX11_key_159 (fun r_71 hf => ?_)
        exact z_retMi (Wf := (fun z => cl_X11 cI cJ a z)) (u := ((1 : Int32), u.2)) X hf hP hD hS dX11_key_162
      have hf := hf.2 c_70
      refine lv_tableOut (tgt := 163) hx hb dX11_key_40 (by have q0 : ¬ x2.toInt = (0 : Int) := fun h => c_52 (Int32.toInt_inj.mp (show x2.toInt = (0 : Int32).toInt from h)); have q1 : ¬ x2.toInt = (1 : Int) := fun h => c_54 (Int32.toInt_inj.mp (show x2.toInt = (1 : Int32).toInt from h)); have q2 : ¬ x2.toInt = (2 : Int) := fun h => c_56 (Int32.toInt_inj.mp (show x2.toInt = (2 : Int32).toInt from h)); have q3 : ¬ x2.toInt = (3 : Int) := fun h => c_58 (Int32.toInt_inj.mp (show x2.toInt = (3 : Int32).toInt from h)); have q4 : ¬ x2.toInt = (4 : Int) := fun h => c_62 (Int32.toInt_inj.mp (show x2.toInt = (4 : Int32).toInt from h)); have q5 : ¬ x2.toInt = (5 : Int) := fun h => c_64 (Int32.toInt_inj.mp (show x2.toInt = (5 : Int32).toInt from h)); have q6 : ¬ x2.toInt = (6 : Int) := fun h => c_66 (Int32.toInt_inj.mp (show x2.toInt = (6 : Int32).toInt from h)); have q7 : ¬ x2.toInt = (7 : Int) := fun h => c_68 (Int32.toInt_inj.mp (show x2.toInt = (7 : Int32).toInt from h)); have q8 : ¬ x2.toInt = (8 : Int) := fun h => c_70 (Int32.toInt_inj.mp (show x2.toInt = (8 : Int32).toInt from h)); omega) (by decide) ?_
      refine lv_aload_n hx hb dX11_key_163 rfl (lv_at hl 0 rfl) ?_
      refine z_mVv (Wn := (fun u_73 => cl_X11 cI cJ a u_73)) (As := []) (rest := []) (wr := []) X (c_X11_crashes l dC dI cI cJ cS a ((1 : Int32), u.2)  _ hf _) zc_X11_crashes q_ml_X11_281 ⟨rfl, rfl⟩ ⟨Nat.le_of_ble_eq_true rfl, Nat.le_of_ble_eq_true rfl⟩ hP hD hS hA [0, 1, 2, 3, 4, 5, 6, 7, 8] [] rfl (by decide) rfl (by decide) (by decide) [0, 1, 2, 3, 4, 5, 6, 7, 8] (by decide) (fun _ => rfl) 10 rfl rfl hl.1 rfl rfl (Nat.le_of_ble_eq_true rfl) ⟨Nat.zero_le _, Nat.zero_le _⟩ dX11_key_164 (fun u_73 H locs hf hP hD hS => ?_)
      refine lv_aload_n hx hb dX11_key_167 rfl (lv_at hl 0 rfl) ?_
      refine va_get (D := (dC, dI)) (ci := 10) (v := .ref (a 7)) (C := RX11) (T := TX11) (N := 17) hx hb hts inX11 hown hK hP 0 rfl rfl 14 (by decide) (hts _ q_fl_X11_33) (fun _ h9 => h9) rfl dX11_key_168 ?_
      refine lv_iload_n hx hb dX11_key_171 rfl (lv_at hl 1 rfl) ?_
      obtain ⟨hg, hf⟩ := hf
      refine va_iald hx hb hK hP 7 0 rfl rfl hg dX11_key_172 ?_
      exact z_retMi (Wf := (fun z => cl_X11 cI cJ a z)) (u := u_73) X hf hP hD hS dX11_key_173
    · have hf := hf.2 c_51
      refine lv_iconst (v := 0) hx hb dX11_key_37 (by decide) ?_
      exact z_retMi (Wf := (fun z => cl_X11 cI cJ a z)) (u := ((1 : Int32), u.2)) X hf hP hD hS dX11_key_38
def s_X11_key (u : zModel) (x1 x2 : Int32) (Q : Int32 → zModel → Prop) : Prop := mAsk u (fun v => fKey v x1 x2) Q
theorem st_X11_key {u : zModel} {x1 x2 : Int32} {Q : Int32 → zModel → Prop} (h : s_X11_key u x1 x2 Q) : t_X11_key u x1 x2 Q := by
  obtain ⟨B, G, hG, hm, hQ⟩ := h
  dsimp only at hQ
  unfold fKey at hQ
  have hmk : mOk (gNow G) u.2.1 := hG.1.mok hm.now
  refine isIn_of (fun c1 => ⟨fun _ => isIn_of (fun c2 => ⟨fun _ => ⟨fun _ => ?_, fun q => absurd (by decide) q⟩, fun q => absurd q (by decide)⟩) (fun c2 => ⟨fun q => absurd rfl q, fun _ => ⟨fun q => absurd q (by decide), fun _ => ?_⟩⟩), fun q => absurd q (by decide)⟩) (fun c1 => ⟨fun q => absurd rfl q, fun _ => ⟨fun q => absurd q (by decide), fun _ => ?_⟩⟩)
  · rw [if_pos c1, if_pos c2] at hQ
    obtain ⟨k, hk, rfl, ek⟩ := key_n c1
    rw [ek] at hQ
    dsimp only at hQ
    unfold aKey at hQ
    have hb : 0 ≤ (gNow G).1.2.1 := by
      obtain ⟨ρ, β, mo, lm, L, S, M, hP⟩ := id hG.1
      rw [hP.2.1.1]; exact n_b0 hP.2.1.2
    have c3 : ∀ w, uKind (gNow G).1.2.1 (uCur (gNow G) k) = 3 → curF (gNow G) k w = entF (gNow G).1.2.1 (uCur (gNow G) k) w := fun w q => by
      unfold curF
      rw [if_neg]
      intro z
      rw [z] at q
      exact absurd (show (0 : Int32) = 3 from q) (by decide)
    refine ⟨fun d => ⟨gNow G, k, hmk, hk, rfl, ?_⟩, fun d => ?_⟩
    · rw [if_pos d] at hQ; exact hQ _ (hm.th 0) rfl
    rw [if_neg d] at hQ
    refine ⟨fun d => ⟨gNow G, k, hmk, hk, rfl, ?_⟩, fun d => ?_⟩
    · rw [if_pos d] at hQ; exact hQ _ (hm.th 0) rfl
    rw [if_neg d] at hQ
    refine ⟨fun d => ⟨gNow G, k, 1, hmk, hk, by decide, rfl, rfl, ?_⟩, fun d => ?_⟩
    · rw [if_pos d] at hQ; rw [curF_1]; exact hQ _ (hm.th 0) rfl
    rw [if_neg d] at hQ
    refine ⟨fun d => ⟨gNow G, k, hmk, hk, rfl, fun z => ⟨gNow G, k, 0, hmk, hk, by decide, rfl, rfl, ?_⟩, fun z => ?_⟩, fun d => ?_⟩
    · rw [if_pos d] at hQ
      have h0 : ¬ uCur (gNow G) k = 0 := fun q => z (lvl_none.mpr q)
      rw [if_neg h0] at hQ
      unfold curF
      rw [if_neg h0]; exact hQ _ (hm.th 0) rfl
    · rw [if_pos d, if_pos (lvl_none.mp z)] at hQ; exact hQ _ (hm.th 0) rfl
    rw [if_neg d] at hQ
    refine ⟨fun d => ⟨gNow G, k, 1, hmk, hk, by decide, rfl, rfl, ?_⟩, fun d => ?_⟩
    · rw [if_pos d] at hQ
      rw [curF_1]
      refine ⟨fun z => ?_, fun z => ⟨gNow G, k, 4, hmk, hk, by decide, rfl, rfl, ?_⟩⟩
      · rw [if_neg z] at hQ; exact hQ _ (hm.th 0) rfl
      · rw [if_pos z] at hQ
        rw [c3 4 z]; exact hQ _ (hm.th 0) rfl
    rw [if_neg d] at hQ
    refine ⟨fun d => ⟨gNow G, k, 1, hmk, hk, by decide, rfl, rfl, ?_⟩, fun d => ?_⟩
    · rw [if_pos d] at hQ
      rw [curF_1]
      refine ⟨fun z => ?_, fun z => ⟨gNow G, k, 5, hmk, hk, by decide, rfl, rfl, ?_⟩⟩
      · rw [if_neg z] at hQ; exact hQ _ (hm.th 0) rfl
      · rw [if_pos z] at hQ
        rw [c3 5 z]; exact hQ _ (hm.th 0) rfl
    rw [if_neg d] at hQ
    refine ⟨fun d => ⟨gNow G, k, hmk, hk, rfl, ?_⟩, fun d => ?_⟩
    · rw [if_pos d] at hQ; exact hQ _ (hm.th 0) rfl
    rw [if_neg d] at hQ
    refine ⟨fun d => ⟨gNow G, k, hmk, hk, rfl, ?_⟩, fun d => ?_⟩
    · rw [if_pos d] at hQ; exact hQ _ (hm.th 0) rfl
    rw [if_neg d] at hQ
    refine ⟨fun d => ⟨gNow G, k, hmk, hk, rfl, ?_⟩, fun d => ⟨B, gNow G, hG.1, hm.now, fun m' tr lo se hm' hls => ⟨vp_in_nI hk (by decide), ?_⟩⟩⟩
    · rw [if_pos d] at hQ; exact hQ _ (hm.th 0) rfl
    · rw [if_neg d] at hQ
      dsimp only
      rw [nI_clamp (by omega), (hls k hk).1]
      exact hQ _ (mG_of (hG.1.same hm.now hm') hm.r hm.2.2.2.2.2.2) rfl
  · rw [if_pos c1, if_neg c2] at hQ
    exact hQ _ (hm.th 2) rfl
  · rw [if_neg c1] at hQ
    exact hQ _ (hm.th 1) rfl
theorem c_X11_key (l : Launch) (dC : Nat → ClassId) (dI : Nat → Nat → Nat) (cI cJ cS : ClassId) (a : Nat → Nat) (u : zModel) (x1 : Int32) (x2 : Int32) (Q : Int32 → zModel → Prop) (hf : s_X11_key u x1 x2 Q) : ∀ sz : Nat, Met l yX11_key (Cond.code yX11_key cX11_key 3 (some .int) :: zT) rm_X11_key (zPm dC dI cI cJ cS (cl_X11 cI cJ a u) [.ref (a 0), .int x1, .int x2] sz) (va_Qi Q (zB dC dI cI cJ cS (va_A (cl_X11 cI cJ a u) sz) (fun z => cl_X11 cI cJ a z)) (va_A (cl_X11 cI cJ a u) sz)) 0 0 (va_A (cl_X11 cI cJ a u) sz) := L_X11_key l dC dI cI cJ cS a u x1 x2 Q (st_X11_key hf)
