def t_X11_pick0_e (u : zModel) (x1 : Int32) (K70 : Int32 → Int32 → zModel → Prop) (Q : Int32 → zModel → Prop) : Prop := vp_in (8 : Int32) 5497 ∧ (((u.2.1 (8 : Int32).toNatClampNeg) = (-1 : Int32) → ((¬ x1 = (-1 : Int32) → ((x1 = (-1 : Int32) → Q (4 : Int32) u) ∧ (¬ x1 = (-1 : Int32) → s_X11_segmentAt u x1 (0 : Int32) (fun r_4 : Int32 => ((r_4 = (2 : Int32) → vp_in (8 : Int32) 5497 ∧ ∀ f_6 : Nat → Int32, f_6 = upd u.2.1 (8 : Int32).toNatClampNeg x1 → vp_in (10 : Int32) 5497 ∧ ∀ f_7 : Nat → Int32, f_7 = upd f_6 (10 : Int32).toNatClampNeg (0 : Int32) → vp_in (9 : Int32) 5497 ∧ ∀ f_8 : Nat → Int32, f_8 = upd f_7 (9 : Int32).toNatClampNeg (0 : Int32) → K70 x1 (0 : Int32) (u.1, f_8, u.2.2)) ∧ (¬ r_4 = (2 : Int32) → Q (4 : Int32) u)))))) ∧ (x1 = (-1 : Int32) → s_X11_poorest u (fun r_10 : Int32 => ((r_10 = (-1 : Int32) → Q (4 : Int32) u) ∧ (¬ r_10 = (-1 : Int32) → s_X11_segmentAt u r_10 (0 : Int32) (fun r_12 : Int32 => ((r_12 = (2 : Int32) → vp_in (8 : Int32) 5497 ∧ ∀ f_14 : Nat → Int32, f_14 = upd u.2.1 (8 : Int32).toNatClampNeg r_10 → vp_in (10 : Int32) 5497 ∧ ∀ f_15 : Nat → Int32, f_15 = upd f_14 (10 : Int32).toNatClampNeg (0 : Int32) → vp_in (9 : Int32) 5497 ∧ ∀ f_16 : Nat → Int32, f_16 = upd f_15 (9 : Int32).toNatClampNeg (0 : Int32) → K70 r_10 (0 : Int32) (u.1, f_16, u.2.2)) ∧ (¬ r_12 = (2 : Int32) → Q (4 : Int32) u))))))))) ∧ (¬ (u.2.1 (8 : Int32).toNatClampNeg) = (-1 : Int32) → Q (3 : Int32) u))
def t_X11_pick0_70 (x1 : Int32) (y2 : Int32) (y3 : Int32) (z : zModel) (K70 : Int32 → Int32 → zModel → Prop) (Q : Int32 → zModel → Prop) : Prop := s_X11_segmentAt z y2 (1 : Int32) (fun r_18 : Int32 => ((r_18 ≤ y3 → Q (0 : Int32) z) ∧ (¬ r_18 ≤ y3 → s_X11_isLive z y2 y3 (fun r_20 : Int32 => ((¬ r_20 = 0 → vp_in (9 : Int32) 5497 ∧ vp_in ((16 : Int32) + (z.2.1 (9 : Int32).toNatClampNeg)) 5497 ∧ ∀ f_22 : Nat → Int32, f_22 = upd z.2.1 ((16 : Int32) + (z.2.1 (9 : Int32).toNatClampNeg)).toNatClampNeg y3 → vp_in (9 : Int32) 5497 ∧ vp_in (9 : Int32) 5497 ∧ ∀ f_23 : Nat → Int32, f_23 = upd f_22 (9 : Int32).toNatClampNeg ((f_22 (9 : Int32).toNatClampNeg) + (1 : Int32)) → ∀ x_24 : Int32, x_24 = y3 + (1 : Int32) → K70 y2 x_24 (z.1, f_23, z.2.2)) ∧ (r_20 = 0 → ∀ x_26 : Int32, x_26 = y3 + (1 : Int32) → K70 y2 x_26 z))))))
theorem zc_X11_pick0 : zCalV RX11 yX11_pick0 cX11_pick0 4 (some .int) 1 := ⟨q_im_X11_pick0, q_se_X11_pick0, q_in_X11, q_cd_X11_pick0, ⟨by decide, by decide, by decide +kernel⟩, rfl⟩
abbrev rm_X11_pick0 : Room := { frames := 7, cells := 0, slots := 0, locals := 157 }
def v_X11_pick0 (u : zModel) (x1 : Int32) (Q : Int32 → zModel → Prop) : Prop := ∃ I70 : Nat → Int32 → Int32 → zModel → Prop, (∀ (n : Nat) (y2 : Int32) (y3 : Int32) (z : zModel), I70 n y2 y3 z → t_X11_pick0_70 x1 y2 y3 z (fun q0 q1 q2 => ∃ k : Nat, k < n ∧ I70 k q0 q1 q2) Q) ∧ t_X11_pick0_e u x1 (fun q0 q1 q2 => ∃ k : Nat, I70 k q0 q1 q2) Q
set_option maxHeartbeats 4000000 in
set_option maxRecDepth 100000 in
theorem L_X11_pick0 (l : Launch) (dC : Nat → ClassId) (dI : Nat → Nat → Nat) (cI cJ cS : ClassId) (a : Nat → Nat) (u : zModel) (x1 : Int32) (Q : Int32 → zModel → Prop) (I70 : Nat → Int32 → Int32 → zModel → Prop) (h70 : ∀ (n : Nat) (y2 : Int32) (y3 : Int32) (z : zModel), I70 n y2 y3 z → t_X11_pick0_70 x1 y2 y3 z (fun q0 q1 q2 => ∃ k : Nat, k < n ∧ I70 k q0 q1 q2) Q) (hf : t_X11_pick0_e u x1 (fun q0 q1 q2 => ∃ k : Nat, I70 k q0 q1 q2) Q) : ∀ sz : Nat, Met l yX11_pick0 (Cond.code yX11_pick0 cX11_pick0 4 (some .int) :: zT) rm_X11_pick0 (zPm dC dI cI cJ cS (cl_X11 cI cJ a u) [.ref (a 0), .int x1] sz) (va_Qi Q (zB dC dI cI cJ cS (va_A (cl_X11 cI cJ a u) sz) (fun z => cl_X11 cI cJ a z)) (va_A (cl_X11 cI cJ a u) sz)) 0 0 (va_A (cl_X11 cI cJ a u) sz) := by
  intro sz
  refine z_enterM (Qc := fun A => va_Qi Q (zB dC dI cI cJ cS A (fun z => cl_X11 cI cJ a z)) A) (cc := cX11_pick0) (maxL := 4) (ret := (some .int)) (by decide) (Nat.le_of_ble_eq_true rfl) ?_
  intro p e s m below meth c ls A X hP hD hS hA hl
  obtain ⟨⟨hx, hb, hml, hown, hts⟩, hr, hlk, hK⟩ := id X
  have hl : lv_has ls 4 [(0, .ref (a 0)), (1, .int x1)] := hl
  have LP : ∀ n : Nat, (∀ (y2 : Int32) (y3 : Int32) (z : zModel) (H : Heap) (locs : List Loc) (ls : Array Slot), I70 n y2 y3 z → va_P (dC, dI) vwCl (cl_X11 cI cJ a z) H → va_D A (cl_X11 cI cJ a z) → va_S A s.heap H locs → lv_has ls 4 [(0, .ref (a 0)), (1, .int x1), (2, .int y2), (3, .int y3)] → W p l e rm_X11_pick0 s m [.ref (a 0), .int x1].toArray below meth c H locs 0 0 (MQ below (va_Qi Q (zB dC dI cI cJ cS A (fun z => cl_X11 cI cJ a z)) A) [.ref (a 0), .int x1].toArray s 0 0 A) (F0 m 70 ls [])) := by
    intro n
    induction n using Nat.strongRecOn with
    | _ n ih =>
      intro y2 y3 z H locs ls hI hP hD hS hl
      have hf := h70 n y2 y3 z hI
      unfold t_X11_pick0_70 at hf
      refine lv_iload_n hx hb dX11_pick0_70 rfl (lv_at hl 3 rfl) ?_
      refine lv_aload_n hx hb dX11_pick0_71 rfl (lv_at hl 0 rfl) ?_
      refine lv_iload_n hx hb dX11_pick0_72 rfl (lv_at hl 2 rfl) ?_
      refine lv_iconst (v := 1) hx hb dX11_pick0_73 (by decide) ?_
      refine z_cVi (As := [.int y2, .int (1 : Int32)]) (rest := [.int y3]) X (c_X11_segmentAt l dC dI cI cJ cS a z y2 (1 : Int32) _ hf) zc_X11_segmentAt q_ml_X11_53 ⟨rfl, rfl⟩ ⟨Nat.le_of_ble_eq_true rfl, Nat.le_of_ble_eq_true rfl⟩ hP [0, 1, 2, 3, 4, 5, 6, 7, 8] rfl 10 rfl rfl hl.1 rfl rfl (Nat.le_of_ble_eq_true rfl) ⟨Nat.zero_le _, Nat.zero_le _⟩ dX11_pick0_74 (fun r_18 hf => ?_)
      refine lv_icmp_ge (tgt := 125) hx hb dX11_pick0_77 (by decide) (fun c_19 => ?_) (fun c_19 => ?_)
      · have hf := hf.1 c_19
        refine lv_iconst (v := 0) hx hb dX11_pick0_125 (by decide) ?_
        exact z_retMi (Wf := (fun z => cl_X11 cI cJ a z)) (u := z) X hf hP hD hS dX11_pick0_126
      · have hf := hf.2 c_19
        refine lv_aload_n hx hb dX11_pick0_80 rfl (lv_at hl 0 rfl) ?_
        refine lv_iload_n hx hb dX11_pick0_81 rfl (lv_at hl 2 rfl) ?_
        refine lv_iload_n hx hb dX11_pick0_82 rfl (lv_at hl 3 rfl) ?_
        refine z_cVi (As := [.int y2, .int y3]) (rest := []) X (c_X11_isLive l dC dI cI cJ cS a z y2 y3 _ hf) zc_X11_isLive q_ml_X11_88 ⟨rfl, rfl⟩ ⟨Nat.le_of_ble_eq_true rfl, Nat.le_of_ble_eq_true rfl⟩ hP [0, 1, 2, 3, 4, 5, 6, 7, 8] rfl 10 rfl rfl hl.1 rfl rfl (Nat.le_of_ble_eq_true rfl) ⟨Nat.zero_le _, Nat.zero_le _⟩ dX11_pick0_83 (fun r_20 hf => ?_)
        obtain ⟨hbr_20, hf⟩ := hf
        refine lv_if_ne (tgt := 92) hx hb dX11_pick0_86 (by decide) (fun c_21 => ?_) (fun c_21 => ?_)
        · have hf := hf.1 c_21
          refine lv_aload_n hx hb dX11_pick0_92 rfl (lv_at hl 0 rfl) ?_
          refine va_get (D := (dC, dI)) (ci := 10) (v := .ref (a 1)) (C := RX11) (T := TX11) (N := 17) hx hb hts inX11 hown hK hP 0 rfl rfl 1 (by decide) (hts _ q_fl_X11_7) (fun _ h9 => h9) rfl dX11_pick0_93 ?_
          refine lv_bipush (v := 16) hx hb dX11_pick0_96 (by decide) ?_
          refine lv_aload_n hx hb dX11_pick0_98 rfl (lv_at hl 0 rfl) ?_
          refine va_get (D := (dC, dI)) (ci := 10) (v := .ref (a 1)) (C := RX11) (T := TX11) (N := 17) hx hb hts inX11 hown hK hP 0 rfl rfl 1 (by decide) (hts _ q_fl_X11_7) (fun _ h9 => h9) rfl dX11_pick0_99 ?_
          refine lv_bipush (v := 9) hx hb dX11_pick0_102 (by decide) ?_
          obtain ⟨hg, hf⟩ := hf
          refine va_iald hx hb hK hP 1 0 rfl rfl hg dX11_pick0_104 ?_
          refine lv_iadd hx hb dX11_pick0_105 ?_
          refine lv_iload_n hx hb dX11_pick0_106 rfl (lv_at hl 3 rfl) ?_
          obtain ⟨hg, hf⟩ := hf
          refine z_iast (Wn := fun f_22 => cl_X11 cI cJ a (z.1, f_22, z.2.2)) X hP hD hS 1 0 rfl rfl hg (fun _ => rfl) dX11_pick0_107 (fun f_22 H locs ef_22 hP hD hS => ?_)
          have hf := hf f_22 ef_22
          refine lv_aload_n hx hb dX11_pick0_108 rfl (lv_at hl 0 rfl) ?_
          refine va_get (D := (dC, dI)) (ci := 10) (v := .ref (a 1)) (C := RX11) (T := TX11) (N := 17) hx hb hts inX11 hown hK hP 0 rfl rfl 1 (by decide) (hts _ q_fl_X11_7) (fun _ h9 => h9) rfl dX11_pick0_109 ?_
          refine lv_bipush (v := 9) hx hb dX11_pick0_112 (by decide) ?_
          refine lv_dup2_11 hx hb dX11_pick0_114 rfl rfl ?_
          obtain ⟨hg, hf⟩ := hf
          refine va_iald hx hb hK hP 1 0 rfl rfl hg dX11_pick0_115 ?_
          refine lv_iconst (v := 1) hx hb dX11_pick0_116 (by decide) ?_
          refine lv_iadd hx hb dX11_pick0_117 ?_
          obtain ⟨hg, hf⟩ := hf
          refine z_iast (Wn := fun f_23 => cl_X11 cI cJ a (z.1, f_23, z.2.2)) X hP hD hS 1 0 rfl rfl hg (fun _ => rfl) dX11_pick0_118 (fun f_23 H locs ef_23 hP hD hS => ?_)
          have hf := hf f_23 ef_23
          obtain ⟨x_24, ex_24⟩ : ∃ y : Int32, y = y3 + (1 : Int32) := ⟨_, rfl⟩
          have hf := hf x_24 ex_24
          refine lv_iinc (v := x_24) (lv' := [(3, .int x_24), (0, .ref (a 0)), (1, .int x1), (2, .int y2)]) hx hb dX11_pick0_119 hl (k := 3) rfl (by rw [ex_24]; rfl) (by decide) rfl (fun ls hl => ?_)
          refine lv_goto (tgt := 70) hx hb dX11_pick0_122 (by decide) ?_
          obtain ⟨k_25, hk_25, hf⟩ := hf
          exact (ih k_25 hk_25) _ _ (z.1, f_23, z.2.2) _ _ ls hf hP hD hS (lv_sub hl [1, 2, 3, 0] rfl)
        · have hf := hf.2 c_21
          refine lv_goto (tgt := 119) hx hb dX11_pick0_89 (by decide) ?_
          obtain ⟨x_26, ex_26⟩ : ∃ y : Int32, y = y3 + (1 : Int32) := ⟨_, rfl⟩
          have hf := hf x_26 ex_26
          refine lv_iinc (v := x_26) (lv' := [(3, .int x_26), (0, .ref (a 0)), (1, .int x1), (2, .int y2)]) hx hb dX11_pick0_119 hl (k := 3) rfl (by rw [ex_26]; rfl) (by decide) rfl (fun ls hl => ?_)
          refine lv_goto (tgt := 70) hx hb dX11_pick0_122 (by decide) ?_
          obtain ⟨k_27, hk_27, hf⟩ := hf
          exact (ih k_27 hk_27) _ _ z _ _ ls hf hP hD hS (lv_sub hl [1, 2, 3, 0] rfl)
  unfold t_X11_pick0_e at hf
  refine lv_aload_n hx hb dX11_pick0_0 rfl (lv_at hl 0 rfl) ?_
  refine va_get (D := (dC, dI)) (ci := 10) (v := .ref (a 1)) (C := RX11) (T := TX11) (N := 17) hx hb hts inX11 hown hK hP 0 rfl rfl 1 (by decide) (hts _ q_fl_X11_7) (fun _ h9 => h9) rfl dX11_pick0_1 ?_
  refine lv_bipush (v := 8) hx hb dX11_pick0_4 (by decide) ?_
  obtain ⟨hg, hf⟩ := hf
  refine va_iald hx hb hK hP 1 0 rfl rfl hg dX11_pick0_6 ?_
  refine lv_iconst (v := (-1)) hx hb dX11_pick0_7 (by decide) ?_
  refine lv_icmp_eq (tgt := 13) hx hb dX11_pick0_8 (by decide) (fun c_1 => ?_) (fun c_1 => ?_)
  · have hf := hf.1 c_1
    refine lv_iload_n hx hb dX11_pick0_13 rfl (lv_at hl 1 rfl) ?_
    refine lv_iconst (v := (-1)) hx hb dX11_pick0_14 (by decide) ?_
    refine lv_icmp_ne (tgt := 25) hx hb dX11_pick0_15 (by decide) (fun c_2 => ?_) (fun c_2 => ?_)
    · have hf := hf.1 c_2
      refine lv_iload_n hx hb dX11_pick0_25 rfl (lv_at hl 1 rfl) ?_
      refine lv_istore_n (lv' := [(2, .int x1), (0, .ref (a 0)), (1, .int x1)]) hx hb dX11_pick0_26 rfl hl (by decide) rfl (fun ls hl => ?_)
      refine lv_iload_n hx hb dX11_pick0_27 rfl (lv_at hl 0 rfl) ?_
      refine lv_iconst (v := (-1)) hx hb dX11_pick0_28 (by decide) ?_
      refine lv_icmp_eq (tgt := 42) hx hb dX11_pick0_29 (by decide) (fun c_3 => ?_) (fun c_3 => ?_)
      · have hf := hf.1 c_3
        refine lv_iconst (v := 4) hx hb dX11_pick0_42 (by decide) ?_
        exact z_retMi (Wf := (fun z => cl_X11 cI cJ a z)) (u := u) X hf hP hD hS dX11_pick0_43
      · have hf := hf.2 c_3
        refine lv_aload_n hx hb dX11_pick0_32 rfl (lv_at hl 1 rfl) ?_
        refine lv_iload_n hx hb dX11_pick0_33 rfl (lv_at hl 0 rfl) ?_
        refine lv_iconst (v := 0) hx hb dX11_pick0_34 (by decide) ?_
        refine z_cVi (As := [.int x1, .int (0 : Int32)]) (rest := []) X (c_X11_segmentAt l dC dI cI cJ cS a u x1 (0 : Int32) _ hf) zc_X11_segmentAt q_ml_X11_53 ⟨rfl, rfl⟩ ⟨Nat.le_of_ble_eq_true rfl, Nat.le_of_ble_eq_true rfl⟩ hP [0, 1, 2, 3, 4, 5, 6, 7, 8] rfl 10 rfl rfl hl.1 rfl rfl (Nat.le_of_ble_eq_true rfl) ⟨Nat.zero_le _, Nat.zero_le _⟩ dX11_pick0_35 (fun r_4 hf => ?_)
        refine lv_iconst (v := 2) hx hb dX11_pick0_38 (by decide) ?_
        refine lv_icmp_eq (tgt := 44) hx hb dX11_pick0_39 (by decide) (fun c_5 => ?_) (fun c_5 => ?_)
        · have hf := hf.1 c_5
          refine lv_aload_n hx hb dX11_pick0_44 rfl (lv_at hl 1 rfl) ?_
          refine va_get (D := (dC, dI)) (ci := 10) (v := .ref (a 1)) (C := RX11) (T := TX11) (N := 17) hx hb hts inX11 hown hK hP 0 rfl rfl 1 (by decide) (hts _ q_fl_X11_7) (fun _ h9 => h9) rfl dX11_pick0_45 ?_
          refine lv_bipush (v := 8) hx hb dX11_pick0_48 (by decide) ?_
          refine lv_iload_n hx hb dX11_pick0_50 rfl (lv_at hl 0 rfl) ?_
          obtain ⟨hg, hf⟩ := hf
          refine z_iast (Wn := fun f_6 => cl_X11 cI cJ a (u.1, f_6, u.2.2)) X hP hD hS 1 0 rfl rfl hg (fun _ => rfl) dX11_pick0_51 (fun f_6 H locs ef_6 hP hD hS => ?_)
          have hf := hf f_6 ef_6
          refine lv_aload_n hx hb dX11_pick0_52 rfl (lv_at hl 1 rfl) ?_
          refine va_get (D := (dC, dI)) (ci := 10) (v := .ref (a 1)) (C := RX11) (T := TX11) (N := 17) hx hb hts inX11 hown hK hP 0 rfl rfl 1 (by decide) (hts _ q_fl_X11_7) (fun _ h9 => h9) rfl dX11_pick0_53 ?_
          refine lv_bipush (v := 10) hx hb dX11_pick0_56 (by decide) ?_
          refine lv_iconst (v := 0) hx hb dX11_pick0_58 (by decide) ?_
          obtain ⟨hg, hf⟩ := hf
          refine z_iast (Wn := fun f_7 => cl_X11 cI cJ a (u.1, f_7, u.2.2)) X hP hD hS 1 0 rfl rfl hg (fun _ => rfl) dX11_pick0_59 (fun f_7 H locs ef_7 hP hD hS => ?_)
          have hf := hf f_7 ef_7
          refine lv_aload_n hx hb dX11_pick0_60 rfl (lv_at hl 1 rfl) ?_
          refine va_get (D := (dC, dI)) (ci := 10) (v := .ref (a 1)) (C := RX11) (T := TX11) (N := 17) hx hb hts inX11 hown hK hP 0 rfl rfl 1 (by decide) (hts _ q_fl_X11_7) (fun _ h9 => h9) rfl dX11_pick0_61 ?_
          refine lv_bipush (v := 9) hx hb dX11_pick0_64 (by decide) ?_
          refine lv_iconst (v := 0) hx hb dX11_pick0_66 (by decide) ?_
          obtain ⟨hg, hf⟩ := hf
          refine z_iast (Wn := fun f_8 => cl_X11 cI cJ a (u.1, f_8, u.2.2)) X hP hD hS 1 0 rfl rfl hg (fun _ => rfl) dX11_pick0_67 (fun f_8 H locs ef_8 hP hD hS => ?_)
          have hf := hf f_8 ef_8
          refine lv_iconst (v := 0) hx hb dX11_pick0_68 (by decide) ?_
          refine lv_istore_n (lv' := [(3, .int (0 : Int32)), (2, .int x1), (0, .ref (a 0)), (1, .int x1)]) hx hb dX11_pick0_69 rfl hl (by decide) rfl (fun ls hl => ?_)
          obtain ⟨k_9, hf⟩ := hf
          exact (LP k_9) _ _ (u.1, f_8, u.2.2) _ _ ls hf hP hD hS (lv_sub hl [2, 3, 1, 0] rfl)
        · have hf := hf.2 c_5
          refine lv_iconst (v := 4) hx hb dX11_pick0_42 (by decide) ?_
          exact z_retMi (Wf := (fun z => cl_X11 cI cJ a z)) (u := u) X hf hP hD hS dX11_pick0_43
    · have hf := hf.2 c_2
      refine lv_aload_n hx hb dX11_pick0_18 rfl (lv_at hl 0 rfl) ?_
      refine z_cVi (As := []) (rest := []) X (c_X11_poorest l dC dI cI cJ cS a u  _ hf) zc_X11_poorest q_ml_X11_134 ⟨rfl, rfl⟩ ⟨Nat.le_of_ble_eq_true rfl, Nat.le_of_ble_eq_true rfl⟩ hP [0, 1, 2, 3, 4, 5, 6, 7, 8] rfl 10 rfl rfl hl.1 rfl rfl (Nat.le_of_ble_eq_true rfl) ⟨Nat.zero_le _, Nat.zero_le _⟩ dX11_pick0_19 (fun r_10 hf => ?_)
      refine lv_goto (tgt := 26) hx hb dX11_pick0_22 (by decide) ?_
      refine lv_istore_n (lv' := [(2, .int r_10), (0, .ref (a 0)), (1, .int x1)]) hx hb dX11_pick0_26 rfl hl (by decide) rfl (fun ls hl => ?_)
      refine lv_iload_n hx hb dX11_pick0_27 rfl (lv_at hl 0 rfl) ?_
      refine lv_iconst (v := (-1)) hx hb dX11_pick0_28 (by decide) ?_
      refine lv_icmp_eq (tgt := 42) hx hb dX11_pick0_29 (by decide) (fun c_11 => ?_) (fun c_11 => ?_)
      · have hf := hf.1 c_11
        refine lv_iconst (v := 4) hx hb dX11_pick0_42 (by decide) ?_
        exact z_retMi (Wf := (fun z => cl_X11 cI cJ a z)) (u := u) X hf hP hD hS dX11_pick0_43
      · have hf := hf.2 c_11
        refine lv_aload_n hx hb dX11_pick0_32 rfl (lv_at hl 1 rfl) ?_
        refine lv_iload_n hx hb dX11_pick0_33 rfl (lv_at hl 0 rfl) ?_
        refine lv_iconst (v := 0) hx hb dX11_pick0_34 (by decide) ?_
        refine z_cVi (As := [.int r_10, .int (0 : Int32)]) (rest := []) X (c_X11_segmentAt l dC dI cI cJ cS a u r_10 (0 : Int32) _ hf) zc_X11_segmentAt q_ml_X11_53 ⟨rfl, rfl⟩ ⟨Nat.le_of_ble_eq_true rfl, Nat.le_of_ble_eq_true rfl⟩ hP [0, 1, 2, 3, 4, 5, 6, 7, 8] rfl 10 rfl rfl hl.1 rfl rfl (Nat.le_of_ble_eq_true rfl) ⟨Nat.zero_le _, Nat.zero_le _⟩ dX11_pick0_35 (fun r_12 hf => ?_)
        refine lv_iconst (v := 2) hx hb dX11_pick0_38 (by decide) ?_
        refine lv_icmp_eq (tgt := 44) hx hb dX11_pick0_39 (by decide) (fun c_13 => ?_) (fun c_13 => ?_)
        · have hf := hf.1 c_13
          refine lv_aload_n hx hb dX11_pick0_44 rfl (lv_at hl 1 rfl) ?_
          refine va_get (D := (dC, dI)) (ci := 10) (v := .ref (a 1)) (C := RX11) (T := TX11) (N := 17) hx hb hts inX11 hown hK hP 0 rfl rfl 1 (by decide) (hts _ q_fl_X11_7) (fun _ h9 => h9) rfl dX11_pick0_45 ?_
          refine lv_bipush (v := 8) hx hb dX11_pick0_48 (by decide) ?_
          refine lv_iload_n hx hb dX11_pick0_50 rfl (lv_at hl 0 rfl) ?_
          obtain ⟨hg, hf⟩ := hf
          refine z_iast (Wn := fun f_14 => cl_X11 cI cJ a (u.1, f_14, u.2.2)) X hP hD hS 1 0 rfl rfl hg (fun _ => rfl) dX11_pick0_51 (fun f_14 H locs ef_14 hP hD hS => ?_)
          have hf := hf f_14 ef_14
          refine lv_aload_n hx hb dX11_pick0_52 rfl (lv_at hl 1 rfl) ?_
          refine va_get (D := (dC, dI)) (ci := 10) (v := .ref (a 1)) (C := RX11) (T := TX11) (N := 17) hx hb hts inX11 hown hK hP 0 rfl rfl 1 (by decide) (hts _ q_fl_X11_7) (fun _ h9 => h9) rfl dX11_pick0_53 ?_
          refine lv_bipush (v := 10) hx hb dX11_pick0_56 (by decide) ?_
          refine lv_iconst (v := 0) hx hb dX11_pick0_58 (by decide) ?_
          obtain ⟨hg, hf⟩ := hf
          refine z_iast (Wn := fun f_15 => cl_X11 cI cJ a (u.1, f_15, u.2.2)) X hP hD hS 1 0 rfl rfl hg (fun _ => rfl) dX11_pick0_59 (fun f_15 H locs ef_15 hP hD hS => ?_)
          have hf := hf f_15 ef_15
          refine lv_aload_n hx hb dX11_pick0_60 rfl (lv_at hl 1 rfl) ?_
          refine va_get (D := (dC, dI)) (ci := 10) (v := .ref (a 1)) (C := RX11) (T := TX11) (N := 17) hx hb hts inX11 hown hK hP 0 rfl rfl 1 (by decide) (hts _ q_fl_X11_7) (fun _ h9 => h9) rfl dX11_pick0_61 ?_
          refine lv_bipush (v := 9) hx hb dX11_pick0_64 (by decide) ?_
          refine lv_iconst (v := 0) hx hb dX11_pick0_66 (by decide) ?_
          obtain ⟨hg, hf⟩ := hf
          refine z_iast (Wn := fun f_16 => cl_X11 cI cJ a (u.1, f_16, u.2.2)) X hP hD hS 1 0 rfl rfl hg (fun _ => rfl) dX11_pick0_67 (fun f_16 H locs ef_16 hP hD hS => ?_)
          have hf := hf f_16 ef_16
          refine lv_iconst (v := 0) hx hb dX11_pick0_68 (by decide) ?_
          refine lv_istore_n (lv' := [(3, .int (0 : Int32)), (2, .int r_10), (0, .ref (a 0)), (1, .int x1)]) hx hb dX11_pick0_69 rfl hl (by decide) rfl (fun ls hl => ?_)
          obtain ⟨k_17, hf⟩ := hf
          exact (LP k_17) _ _ (u.1, f_16, u.2.2) _ _ ls hf hP hD hS (lv_sub hl [2, 3, 1, 0] rfl)
        · have hf := hf.2 c_13
          refine lv_iconst (v := 4) hx hb dX11_pick0_42 (by decide) ?_
          exact z_retMi (Wf := (fun z => cl_X11 cI cJ a z)) (u := u) X hf hP hD hS dX11_pick0_43
  · have hf := hf.2 c_1
    refine lv_iconst (v := 3) hx hb dX11_pick0_11 (by decide) ?_
    exact z_retMi (Wf := (fun z => cl_X11 cI cJ a z)) (u := u) X hf hP hD hS dX11_pick0_12
/-- the segment that PICK takes; -1 of none -/
def uSel (v : zState) (x : Int32) : Int32 := if x = -1 then (uPoor v 12).1 else x
theorem uSel_ok (v : zState) {x : Int32} (h : x = -1 ∨ ∃ s : Nat, s < 12 ∧ x = nI s) : uSel v x = -1 ∨ ∃ s : Nat, s < 12 ∧ uSel v x = nI s := by
  unfold uSel
  rcases h with rfl | ⟨s, hs, rfl⟩
  · rw [if_pos rfl]
    rcases uPoor_ok v 12 (Nat.le_refl _) with q | ⟨s, a, b, -⟩
    · exact Or.inl q
    · exact Or.inr ⟨s, a, b⟩
  · rw [if_neg (n_neg (by omega))]; exact Or.inr ⟨s, hs, rfl⟩
theorem zPw.cl {ρ β mo lm L S M B : Nat} {v : zState} {c : zColl} (h : zPw ρ β mo lm L S M B v) (hc : ColW c) : zPw ρ β mo lm L S M B (uCl v c) := by
  obtain ⟨h1, h2, h3, h4, h5, hg, ht, hR, hL, hC, hD, hT⟩ := h
  exact ⟨h1, h2, h3, h4, h5, hg, ht, hR, hL, hc, hD, hT⟩
theorem mRel.coll {v : zState} {c : zColl} {m m' : Nat → Int32} (h : mRel v m) (e8 : m' 8 = c.2.1) (e9 : m' 9 = c.2.2.1) (e10 : m' 10 = c.2.2.2) (hn : mNo c v.2.2.1 m') (hj : ∀ j, ¬ (8 ≤ j ∧ j ≤ 10) → ¬ (16 ≤ j ∧ j < 66) → m' j = m j) : mRel (uCl v c) m' := by
  obtain ⟨rT, rS, rR, rE, rN', rL⟩ := mRel_iff.mp h
  refine mRel_iff.mpr ⟨lt16 ?_ ?_ ?_ ?_ ?_ ?_ ?_ ?_ ?_ ?_ ?_ ?_ ?_ ?_ ?_ ?_, ?_, ?_, ?_, hn, ?_⟩
  all_goals try exact (hj _ (by decide) (by decide)).trans (rT _ (by decide))
  · exact e8
  · exact e9
  · exact e10
  · exact fun s w hs hw => (hj _ (by omega) (by omega)).trans (rS s w hs hw)
  · exact fun s k w hs hk hw => (hj _ (by omega) (by omega)).trans (rR s k w hs hk hw)
  · exact fun l k hl hk => (rE l k hl hk).cg (fun w hw => hj _ (by omega) (by omega))
  · exact ⟨(hj _ (by omega) (by omega)).trans rL.1, fun i hi => (hj _ (by omega) (by omega)).trans (rL.2 i hi)⟩
/-- the collection behind i records looked at -/
def uNc (v : zState) (s i : Nat) : zColl := ((uNt v s i).1, nI s, nI (uNt v s i).2, 0)
theorem uNc_w (v : zState) {s i : Nat} (hi : i ≤ 50) : ColW (uNc v s i) ∧ wN (uNc v s i) = (uNt v s i).2 := by
  have hle := uNt_le v s i
  have e : wN (uNc v s i) = (uNt v s i).2 := nI_clamp (n := (uNt v s i).2) (by omega)
  exact ⟨⟨⟨by rw [e]; rfl, by rw [e]; omega⟩, ⟨rfl, Nat.zero_le _⟩⟩, e⟩
def s_X11_pick0 (u : zModel) (x1 : Int32) (Q : Int32 → zModel → Prop) : Prop := ∃ (v : zState) (ρ β mo lm L S M B : Nat), zP ρ β mo lm L S M B v ∧ mRel v u.2.1 ∧ (x1 = -1 ∨ ∃ s : Nat, s < 12 ∧ x1 = nI s) ∧ (∀ s : Nat, s < 12 → uSel v x1 = nI s → uRp v (uSel v x1) = 0 → ∀ m' : Nat → Int32, mRel (uNote v s) m' → Q 0 (u.1, m', u.2.2)) ∧ (¬ uRp v (uSel v x1) = 0 → Q (uRp v (uSel v x1)) u)
theorem st_X11_pick0 {u : zModel} {x1 : Int32} {Q : Int32 → zModel → Prop} (h : s_X11_pick0 u x1 Q) : v_X11_pick0 u x1 Q := by
  obtain ⟨v, ρ, β, mo, lm, L, S, M, B, hP, hr, hx, hQ0, hQ1⟩ := h
  have hm : mOk v u.2.1 := mOk.of hP hr
  have hg := hP.2.2.2.2.2.1
  have m8 : u.2.1 8 = v.2.2.2.2.1.2.1 := hr.1 8 (by decide)
  have hsel := uSel_ok v hx
  generalize hX : uSel v x1 = X at hsel hQ0 hQ1
  refine ⟨fun n y2 y3 z => ∃ (s i : Nat) (mm : Nat → Int32), s < 12 ∧ X = nI s ∧ uRp v X = 0 ∧ i ≤ gN v.2.2.1 s ∧ n = gN v.2.2.1 s - i ∧ y2 = nI s ∧ y3 = nI i ∧ z = (u.1, mm, u.2.2) ∧ mm 8 = nI s ∧ mm 9 = nI (uNt v s i).2 ∧ mm 10 = 0 ∧ mNo (uNc v s i) v.2.2.1 mm ∧ ∀ j, ¬ (8 ≤ j ∧ j ≤ 10) → ¬ (16 ≤ j ∧ j < 66) → mm j = u.2.1 j, ?_, ?_⟩
  · rintro n y2 y3 z ⟨s, i, mm, hs, eX, h0, hi, rfl, rfl, rfl, rfl, q8, q9, q10, qn, qj⟩
    have h50 := (hg.2.1 s hs).2
    obtain ⟨hw, ew⟩ := uNc_w v (s := s) (i := i) (by omega)
    have hle := uNt_le v s i
    have hrel : mRel (uCl v (uNc v s i)) mm := hr.coll q8 q9 q10 qn qj
    have hmok : mOk (uCl v (uNc v s i)) mm := ⟨⟨ρ, β, mo, lm, L, S, M, B, hP.w.cl hw⟩, hrel⟩
    have mN : mm (66 + 3 * s + 1) = nI (gN v.2.2.1 s) := (hrel.2.1 s 1 hs (by decide)).trans (hg.2.1 s hs).1
    refine ⟨s, 1, hs, by decide, rfl, rfl, ?_⟩
    show (mm (66 + 3 * s + 1) ≤ nI i → _) ∧ (¬ mm (66 + 3 * s + 1) ≤ nI i → _)
    rw [mN]
    refine ⟨fun c => ?_, fun c => ?_⟩
    · have : i = gN v.2.2.1 s := by
        have := (nI_leI (by omega) (by omega)).mp c
        omega
      subst this
      exact hQ0 s hs eX h0 mm hrel
    · have hlt : i < gN v.2.2.1 s := by
        have : ¬ gN v.2.2.1 s ≤ i := fun q => c (nI_le q (by omega))
        omega
      have hu : uNt v s (i + 1) = if uLiv v (uRec v s i) then (vp_updL (uNt v s i).1 (uNt v s i).2 (uRec v s i), (uNt v s i).2 + 1) else uNt v s i := rfl
      refine ⟨uCl v (uNc v s i), s, i, hmok, hs, hlt, rfl, rfl, fun hl => ⟨fun _ => ?_, fun q => absurd q (by decide)⟩, fun hl => ⟨fun q => absurd rfl q, fun _ x e => ?_⟩⟩
      · have hl : uLiv v (uRec v s i) = true := hl
        rw [if_pos hl] at hu
        rw [n_c9]
        dsimp only
        rw [q9, show (16 : Int32) + nI (uNt v s i).2 = nI (16 + (uNt v s i).2) from nI_add 16 _, nI_clamp (by omega)]
        refine ⟨vp_in_nI (n := 9) (by decide) (by decide), vp_in_nI (by omega) (by decide), fun f22 e22 => ⟨vp_in_nI (n := 9) (by decide) (by decide), vp_in_nI (n := 9) (by decide) (by decide), fun f23 e23 x e => ⟨gN v.2.2.1 s - (i + 1), by omega, s, i + 1, f23, hs, eX, h0, by omega, rfl, rfl, by rw [e, nI_1], rfl, ?_, ?_, ?_, ?_, ?_⟩⟩⟩
        · rw [e23, up_ne (by decide), e22, up_ne (by omega)]; exact q8
        · rw [e23, up_eq rfl, e22, up_ne (by omega), q9, nI_1, hu]
        · rw [e23, up_ne (by decide), e22, up_ne (by omega)]; exact q10
        · intro hc k hk
          have ew2 : wN (uNc v s (i + 1)) = (uNt v s i).2 + 1 := by rw [(uNc_w v (s := s) (i := i + 1) (by omega)).2, hu]
          rw [ew2] at hk
          have hk31 : (nI s).toNatClampNeg = s := nI_clamp (by omega)
          show ∃ j, j < gN v.2.2.1 (nI s).toNatClampNeg ∧ f23 (16 + k) = nI j ∧ (uNt v s (i + 1)).1 k = v.2.2.1.1 (50 * (nI s).toNatClampNeg + j)
          rw [hu, hk31]
          by_cases hke : k = (uNt v s i).2
          · exact ⟨i, hlt, by rw [e23, up_ne (by omega), e22, up_eq (by omega)], by show vp_updL _ _ _ k = _; unfold vp_updL; rw [if_pos hke]⟩
          · obtain ⟨j, a1, a2, a3⟩ := qn (n_neg (by omega)) k (by rw [ew]; omega)
            have a1 : j < gN v.2.2.1 (nI s).toNatClampNeg := a1
            have a3 : (uNt v s i).1 k = v.2.2.1.1 (50 * (nI s).toNatClampNeg + j) := a3
            rw [hk31] at a1 a3
            exact ⟨j, a1, by rw [e23, up_ne (by omega), e22, up_ne (by omega)]; exact a2, by show vp_updL _ _ _ k = _; unfold vp_updL; rw [if_neg hke]; exact a3⟩
        · intro j a b
          rw [e23, up_ne (by omega), e22, up_ne (by omega)]; exact qj j a b
      · have hl : uLiv v (uRec v s i) = false := hl
        rw [if_neg (by rw [hl]; decide)] at hu
        refine ⟨gN v.2.2.1 s - (i + 1), by omega, s, i + 1, mm, hs, eX, h0, by omega, rfl, rfl, by rw [e, nI_1], rfl, q8, by rw [hu]; exact q9, q10, ?_, qj⟩
        unfold uNc
        rw [hu]; exact qn
  · have go : ∀ s : Nat, s < 12 → X = nI s → uRp v X = 0 → ∀ f6 f7 f8 : Nat → Int32, f6 = upd u.2.1 8 (nI s) → f7 = upd f6 10 0 → f8 = upd f7 9 0 → ∃ k : Nat, ∃ (s' i : Nat) (mm : Nat → Int32), s' < 12 ∧ X = nI s' ∧ uRp v X = 0 ∧ i ≤ gN v.2.2.1 s' ∧ k = gN v.2.2.1 s' - i ∧ nI s = nI s' ∧ (0 : Int32) = nI i ∧ (u.1, f8, u.2.2) = (u.1, mm, u.2.2) ∧ mm 8 = nI s' ∧ mm 9 = nI (uNt v s' i).2 ∧ mm 10 = 0 ∧ mNo (uNc v s' i) v.2.2.1 mm ∧ ∀ j, ¬ (8 ≤ j ∧ j ≤ 10) → ¬ (16 ≤ j ∧ j < 66) → mm j = u.2.1 j := by
      intro s hs eX h0 f6 f7 f8 e6 e7 e8
      refine ⟨gN v.2.2.1 s - 0, s, 0, f8, hs, eX, h0, Nat.zero_le _, rfl, rfl, rfl, rfl, ?_, ?_, ?_, fun hc k hk => ?_, fun j a b => ?_⟩
      · rw [e8, up_ne (by decide), e7, up_ne (by decide), e6, up_eq rfl]
      · rw [e8, up_eq rfl]; rfl
      · rw [e8, up_ne (by decide), e7, up_eq rfl]
      · have : k < (0 : Int32).toNatClampNeg := hk
        rw [n_c0] at this; omega
      · rw [e8, up_ne (by omega), e7, up_ne (by omega), e6, up_ne (by omega)]
    unfold t_X11_pick0_e
    rw [n_c8, n_c9, n_c10, m8]
    refine ⟨vp_in_nI (n := 8) (by decide) (by decide), fun coff => ?_, fun con => ?_⟩
    · have tail : X = (if x1 = -1 then (uPoor v 12).1 else x1) → ((X = (-1 : Int32) → Q (4 : Int32) u) ∧ (¬ X = (-1 : Int32) → s_X11_segmentAt u X (0 : Int32) (fun r_4 : Int32 => ((r_4 = (2 : Int32) → vp_in (8 : Int32) 5497 ∧ ∀ f_6 : Nat → Int32, f_6 = upd u.2.1 8 X → vp_in (10 : Int32) 5497 ∧ ∀ f_7 : Nat → Int32, f_7 = upd f_6 10 (0 : Int32) → vp_in (9 : Int32) 5497 ∧ ∀ f_8 : Nat → Int32, f_8 = upd f_7 9 (0 : Int32) → ∃ k : Nat, ∃ (s' i : Nat) (mm : Nat → Int32), s' < 12 ∧ X = nI s' ∧ uRp v X = 0 ∧ i ≤ gN v.2.2.1 s' ∧ k = gN v.2.2.1 s' - i ∧ X = nI s' ∧ (0 : Int32) = nI i ∧ (u.1, f_8, u.2.2) = (u.1, mm, u.2.2) ∧ mm 8 = nI s' ∧ mm 9 = nI (uNt v s' i).2 ∧ mm 10 = 0 ∧ mNo (uNc v s' i) v.2.2.1 mm ∧ ∀ j, ¬ (8 ≤ j ∧ j ≤ 10) → ¬ (16 ≤ j ∧ j < 66) → mm j = u.2.1 j) ∧ (¬ r_4 = (2 : Int32) → Q (4 : Int32) u))))) := by
        intro _
        unfold uRp at hQ1 go ⊢
        rw [if_pos coff] at hQ1 go ⊢
        refine ⟨fun c => ?_, fun c => ?_⟩
        · rw [if_pos c] at hQ1; exact hQ1 (by decide)
        · rw [if_neg c] at hQ1 go ⊢
          obtain ⟨s, hs, rfl⟩ := hsel.resolve_left c
          rw [nI_clamp (by omega)] at hQ1 go ⊢
          refine ⟨s, 0, hs, by decide, rfl, rfl, ?_⟩
          rw [hr.2.1 s 0 hs (by decide)]
          refine ⟨fun c2 => ⟨vp_in_nI (n := 8) (by decide) (by decide), fun f6 e6 => ⟨vp_in_nI (n := 10) (by decide) (by decide), fun f7 e7 => ⟨vp_in_nI (n := 9) (by decide) (by decide), fun f8 e8 => go s hs rfl (if_pos c2) f6 f7 f8 e6 e7 e8⟩⟩⟩, fun c2 => ?_⟩
          have c2 : ¬ v.2.2.1.2.2.2.1 s = 2 := c2
          rw [if_neg c2] at hQ1; exact hQ1 (by decide)
      unfold uSel at hX
      refine ⟨fun c => ?_, fun c => ?_⟩
      · rw [if_neg c] at hX
        subst hX
        exact tail (by rw [if_neg c])
      · rw [if_pos c] at hX
        refine ⟨v, hm, ?_⟩
        rw [hX]
        exact tail (by rw [if_pos c, hX])
    · unfold uRp at hQ1
      rw [if_neg con] at hQ1; exact hQ1 (by decide)
theorem c_X11_pick0 (l : Launch) (dC : Nat → ClassId) (dI : Nat → Nat → Nat) (cI cJ cS : ClassId) (a : Nat → Nat) (u : zModel) (x1 : Int32) (Q : Int32 → zModel → Prop) (hf : s_X11_pick0 u x1 Q) : ∀ sz : Nat, Met l yX11_pick0 (Cond.code yX11_pick0 cX11_pick0 4 (some .int) :: zT) rm_X11_pick0 (zPm dC dI cI cJ cS (cl_X11 cI cJ a u) [.ref (a 0), .int x1] sz) (va_Qi Q (zB dC dI cI cJ cS (va_A (cl_X11 cI cJ a u) sz) (fun z => cl_X11 cI cJ a z)) (va_A (cl_X11 cI cJ a u) sz)) 0 0 (va_A (cl_X11 cI cJ a u) sz) := by
  obtain ⟨I70, h70, hf⟩ := st_X11_pick0 hf
  exact L_X11_pick0 l dC dI cI cJ cS a u x1 Q I70 h70 hf

def t_X11_step0_e (u : zModel) (x1 : Int32) (K20 : Int32 → zModel → Prop) (Q : Int32 → zModel → Prop) : Prop := vp_in (8 : Int32) 5497 ∧ ((¬ (u.2.1 (8 : Int32).toNatClampNeg) = (-1 : Int32) → K20 (0 : Int32) (u.1, u.2.1, u.2.2.1, u.2.2.2.1, u.2.2.2.2.1, u.2.2.2.2.2.1, u.2.2.2.2.2.2.1, u.2.2.2.2.2.2.2.1, u.2.2.2.2.2.2.2.2.1, u.2.2.2.2.2.2.2.2.2.1, u.2.2.2.2.2.2.2.2.2.2.1, u.2.2.2.2.2.2.2.2.2.2.2.1, u.2.2.2.2.2.2.2.2.2.2.2.2.1, u.2.2.2.2.2.2.2.2.2.2.2.2.2.1, u.2.2.2.2.2.2.2.2.2.2.2.2.2.2.1, u.2.2.2.2.2.2.2.2.2.2.2.2.2.2.2.1, (0 : Int32))) ∧ ((u.2.1 (8 : Int32).toNatClampNeg) = (-1 : Int32) → Q (5 : Int32) (u.1, u.2.1, u.2.2.1, u.2.2.2.1, u.2.2.2.2.1, u.2.2.2.2.2.1, u.2.2.2.2.2.2.1, u.2.2.2.2.2.2.2.1, u.2.2.2.2.2.2.2.2.1, u.2.2.2.2.2.2.2.2.2.1, u.2.2.2.2.2.2.2.2.2.2.1, u.2.2.2.2.2.2.2.2.2.2.2.1, u.2.2.2.2.2.2.2.2.2.2.2.2.1, u.2.2.2.2.2.2.2.2.2.2.2.2.2.1, u.2.2.2.2.2.2.2.2.2.2.2.2.2.2.1, u.2.2.2.2.2.2.2.2.2.2.2.2.2.2.2.1, (0 : Int32))))
def t_X11_step0_20 (x1 : Int32) (y2 : Int32) (z : zModel) (K20 : Int32 → zModel → Prop) (Q : Int32 → zModel → Prop) : Prop := ((x1 ≤ y2 → Q (0 : Int32) z) ∧ (¬ x1 ≤ y2 → vp_in (8 : Int32) 5497 ∧ (((z.2.1 (8 : Int32).toNatClampNeg) = (-1 : Int32) → Q (0 : Int32) z) ∧ (¬ (z.2.1 (8 : Int32).toNatClampNeg) = (-1 : Int32) → s_X11_left z (fun r_5 : Int32 => ((r_5 ≤ 0 → ((¬ (0 : Int32) = (-1 : Int32) → ∀ x_8 : Int32, x_8 = (z.2.2.2.2.2.2.2.2.2.2.2.2.2.2.2.2 + (0 : Int32)) → s_X11_left (z.1, z.2.1, z.2.2.1, z.2.2.2.1, z.2.2.2.2.1, z.2.2.2.2.2.1, z.2.2.2.2.2.2.1, z.2.2.2.2.2.2.2.1, z.2.2.2.2.2.2.2.2.1, z.2.2.2.2.2.2.2.2.2.1, z.2.2.2.2.2.2.2.2.2.2.1, z.2.2.2.2.2.2.2.2.2.2.2.1, z.2.2.2.2.2.2.2.2.2.2.2.2.1, z.2.2.2.2.2.2.2.2.2.2.2.2.2.1, z.2.2.2.2.2.2.2.2.2.2.2.2.2.2.1, z.2.2.2.2.2.2.2.2.2.2.2.2.2.2.2.1, x_8) (fun r_9 : Int32 => ((¬ r_9 = 0 → ∀ x_11 : Int32, x_11 = y2 + (1 : Int32) → K20 x_11 (z.1, z.2.1, z.2.2.1, z.2.2.2.1, z.2.2.2.2.1, z.2.2.2.2.2.1, z.2.2.2.2.2.2.1, z.2.2.2.2.2.2.2.1, z.2.2.2.2.2.2.2.2.1, z.2.2.2.2.2.2.2.2.2.1, z.2.2.2.2.2.2.2.2.2.2.1, z.2.2.2.2.2.2.2.2.2.2.2.1, z.2.2.2.2.2.2.2.2.2.2.2.2.1, z.2.2.2.2.2.2.2.2.2.2.2.2.2.1, z.2.2.2.2.2.2.2.2.2.2.2.2.2.2.1, z.2.2.2.2.2.2.2.2.2.2.2.2.2.2.2.1, x_8)) ∧ (r_9 = 0 → s_X11_ends (z.1, z.2.1, z.2.2.1, z.2.2.2.1, z.2.2.2.2.1, z.2.2.2.2.2.1, z.2.2.2.2.2.2.1, z.2.2.2.2.2.2.2.1, z.2.2.2.2.2.2.2.2.1, z.2.2.2.2.2.2.2.2.2.1, z.2.2.2.2.2.2.2.2.2.2.1, z.2.2.2.2.2.2.2.2.2.2.2.1, z.2.2.2.2.2.2.2.2.2.2.2.2.1, z.2.2.2.2.2.2.2.2.2.2.2.2.2.1, z.2.2.2.2.2.2.2.2.2.2.2.2.2.2.1, z.2.2.2.2.2.2.2.2.2.2.2.2.2.2.2.1, x_8) (fun (u_14 : zModel) => ∀ x_15 : Int32, x_15 = y2 + (1 : Int32) → K20 x_15 u_14))))) ∧ ((0 : Int32) = (-1 : Int32) → ((¬ z.2.2.2.2.2.2.2.2.2.2.2.2.2.2.2.2 = 0 → Q (0 : Int32) z) ∧ (z.2.2.2.2.2.2.2.2.2.2.2.2.2.2.2.2 = 0 → Q (1 : Int32) z))))) ∧ (¬ r_5 ≤ 0 → s_X11_oneNoted z (fun (r_18 : Int32) (u_19 : zModel) => ((¬ r_18 = (-1 : Int32) → ∀ x_21 : Int32, x_21 = (u_19.2.2.2.2.2.2.2.2.2.2.2.2.2.2.2.2 + r_18) → s_X11_left (u_19.1, u_19.2.1, u_19.2.2.1, u_19.2.2.2.1, u_19.2.2.2.2.1, u_19.2.2.2.2.2.1, u_19.2.2.2.2.2.2.1, u_19.2.2.2.2.2.2.2.1, u_19.2.2.2.2.2.2.2.2.1, u_19.2.2.2.2.2.2.2.2.2.1, u_19.2.2.2.2.2.2.2.2.2.2.1, u_19.2.2.2.2.2.2.2.2.2.2.2.1, u_19.2.2.2.2.2.2.2.2.2.2.2.2.1, u_19.2.2.2.2.2.2.2.2.2.2.2.2.2.1, u_19.2.2.2.2.2.2.2.2.2.2.2.2.2.2.1, u_19.2.2.2.2.2.2.2.2.2.2.2.2.2.2.2.1, x_21) (fun r_22 : Int32 => ((¬ r_22 = 0 → ∀ x_24 : Int32, x_24 = y2 + (1 : Int32) → K20 x_24 (u_19.1, u_19.2.1, u_19.2.2.1, u_19.2.2.2.1, u_19.2.2.2.2.1, u_19.2.2.2.2.2.1, u_19.2.2.2.2.2.2.1, u_19.2.2.2.2.2.2.2.1, u_19.2.2.2.2.2.2.2.2.1, u_19.2.2.2.2.2.2.2.2.2.1, u_19.2.2.2.2.2.2.2.2.2.2.1, u_19.2.2.2.2.2.2.2.2.2.2.2.1, u_19.2.2.2.2.2.2.2.2.2.2.2.2.1, u_19.2.2.2.2.2.2.2.2.2.2.2.2.2.1, u_19.2.2.2.2.2.2.2.2.2.2.2.2.2.2.1, u_19.2.2.2.2.2.2.2.2.2.2.2.2.2.2.2.1, x_21)) ∧ (r_22 = 0 → s_X11_ends (u_19.1, u_19.2.1, u_19.2.2.1, u_19.2.2.2.1, u_19.2.2.2.2.1, u_19.2.2.2.2.2.1, u_19.2.2.2.2.2.2.1, u_19.2.2.2.2.2.2.2.1, u_19.2.2.2.2.2.2.2.2.1, u_19.2.2.2.2.2.2.2.2.2.1, u_19.2.2.2.2.2.2.2.2.2.2.1, u_19.2.2.2.2.2.2.2.2.2.2.2.1, u_19.2.2.2.2.2.2.2.2.2.2.2.2.1, u_19.2.2.2.2.2.2.2.2.2.2.2.2.2.1, u_19.2.2.2.2.2.2.2.2.2.2.2.2.2.2.1, u_19.2.2.2.2.2.2.2.2.2.2.2.2.2.2.2.1, x_21) (fun (u_27 : zModel) => ∀ x_28 : Int32, x_28 = y2 + (1 : Int32) → K20 x_28 u_27))))) ∧ (r_18 = (-1 : Int32) → ((¬ u_19.2.2.2.2.2.2.2.2.2.2.2.2.2.2.2.2 = 0 → Q (0 : Int32) u_19) ∧ (u_19.2.2.2.2.2.2.2.2.2.2.2.2.2.2.2.2 = 0 → Q (1 : Int32) u_19))))))))))))
theorem zc_X11_step0 : zCalV RX11 yX11_step0 cX11_step0 4 (some .int) 1 := ⟨q_im_X11_step0, q_se_X11_step0, q_in_X11, q_cd_X11_step0, ⟨by decide, by decide, by decide +kernel⟩, rfl⟩
abbrev rm_X11_step0 : Room := { frames := 7, cells := 0, slots := 0, locals := 156 }
def v_X11_step0 (u : zModel) (x1 : Int32) (Q : Int32 → zModel → Prop) : Prop := ∃ I20 : Nat → Int32 → zModel → Prop, (∀ (n : Nat) (y2 : Int32) (z : zModel), I20 n y2 z → t_X11_step0_20 x1 y2 z (fun q0 q1 => ∃ k : Nat, k < n ∧ I20 k q0 q1) Q) ∧ t_X11_step0_e u x1 (fun q0 q1 => ∃ k : Nat, I20 k q0 q1) Q
set_option maxHeartbeats 4000000 in
set_option maxRecDepth 100000 in
theorem L_X11_step0 (l : Launch) (dC : Nat → ClassId) (dI : Nat → Nat → Nat) (cI cJ cS : ClassId) (a : Nat → Nat) (u : zModel) (x1 : Int32) (Q : Int32 → zModel → Prop) (I20 : Nat → Int32 → zModel → Prop) (h20 : ∀ (n : Nat) (y2 : Int32) (z : zModel), I20 n y2 z → t_X11_step0_20 x1 y2 z (fun q0 q1 => ∃ k : Nat, k < n ∧ I20 k q0 q1) Q) (hf : t_X11_step0_e u x1 (fun q0 q1 => ∃ k : Nat, I20 k q0 q1) Q) : ∀ sz : Nat, Met l yX11_step0 (Cond.code yX11_step0 cX11_step0 4 (some .int) :: zT) rm_X11_step0 (zPm dC dI cI cJ cS (cl_X11 cI cJ a u) [.ref (a 0), .int x1] sz) (va_Qi Q (zB dC dI cI cJ cS (va_A (cl_X11 cI cJ a u) sz) (fun z => cl_X11 cI cJ a z)) (va_A (cl_X11 cI cJ a u) sz)) 0 0 (va_A (cl_X11 cI cJ a u) sz) := by
  intro sz
  refine z_enterM (Qc := fun A => va_Qi Q (zB dC dI cI cJ cS A (fun z => cl_X11 cI cJ a z)) A) (cc := cX11_step0) (maxL := 4) (ret := (some .int)) (by decide) (Nat.le_of_ble_eq_true rfl) ?_
  intro p e s m below meth c ls A X hP hD hS hA hl
  obtain ⟨⟨hx, hb, hml, hown, hts⟩, hr, hlk, hK⟩ := id X
  have hl : lv_has ls 4 [(0, .ref (a 0)), (1, .int x1)] := hl
  have LP : ∀ n : Nat, (∀ (y2 : Int32) (z : zModel) (H : Heap) (locs : List Loc) (ls : Array Slot), I20 n y2 z → va_P (dC, dI) vwCl (cl_X11 cI cJ a z) H → va_D A (cl_X11 cI cJ a z) → va_S A s.heap H locs → lv_has ls 4 [(0, .ref (a 0)), (1, .int x1), (2, .int y2)] → W p l e rm_X11_step0 s m [.ref (a 0), .int x1].toArray below meth c H locs 0 0 (MQ below (va_Qi Q (zB dC dI cI cJ cS A (fun z => cl_X11 cI cJ a z)) A) [.ref (a 0), .int x1].toArray s 0 0 A) (F0 m 20 ls [])) := by
    intro n
    induction n using Nat.strongRecOn with
    | _ n ih =>
      intro y2 z H locs ls hI hP hD hS hl
      have hf := h20 n y2 z hI
      unfold t_X11_step0_20 at hf
      refine lv_iload_n hx hb dX11_step0_20 rfl (lv_at hl 2 rfl) ?_
      refine lv_iload_n hx hb dX11_step0_21 rfl (lv_at hl 1 rfl) ?_
      refine lv_icmp_ge (tgt := 97) hx hb dX11_step0_22 (by decide) (fun c_3 => ?_) (fun c_3 => ?_)
      · have hf := hf.1 c_3
        refine lv_iconst (v := 0) hx hb dX11_step0_97 (by decide) ?_
        exact z_retMi (Wf := (fun z => cl_X11 cI cJ a z)) (u := z) X hf hP hD hS dX11_step0_98
      · have hf := hf.2 c_3
        refine lv_aload_n hx hb dX11_step0_25 rfl (lv_at hl 0 rfl) ?_
        refine va_get (D := (dC, dI)) (ci := 10) (v := .ref (a 1)) (C := RX11) (T := TX11) (N := 17) hx hb hts inX11 hown hK hP 0 rfl rfl 1 (by decide) (hts _ q_fl_X11_7) (fun _ h9 => h9) rfl dX11_step0_26 ?_
        refine lv_bipush (v := 8) hx hb dX11_step0_29 (by decide) ?_
        obtain ⟨hg, hf⟩ := hf
        refine va_iald hx hb hK hP 1 0 rfl rfl hg dX11_step0_31 ?_
        refine lv_iconst (v := (-1)) hx hb dX11_step0_32 (by decide) ?_
        refine lv_icmp_eq (tgt := 97) hx hb dX11_step0_33 (by decide) (fun c_4 => ?_) (fun c_4 => ?_)
        · have hf := hf.1 c_4
          refine lv_iconst (v := 0) hx hb dX11_step0_97 (by decide) ?_
          exact z_retMi (Wf := (fun z => cl_X11 cI cJ a z)) (u := z) X hf hP hD hS dX11_step0_98
        · have hf := hf.2 c_4
          refine lv_aload_n hx hb dX11_step0_36 rfl (lv_at hl 0 rfl) ?_
          refine z_cVi (As := []) (rest := []) X (c_X11_left l dC dI cI cJ cS a z  _ hf) zc_X11_left q_ml_X11_140 ⟨rfl, rfl⟩ ⟨Nat.le_of_ble_eq_true rfl, Nat.le_of_ble_eq_true rfl⟩ hP [0, 1, 2, 3, 4, 5, 6, 7, 8] rfl 10 rfl rfl hl.1 rfl rfl (Nat.le_of_ble_eq_true rfl) ⟨Nat.zero_le _, Nat.zero_le _⟩ dX11_step0_37 (fun r_5 hf => ?_)
          refine lv_if_le (tgt := 50) hx hb dX11_step0_40 (by decide) (fun c_6 => ?_) (fun c_6 => ?_)
          · have hf := hf.1 c_6
            refine lv_iconst (v := 0) hx hb dX11_step0_50 (by decide) ?_
            refine lv_istore_n (lv' := [(3, .int (0 : Int32)), (0, .ref (a 0)), (1, .int x1), (2, .int y2)]) hx hb dX11_step0_51 rfl hl (by decide) rfl (fun ls hl => ?_)
            refine lv_iload_n hx hb dX11_step0_52 rfl (lv_at hl 0 rfl) ?_
            refine lv_iconst (v := (-1)) hx hb dX11_step0_53 (by decide) ?_
            refine lv_icmp_ne (tgt := 70) hx hb dX11_step0_54 (by decide) (fun c_7 => ?_) (fun c_7 => ?_)
            · have hf := hf.1 c_7
              refine lv_aload_n hx hb dX11_step0_70 rfl (lv_at hl 1 rfl) ?_
              refine lv_dup hx hb dX11_step0_71 rfl ?_
              refine va_get (D := (dC, dI)) (ci := 10) (v := .int z.2.2.2.2.2.2.2.2.2.2.2.2.2.2.2.2) (C := RX11) (T := TX11) (N := 17) hx hb hts inX11 hown hK hP 0 rfl rfl 16 (by decide) (hts _ q_fl_X11_137) (fun _ h9 => h9) rfl dX11_step0_72 ?_
              refine lv_iload_n hx hb dX11_step0_75 rfl (lv_at hl 0 rfl) ?_
              refine lv_iadd hx hb dX11_step0_76 ?_
              refine lv_topi (fun x_8 ex_8 => ?_)
              have hf := hf x_8 ex_8
              refine z_put (w' := cl_X11 cI cJ a (z.1, z.2.1, z.2.2.1, z.2.2.2.1, z.2.2.2.2.1, z.2.2.2.2.2.1, z.2.2.2.2.2.2.1, z.2.2.2.2.2.2.2.1, z.2.2.2.2.2.2.2.2.1, z.2.2.2.2.2.2.2.2.2.1, z.2.2.2.2.2.2.2.2.2.2.1, z.2.2.2.2.2.2.2.2.2.2.2.1, z.2.2.2.2.2.2.2.2.2.2.2.2.1, z.2.2.2.2.2.2.2.2.2.2.2.2.2.1, z.2.2.2.2.2.2.2.2.2.2.2.2.2.2.1, z.2.2.2.2.2.2.2.2.2.2.2.2.2.2.2.1, x_8)) (ci := 10) (v := .int x_8) (ty := .int) (Cn := RX11) (T := TX11) (N := 17) X inX11 tyX11 tyX11_ok nmX11 hP hD hS 0 rfl rfl 16 (by decide) (hts _ q_fl_X11_137) (fun _ h9 => h9) rfl (tyX11_ok 16 (by decide)) rfl rfl (Nat.le_of_ble_eq_true rfl) rfl dX11_step0_77 (fun H locs hP hD hS => ?_)
              refine lv_aload_n hx hb dX11_step0_80 rfl (lv_at hl 1 rfl) ?_
              refine z_cVi (As := []) (rest := []) X (c_X11_left l dC dI cI cJ cS a (z.1, z.2.1, z.2.2.1, z.2.2.2.1, z.2.2.2.2.1, z.2.2.2.2.2.1, z.2.2.2.2.2.2.1, z.2.2.2.2.2.2.2.1, z.2.2.2.2.2.2.2.2.1, z.2.2.2.2.2.2.2.2.2.1, z.2.2.2.2.2.2.2.2.2.2.1, z.2.2.2.2.2.2.2.2.2.2.2.1, z.2.2.2.2.2.2.2.2.2.2.2.2.1, z.2.2.2.2.2.2.2.2.2.2.2.2.2.1, z.2.2.2.2.2.2.2.2.2.2.2.2.2.2.1, z.2.2.2.2.2.2.2.2.2.2.2.2.2.2.2.1, x_8)  _ hf) zc_X11_left q_ml_X11_140 ⟨rfl, rfl⟩ ⟨Nat.le_of_ble_eq_true rfl, Nat.le_of_ble_eq_true rfl⟩ hP [0, 1, 2, 3, 4, 5, 6, 7, 8] rfl 10 rfl rfl hl.1 rfl rfl (Nat.le_of_ble_eq_true rfl) ⟨Nat.zero_le _, Nat.zero_le _⟩ dX11_step0_81 (fun r_9 hf => ?_)
              refine lv_if_ne (tgt := 91) hx hb dX11_step0_84 (by decide) (fun c_10 => ?_) (fun c_10 => ?_)
              · have hf := hf.1 c_10
                obtain ⟨x_11, ex_11⟩ : ∃ y : Int32, y = y2 + (1 : Int32) := ⟨_, rfl⟩
                have hf := hf x_11 ex_11
                refine lv_iinc (v := x_11) (lv' := [(2, .int x_11), (3, .int (0 : Int32)), (0, .ref (a 0)), (1, .int x1)]) hx hb dX11_step0_91 hl (k := 3) rfl (by rw [ex_11]; rfl) (by decide) rfl (fun ls hl => ?_)
                refine lv_goto (tgt := 20) hx hb dX11_step0_94 (by decide) ?_
                obtain ⟨k_12, hk_12, hf⟩ := hf
                exact (ih k_12 hk_12) _ (z.1, z.2.1, z.2.2.1, z.2.2.2.1, z.2.2.2.2.1, z.2.2.2.2.2.1, z.2.2.2.2.2.2.1, z.2.2.2.2.2.2.2.1, z.2.2.2.2.2.2.2.2.1, z.2.2.2.2.2.2.2.2.2.1, z.2.2.2.2.2.2.2.2.2.2.1, z.2.2.2.2.2.2.2.2.2.2.2.1, z.2.2.2.2.2.2.2.2.2.2.2.2.1, z.2.2.2.2.2.2.2.2.2.2.2.2.2.1, z.2.2.2.2.2.2.2.2.2.2.2.2.2.2.1, z.2.2.2.2.2.2.2.2.2.2.2.2.2.2.2.1, x_8) _ _ ls hf hP hD hS (lv_sub hl [2, 3, 0] rfl)
              · have hf := hf.2 c_10
                refine lv_aload_n hx hb dX11_step0_87 rfl (lv_at hl 1 rfl) ?_
                refine z_mVv (Wn := (fun u_14 => cl_X11 cI cJ a u_14)) (As := []) (rest := []) (wr := []) X (c_X11_ends l dC dI cI cJ cS a (z.1, z.2.1, z.2.2.1, z.2.2.2.1, z.2.2.2.2.1, z.2.2.2.2.2.1, z.2.2.2.2.2.2.1, z.2.2.2.2.2.2.2.1, z.2.2.2.2.2.2.2.2.1, z.2.2.2.2.2.2.2.2.2.1, z.2.2.2.2.2.2.2.2.2.2.1, z.2.2.2.2.2.2.2.2.2.2.2.1, z.2.2.2.2.2.2.2.2.2.2.2.2.1, z.2.2.2.2.2.2.2.2.2.2.2.2.2.1, z.2.2.2.2.2.2.2.2.2.2.2.2.2.2.1, z.2.2.2.2.2.2.2.2.2.2.2.2.2.2.2.1, x_8)  _ hf _) zc_X11_ends q_ml_X11_146 ⟨rfl, rfl⟩ ⟨Nat.le_of_ble_eq_true rfl, Nat.le_of_ble_eq_true rfl⟩ hP hD hS hA [0, 1, 2, 3, 4, 5, 6, 7, 8] [] rfl (by decide) rfl (by decide) (by decide) [0, 1, 2, 3, 4, 5, 6, 7, 8] (by decide) (fun _ => rfl) 10 rfl rfl hl.1 rfl rfl (Nat.le_of_ble_eq_true rfl) ⟨Nat.zero_le _, Nat.zero_le _⟩ dX11_step0_88 (fun u_14 H locs hf hP hD hS => ?_)
                obtain ⟨x_15, ex_15⟩ : ∃ y : Int32, y = y2 + (1 : Int32) := ⟨_, rfl⟩
                have hf := hf x_15 ex_15
                refine lv_iinc (v := x_15) (lv' := [(2, .int x_15), (3, .int (0 : Int32)), (0, .ref (a 0)), (1, .int x1)]) hx hb dX11_step0_91 hl (k := 3) rfl (by rw [ex_15]; rfl) (by decide) rfl (fun ls hl => ?_)
                refine lv_goto (tgt := 20) hx hb dX11_step0_94 (by decide) ?_
                obtain ⟨k_16, hk_16, hf⟩ := hf
                exact (ih k_16 hk_16) _ u_14 _ _ ls hf hP hD hS (lv_sub hl [2, 3, 0] rfl)
            · have hf := hf.2 c_7
              refine lv_aload_n hx hb dX11_step0_57 rfl (lv_at hl 1 rfl) ?_
              refine va_get (D := (dC, dI)) (ci := 10) (v := .int z.2.2.2.2.2.2.2.2.2.2.2.2.2.2.2.2) (C := RX11) (T := TX11) (N := 17) hx hb hts inX11 hown hK hP 0 rfl rfl 16 (by decide) (hts _ q_fl_X11_137) (fun _ h9 => h9) rfl dX11_step0_58 ?_
              refine lv_if_ne (tgt := 68) hx hb dX11_step0_61 (by decide) (fun c_17 => ?_) (fun c_17 => ?_)
              · have hf := hf.1 c_17
                refine lv_iconst (v := 0) hx hb dX11_step0_68 (by decide) ?_
                exact z_retMi (Wf := (fun z => cl_X11 cI cJ a z)) (u := z) X hf hP hD hS dX11_step0_69
              · have hf := hf.2 c_17
                refine lv_iconst (v := 1) hx hb dX11_step0_64 (by decide) ?_
                refine lv_goto (tgt := 69) hx hb dX11_step0_65 (by decide) ?_
                exact z_retMi (Wf := (fun z => cl_X11 cI cJ a z)) (u := z) X hf hP hD hS dX11_step0_69
          · have hf := hf.2 c_6
            refine lv_aload_n hx hb dX11_step0_43 rfl (lv_at hl 0 rfl) ?_
            refine z_mVi (Wn := (fun u_19 => cl_X11 cI cJ a u_19)) (As := []) (rest := []) (wr := []) X (c_X11_oneNoted l dC dI cI cJ cS a z  _ hf _) zc_X11_oneNoted q_ml_X11_143 ⟨rfl, rfl⟩ ⟨Nat.le_of_ble_eq_true rfl, Nat.le_of_ble_eq_true rfl⟩ hP hD hS hA [0, 1, 2, 3, 4, 5, 6, 7, 8] [] rfl (by decide) rfl (by decide) (by decide) [0, 1, 2, 3, 4, 5, 6, 7, 8] (by decide) (fun _ => rfl) 10 rfl rfl hl.1 rfl rfl (Nat.le_of_ble_eq_true rfl) ⟨Nat.zero_le _, Nat.zero_le _⟩ dX11_step0_44 (fun r_18 u_19 H locs hf hP hD hS => ?_)
            refine lv_goto (tgt := 51) hx hb dX11_step0_47 (by decide) ?_
            refine lv_istore_n (lv' := [(3, .int r_18), (0, .ref (a 0)), (1, .int x1), (2, .int y2)]) hx hb dX11_step0_51 rfl hl (by decide) rfl (fun ls hl => ?_)
            refine lv_iload_n hx hb dX11_step0_52 rfl (lv_at hl 0 rfl) ?_
            refine lv_iconst (v := (-1)) hx hb dX11_step0_53 (by decide) ?_
            refine lv_icmp_ne (tgt := 70) hx hb dX11_step0_54 (by decide) (fun c_20 => ?_) (fun c_20 => ?_)
            · have hf := hf.1 c_20
              refine lv_aload_n hx hb dX11_step0_70 rfl (lv_at hl 1 rfl) ?_
              refine lv_dup hx hb dX11_step0_71 rfl ?_
              refine va_get (D := (dC, dI)) (ci := 10) (v := .int u_19.2.2.2.2.2.2.2.2.2.2.2.2.2.2.2.2) (C := RX11) (T := TX11) (N := 17) hx hb hts inX11 hown hK hP 0 rfl rfl 16 (by decide) (hts _ q_fl_X11_137) (fun _ h9 => h9) rfl dX11_step0_72 ?_
              refine lv_iload_n hx hb dX11_step0_75 rfl (lv_at hl 0 rfl) ?_
              refine lv_iadd hx hb dX11_step0_76 ?_
              refine lv_topi (fun x_21 ex_21 => ?_)
              have hf := hf x_21 ex_21
              refine z_put (w' := cl_X11 cI cJ a (u_19.1, u_19.2.1, u_19.2.2.1, u_19.2.2.2.1, u_19.2.2.2.2.1, u_19.2.2.2.2.2.1, u_19.2.2.2.2.2.2.1, u_19.2.2.2.2.2.2.2.1, u_19.2.2.2.2.2.2.2.2.1, u_19.2.2.2.2.2.2.2.2.2.1, u_19.2.2.2.2.2.2.2.2.2.2.1, u_19.2.2.2.2.2.2.2.2.2.2.2.1, u_19.2.2.2.2.2.2.2.2.2.2.2.2.1, u_19.2.2.2.2.2.2.2.2.2.2.2.2.2.1, u_19.2.2.2.2.2.2.2.2.2.2.2.2.2.2.1, u_19.2.2.2.2.2.2.2.2.2.2.2.2.2.2.2.1, x_21)) (ci := 10) (v := .int x_21) (ty := .int) (Cn := RX11) (T := TX11) (N := 17) X inX11 tyX11 tyX11_ok nmX11 hP hD hS 0 rfl rfl 16 (by decide) (hts _ q_fl_X11_137) (fun _ h9 => h9) rfl (tyX11_ok 16 (by decide)) rfl rfl (Nat.le_of_ble_eq_true rfl) rfl dX11_step0_77 (fun H locs hP hD hS => ?_)
              refine lv_aload_n hx hb dX11_step0_80 rfl (lv_at hl 1 rfl) ?_
              refine z_cVi (As := []) (rest := []) X (c_X11_left l dC dI cI cJ cS a (u_19.1, u_19.2.1, u_19.2.2.1, u_19.2.2.2.1, u_19.2.2.2.2.1, u_19.2.2.2.2.2.1, u_19.2.2.2.2.2.2.1, u_19.2.2.2.2.2.2.2.1, u_19.2.2.2.2.2.2.2.2.1, u_19.2.2.2.2.2.2.2.2.2.1, u_19.2.2.2.2.2.2.2.2.2.2.1, u_19.2.2.2.2.2.2.2.2.2.2.2.1, u_19.2.2.2.2.2.2.2.2.2.2.2.2.1, u_19.2.2.2.2.2.2.2.2.2.2.2.2.2.1, u_19.2.2.2.2.2.2.2.2.2.2.2.2.2.2.1, u_19.2.2.2.2.2.2.2.2.2.2.2.2.2.2.2.1, x_21)  _ hf) zc_X11_left q_ml_X11_140 ⟨rfl, rfl⟩ ⟨Nat.le_of_ble_eq_true rfl, Nat.le_of_ble_eq_true rfl⟩ hP [0, 1, 2, 3, 4, 5, 6, 7, 8] rfl 10 rfl rfl hl.1 rfl rfl (Nat.le_of_ble_eq_true rfl) ⟨Nat.zero_le _, Nat.zero_le _⟩ dX11_step0_81 (fun r_22 hf => ?_)
              refine lv_if_ne (tgt := 91) hx hb dX11_step0_84 (by decide) (fun c_23 => ?_) (fun c_23 => ?_)
              · have hf := hf.1 c_23
                obtain ⟨x_24, ex_24⟩ : ∃ y : Int32, y = y2 + (1 : Int32) := ⟨_, rfl⟩
                have hf := hf x_24 ex_24
                refine lv_iinc (v := x_24) (lv' := [(2, .int x_24), (3, .int r_18), (0, .ref (a 0)), (1, .int x1)]) hx hb dX11_step0_91 hl (k := 3) rfl (by rw [ex_24]; rfl) (by decide) rfl (fun ls hl => ?_)
                refine lv_goto (tgt := 20) hx hb dX11_step0_94 (by decide) ?_
                obtain ⟨k_25, hk_25, hf⟩ := hf
                exact (ih k_25 hk_25) _ (u_19.1, u_19.2.1, u_19.2.2.1, u_19.2.2.2.1, u_19.2.2.2.2.1, u_19.2.2.2.2.2.1, u_19.2.2.2.2.2.2.1, u_19.2.2.2.2.2.2.2.1, u_19.2.2.2.2.2.2.2.2.1, u_19.2.2.2.2.2.2.2.2.2.1, u_19.2.2.2.2.2.2.2.2.2.2.1, u_19.2.2.2.2.2.2.2.2.2.2.2.1, u_19.2.2.2.2.2.2.2.2.2.2.2.2.1, u_19.2.2.2.2.2.2.2.2.2.2.2.2.2.1, u_19.2.2.2.2.2.2.2.2.2.2.2.2.2.2.1, u_19.2.2.2.2.2.2.2.2.2.2.2.2.2.2.2.1, x_21) _ _ ls hf hP hD hS (lv_sub hl [2, 3, 0] rfl)
              · have hf := hf.2 c_23
                refine lv_aload_n hx hb dX11_step0_87 rfl (lv_at hl 1 rfl) ?_
                refine z_mVv (Wn := (fun u_27 => cl_X11 cI cJ a u_27)) (As := []) (rest := []) (wr := []) X (c_X11_ends l dC dI cI cJ cS a (u_19.1, u_19.2.1, u_19.2.2.1, u_19.2.2.2.1, u_19.2.2.2.2.1, u_19.2.2.2.2.2.1, u_19.2.2.2.2.2.2.1, u_19.2.2.2.2.2.2.2.1, u_19.2.2.2.2.2.2.2.2.1, u_19.2.2.2.2.2.2.2.2.2.1, u_19.2.2.2.2.2.2.2.2.2.2.1, u_19.2.2.2.2.2.2.2.2.2.2.2.1, u_19.2.2.2.2.2.2.2.2.2.2.2.2.1, u_19.2.2.2.2.2.2.2.2.2.2.2.2.2.1, u_19.2.2.2.2.2.2.2.2.2.2.2.2.2.2.1, u_19.2.2.2.2.2.2.2.2.2.2.2.2.2.2.2.1, x_21)  _ hf _) zc_X11_ends q_ml_X11_146 ⟨rfl, rfl⟩ ⟨Nat.le_of_ble_eq_true rfl, Nat.le_of_ble_eq_true rfl⟩ hP hD hS hA [0, 1, 2, 3, 4, 5, 6, 7, 8] [] rfl (by decide) rfl (by decide) (by decide) [0, 1, 2, 3, 4, 5, 6, 7, 8] (by decide) (fun _ => rfl) 10 rfl rfl hl.1 rfl rfl (Nat.le_of_ble_eq_true rfl) ⟨Nat.zero_le _, Nat.zero_le _⟩ dX11_step0_88 (fun u_27 H locs hf hP hD hS => ?_)
                obtain ⟨x_28, ex_28⟩ : ∃ y : Int32, y = y2 + (1 : Int32) := ⟨_, rfl⟩
                have hf := hf x_28 ex_28
                refine lv_iinc (v := x_28) (lv' := [(2, .int x_28), (3, .int r_18), (0, .ref (a 0)), (1, .int x1)]) hx hb dX11_step0_91 hl (k := 3) rfl (by rw [ex_28]; rfl) (by decide) rfl (fun ls hl => ?_)
                refine lv_goto (tgt := 20) hx hb dX11_step0_94 (by decide) ?_
                obtain ⟨k_29, hk_29, hf⟩ := hf
                exact (ih k_29 hk_29) _ u_27 _ _ ls hf hP hD hS (lv_sub hl [2, 3, 0] rfl)
            · have hf := hf.2 c_20
              refine lv_aload_n hx hb dX11_step0_57 rfl (lv_at hl 1 rfl) ?_
              refine va_get (D := (dC, dI)) (ci := 10) (v := .int u_19.2.2.2.2.2.2.2.2.2.2.2.2.2.2.2.2) (C := RX11) (T := TX11) (N := 17) hx hb hts inX11 hown hK hP 0 rfl rfl 16 (by decide) (hts _ q_fl_X11_137) (fun _ h9 => h9) rfl dX11_step0_58 ?_
              refine lv_if_ne (tgt := 68) hx hb dX11_step0_61 (by decide) (fun c_30 => ?_) (fun c_30 => ?_)
              · have hf := hf.1 c_30
                refine lv_iconst (v := 0) hx hb dX11_step0_68 (by decide) ?_
                exact z_retMi (Wf := (fun z => cl_X11 cI cJ a z)) (u := u_19) X hf hP hD hS dX11_step0_69
              · have hf := hf.2 c_30
                refine lv_iconst (v := 1) hx hb dX11_step0_64 (by decide) ?_
                refine lv_goto (tgt := 69) hx hb dX11_step0_65 (by decide) ?_
                exact z_retMi (Wf := (fun z => cl_X11 cI cJ a z)) (u := u_19) X hf hP hD hS dX11_step0_69
  unfold t_X11_step0_e at hf
  refine lv_aload_n hx hb dX11_step0_0 rfl (lv_at hl 0 rfl) ?_
  refine lv_iconst (v := 0) hx hb dX11_step0_1 (by decide) ?_
  refine z_put (w' := cl_X11 cI cJ a (u.1, u.2.1, u.2.2.1, u.2.2.2.1, u.2.2.2.2.1, u.2.2.2.2.2.1, u.2.2.2.2.2.2.1, u.2.2.2.2.2.2.2.1, u.2.2.2.2.2.2.2.2.1, u.2.2.2.2.2.2.2.2.2.1, u.2.2.2.2.2.2.2.2.2.2.1, u.2.2.2.2.2.2.2.2.2.2.2.1, u.2.2.2.2.2.2.2.2.2.2.2.2.1, u.2.2.2.2.2.2.2.2.2.2.2.2.2.1, u.2.2.2.2.2.2.2.2.2.2.2.2.2.2.1, u.2.2.2.2.2.2.2.2.2.2.2.2.2.2.2.1, (0 : Int32))) (ci := 10) (v := .int (0 : Int32)) (ty := .int) (Cn := RX11) (T := TX11) (N := 17) X inX11 tyX11 tyX11_ok nmX11 hP hD hS 0 rfl rfl 16 (by decide) (hts _ q_fl_X11_137) (fun _ h9 => h9) rfl (tyX11_ok 16 (by decide)) rfl rfl (Nat.le_of_ble_eq_true rfl) rfl dX11_step0_2 (fun H locs hP hD hS => ?_)
  refine lv_aload_n hx hb dX11_step0_5 rfl (lv_at hl 0 rfl) ?_
  refine va_get (D := (dC, dI)) (ci := 10) (v := .ref (a 1)) (C := RX11) (T := TX11) (N := 17) hx hb hts inX11 hown hK hP 0 rfl rfl 1 (by decide) (hts _ q_fl_X11_7) (fun _ h9 => h9) rfl dX11_step0_6 ?_
  refine lv_bipush (v := 8) hx hb dX11_step0_9 (by decide) ?_
  obtain ⟨hg, hf⟩ := hf
  refine va_iald hx hb hK hP 1 0 rfl rfl hg dX11_step0_11 ?_
  refine lv_iconst (v := (-1)) hx hb dX11_step0_12 (by decide) ?_
  refine lv_icmp_ne (tgt := 18) hx hb dX11_step0_13 (by decide) (fun c_1 => ?_) (fun c_1 => ?_)
  · have hf := hf.1 c_1
    refine lv_iconst (v := 0) hx hb dX11_step0_18 (by decide) ?_
    refine lv_istore_n (lv' := [(2, .int (0 : Int32)), (0, .ref (a 0)), (1, .int x1)]) hx hb dX11_step0_19 rfl hl (by decide) rfl (fun ls hl => ?_)
    obtain ⟨k_2, hf⟩ := hf
    exact (LP k_2) _ (u.1, u.2.1, u.2.2.1, u.2.2.2.1, u.2.2.2.2.1, u.2.2.2.2.2.1, u.2.2.2.2.2.2.1, u.2.2.2.2.2.2.2.1, u.2.2.2.2.2.2.2.2.1, u.2.2.2.2.2.2.2.2.2.1, u.2.2.2.2.2.2.2.2.2.2.1, u.2.2.2.2.2.2.2.2.2.2.2.1, u.2.2.2.2.2.2.2.2.2.2.2.2.1, u.2.2.2.2.2.2.2.2.2.2.2.2.2.1, u.2.2.2.2.2.2.2.2.2.2.2.2.2.2.1, u.2.2.2.2.2.2.2.2.2.2.2.2.2.2.2.1, (0 : Int32)) _ _ ls hf hP hD hS (lv_sub hl [1, 2, 0] rfl)
  · have hf := hf.2 c_1
    refine lv_iconst (v := 5) hx hb dX11_step0_16 (by decide) ?_
    exact z_retMi (Wf := (fun z => cl_X11 cI cJ a z)) (u := (u.1, u.2.1, u.2.2.1, u.2.2.2.1, u.2.2.2.2.1, u.2.2.2.2.2.1, u.2.2.2.2.2.2.1, u.2.2.2.2.2.2.2.1, u.2.2.2.2.2.2.2.2.1, u.2.2.2.2.2.2.2.2.2.1, u.2.2.2.2.2.2.2.2.2.2.1, u.2.2.2.2.2.2.2.2.2.2.2.1, u.2.2.2.2.2.2.2.2.2.2.2.2.1, u.2.2.2.2.2.2.2.2.2.2.2.2.2.1, u.2.2.2.2.2.2.2.2.2.2.2.2.2.2.1, u.2.2.2.2.2.2.2.2.2.2.2.2.2.2.2.1, (0 : Int32))) X hf hP hD hS dX11_step0_17
/-- by what a STEP of n is refused, w written back so far: 1 without room for the first one -/
def uCode : Nat → Nat → zState → Int32
  | 0, _, _ => 0
  | n + 1, w, v => if v.2.2.2.2.1.2.1 = -1 then 0 else if uBlk v then (if w = 0 then 1 else 0) else uCode n (w + uWr v) (uOne v)
theorem uCode_pos : ∀ n w v, 0 < w → uCode n w v = 0
  | 0, _, _, _ => rfl
  | n + 1, w, v, h => by
    unfold uCode
    split
    · rfl
    · split
      · rw [if_neg (by omega)]
      · exact uCode_pos n _ _ (by omega)
theorem uCode_off {v : zState} (h : v.2.2.2.2.1.2.1 = -1) : ∀ n w, uCode n w v = 0
  | 0, _ => rfl
  | n + 1, w => by unfold uCode; rw [if_pos h]
theorem uRs_sk (v : zState) (hx : xN (uSk v).2.2.2.2.1 = xN v.2.2.2.2.1 + 1) : ∀ m i, uRs (uSk v) m i = uRs v m (i + 1)
  | 0, _ => rfl
  | m + 1, i => by
    have e : xN (uSk v).2.2.2.2.1 + i = xN v.2.2.2.2.1 + (i + 1) := by omega
    have ih := uRs_sk v hx m (i + 1)
    unfold uRs
    rw [ih, e]
    rfl
theorem uCode_eq {ρ β mo lm : Nat} : ∀ (n : Nat) {L S M B : Nat} {v : zState}, zP ρ β mo lm L S M B v → B + n ≤ 400000 → ¬ v.2.2.2.2.1.2.1 = -1 → uCode n 0 v = uRs v (min n (wN v.2.2.2.2.1 - xN v.2.2.2.2.1)) 0
  | 0, L, S, M, B, v, h, _, hon => by rw [Nat.zero_min]; rfl
  | n + 1, L, S, M, B, v, h, hB, hon => by
    have hC := h.2.2.2.2.2.2.2.2.2.1
    unfold uCode
    rw [if_neg hon]
    by_cases hx : xN v.2.2.2.2.1 < wN v.2.2.2.2.1
    · have em : min (n + 1) (wN v.2.2.2.2.1 - xN v.2.2.2.2.1) = min n (wN v.2.2.2.2.1 - xN v.2.2.2.2.1 - 1) + 1 := by omega
      have er : uRs v (min n (wN v.2.2.2.2.1 - xN v.2.2.2.2.1 - 1) + 1) 0 = if uLiv v (uHd v) then (if uFits v (4 + cLen (uHd v)) then 0 else 1) else uRs v (min n (wN v.2.2.2.2.1 - xN v.2.2.2.2.1 - 1)) 1 := rfl
      rw [em, er]
      by_cases hl : uLiv v (uHd v) = true
      · rw [if_pos hl]
        by_cases hf : uFits v (4 + cLen (uHd v)) = true
        · have hb : uBlk v = false := by unfold uBlk; rw [hf]; simp
          have ew : uWr v = 1 := by unfold uWr; rw [if_pos ⟨hx, hl⟩]
          rw [if_neg (by rw [hb]; decide), if_pos hf, ew]
          exact uCode_pos _ _ _ (by omega)
        · have hf : uFits v (4 + cLen (uHd v)) = false := by simpa using hf
          have hb : uBlk v = true := by unfold uBlk; rw [decide_eq_true hx, hl, hf]; rfl
          rw [if_pos hb, if_pos rfl, if_neg (by rw [hf]; decide)]
      · have hl : uLiv v (uHd v) = false := by simpa using hl
        have hb : uBlk v = false := by unfold uBlk; rw [hl]; simp
        have ea : uAdv v = uSk v := by unfold uAdv; rw [if_pos hx, if_neg (by rw [hl]; decide)]
        have ew : uWr v = 0 := by unfold uWr; rw [if_neg (fun q => by rw [hl] at q; exact absurd q.2 (by decide))]
        rw [if_neg (by rw [hb]; decide), if_neg (by rw [hl]; decide), ew]
        have hsk := hC.next hx (by show ¬ uLiv v (uHd v) = true; rw [hl]; decide)
        have ex : xN (uSk v).2.2.2.2.1 = xN v.2.2.2.2.1 + 1 := hsk.2.1
        have ew2 : wN (uSk v).2.2.2.2.1 = wN v.2.2.2.2.1 := hsk.2.2
        obtain ⟨⟨L', S', M', ha⟩, eseg⟩ := zPr.adv h (by omega) hon hb
        unfold uOne
        rw [ea] at ha eseg ⊢
        by_cases hx2 : xN (uSk v).2.2.2.2.1 < wN (uSk v).2.2.2.2.1
        · rw [if_pos hx2]
          show uCode n 0 (uSk v) = _
          rw [uCode_eq n ha (by omega) (by rw [eseg]; exact hon), uRs_sk v ex, ex, ew2, show wN v.2.2.2.2.1 - (xN v.2.2.2.2.1 + 1) = wN v.2.2.2.2.1 - xN v.2.2.2.2.1 - 1 by omega]
        · rw [if_neg hx2]
          have e0 : min n (wN v.2.2.2.2.1 - xN v.2.2.2.2.1 - 1) = 0 := by omega
          rw [e0]
          exact uCode_off rfl _ _
    · have hb : uBlk v = false := by unfold uBlk; rw [decide_eq_false hx]; rfl
      have ea : uAdv v = v := by unfold uAdv; rw [if_neg hx]
      rw [if_neg (by rw [hb]; decide)]
      have e0 : min (n + 1) (wN v.2.2.2.2.1 - xN v.2.2.2.2.1) = 0 := by omega
      rw [e0]
      unfold uOne
      rw [ea, if_neg hx]
      exact uCode_off rfl _ _
def s_X11_step0 (u : zModel) (x1 : Int32) (Q : Int32 → zModel → Prop) : Prop := ∃ (v : zState) (ρ β mo lm L S M B n : Nat), zP ρ β mo lm L S M B v ∧ B + n ≤ 400000 ∧ n ≤ 50 ∧ x1 = nI n ∧ mRel v u.2.1 ∧ (v.2.2.2.2.1.2.1 = -1 → Q 5 (u.1, u.2.1, u.2.2.1, u.2.2.2.1, u.2.2.2.2.1, u.2.2.2.2.2.1, u.2.2.2.2.2.2.1, u.2.2.2.2.2.2.2.1, u.2.2.2.2.2.2.2.2.1, u.2.2.2.2.2.2.2.2.2.1, u.2.2.2.2.2.2.2.2.2.2.1, u.2.2.2.2.2.2.2.2.2.2.2.1, u.2.2.2.2.2.2.2.2.2.2.2.2.1, u.2.2.2.2.2.2.2.2.2.2.2.2.2.1, u.2.2.2.2.2.2.2.2.2.2.2.2.2.2.1, u.2.2.2.2.2.2.2.2.2.2.2.2.2.2.2.1, 0)) ∧ (¬ v.2.2.2.2.1.2.1 = -1 → ∀ m' : Nat → Int32, mRel (uCol n v).2 m' → Q (uCode n 0 v) (u.1, m', u.2.2.1, u.2.2.2.1, u.2.2.2.2.1, u.2.2.2.2.2.1, u.2.2.2.2.2.2.1, u.2.2.2.2.2.2.2.1, u.2.2.2.2.2.2.2.2.1, u.2.2.2.2.2.2.2.2.2.1, u.2.2.2.2.2.2.2.2.2.2.1, u.2.2.2.2.2.2.2.2.2.2.2.1, u.2.2.2.2.2.2.2.2.2.2.2.2.1, u.2.2.2.2.2.2.2.2.2.2.2.2.2.1, u.2.2.2.2.2.2.2.2.2.2.2.2.2.2.1, u.2.2.2.2.2.2.2.2.2.2.2.2.2.2.2.1, nI (uCol n v).1))
theorem uWr_le (v : zState) : uWr v ≤ 1 := by unfold uWr; split <;> omega
theorem st_X11_step0 {u : zModel} {x1 : Int32} {Q : Int32 → zModel → Prop} (h : s_X11_step0 u x1 Q) : v_X11_step0 u x1 Q := by
  obtain ⟨v, ρ, β, mo, lm, L0, S0, M0, B0, n, hP0, hB0, hn, rfl, hr0, hQ5, hQ⟩ := h
  refine ⟨fun k y2 z => ¬ v.2.2.2.2.1.2.1 = -1 ∧ ∃ (i w : Nat) (x : zState) (mm : Nat → Int32) (L S M B : Nat), y2 = nI i ∧ i ≤ n ∧ k = n - i ∧ w ≤ i ∧ zP ρ β mo lm L S M B x ∧ B + (n - i) ≤ 400000 ∧ mRel x mm ∧ z = (u.1, mm, u.2.2.1, u.2.2.2.1, u.2.2.2.2.1, u.2.2.2.2.2.1, u.2.2.2.2.2.2.1, u.2.2.2.2.2.2.2.1, u.2.2.2.2.2.2.2.2.1, u.2.2.2.2.2.2.2.2.2.1, u.2.2.2.2.2.2.2.2.2.2.1, u.2.2.2.2.2.2.2.2.2.2.2.1, u.2.2.2.2.2.2.2.2.2.2.2.2.1, u.2.2.2.2.2.2.2.2.2.2.2.2.2.1, u.2.2.2.2.2.2.2.2.2.2.2.2.2.2.1, u.2.2.2.2.2.2.2.2.2.2.2.2.2.2.2.1, nI w) ∧ (uCol n v).1 = w + (uCol (n - i) x).1 ∧ (uCol n v).2 = (uCol (n - i) x).2 ∧ uCode n 0 v = uCode (n - i) w x, ?_, ?_⟩
  · rintro k y2 z ⟨hon0, i, w, x, mm, L, S, M, B, rfl, hi, rfl, hw, hP, hB, hr, rfl, e1, e2, e3⟩
    have hQ := hQ hon0
    have fin : (uCol (n - i) x) = (0, x) → uCode (n - i) w x = (if n - i = 0 then 0 else uCode (n - i) w x) → Q (uCode (n - i) w x) (u.1, mm, u.2.2.1, u.2.2.2.1, u.2.2.2.2.1, u.2.2.2.2.2.1, u.2.2.2.2.2.2.1, u.2.2.2.2.2.2.2.1, u.2.2.2.2.2.2.2.2.1, u.2.2.2.2.2.2.2.2.2.1, u.2.2.2.2.2.2.2.2.2.2.1, u.2.2.2.2.2.2.2.2.2.2.2.1, u.2.2.2.2.2.2.2.2.2.2.2.2.1, u.2.2.2.2.2.2.2.2.2.2.2.2.2.1, u.2.2.2.2.2.2.2.2.2.2.2.2.2.2.1, u.2.2.2.2.2.2.2.2.2.2.2.2.2.2.2.1, nI w) := by
      intro q _
      rw [q] at e1 e2
      rw [e1, e2, e3] at hQ
      exact hQ mm hr
    unfold t_X11_step0_20
    refine ⟨fun c => ?_, fun c => ⟨vp_in_nI (n := 8) (by decide) (by decide), ?_⟩⟩
    · have hni : n - i = 0 := by
        have := (nI_leI (by omega) (by omega)).mp c
        omega
      rw [hni] at fin
      exact fin rfl rfl
    · have hlt : i < n := by
        have : ¬ n ≤ i := fun q => c (nI_le q (by omega))
        omega
      rw [n_c8]
      dsimp only
      rw [hr.1 8 (by decide)]
      show (x.2.2.2.2.1.2.1 = -1 → _) ∧ (¬ x.2.2.2.2.1.2.1 = -1 → _)
      obtain ⟨k, ek⟩ : ∃ k, n - i = k + 1 := ⟨n - i - 1, by omega⟩
      have hu : uCol (k + 1) x = if x.2.2.2.2.1.2.1 = -1 then (0, x) else if uBlk x then (0, x) else (uWr x + (uCol k (uOne x)).1, (uCol k (uOne x)).2) := rfl
      have hc : uCode (k + 1) w x = if x.2.2.2.2.1.2.1 = -1 then 0 else if uBlk x then (if w = 0 then 1 else 0) else uCode k (w + uWr x) (uOne x) := rfl
      rw [ek] at fin e1 e2 e3
      rw [hu, hc] at fin
      rw [hu] at e1 e2
      rw [hc] at e3
      refine ⟨fun c8 => ?_, fun hon => ?_⟩
      · rw [if_pos c8, if_pos c8] at fin
        exact fin rfl (by rw [if_neg (by omega)])
      · rw [if_neg hon] at e1 e2 e3
        rw [if_neg hon, if_neg hon] at fin
        have hC := hP.2.2.2.2.2.2.2.2.2.1
        have m9 : mm 9 = nI (wN x.2.2.2.2.1) := (hr.1 9 (by decide)).trans hC.1.1
        have m10 : mm 10 = nI (xN x.2.2.2.2.1) := (hr.1 10 (by decide)).trans hC.2.1.1
        have hxw := hC.2.1.2
        have hw50 := hC.1.2
        obtain ⟨s, hs, es, esg, -⟩ := uHd_rec hP hon
        have hwr := uWr_le x
        have nx : uBlk x = false → ∀ m' : Nat → Int32, mRel (uOne x) m' → ∀ y : Int32, y = nI i + 1 → ∃ k', k' < n - i ∧ (¬ v.2.2.2.2.1.2.1 = -1 ∧ ∃ (i' w' : Nat) (x' : zState) (mm' : Nat → Int32) (L S M B : Nat), y = nI i' ∧ i' ≤ n ∧ k' = n - i' ∧ w' ≤ i' ∧ zP ρ β mo lm L S M B x' ∧ B + (n - i') ≤ 400000 ∧ mRel x' mm' ∧ (u.1, m', u.2.2.1, u.2.2.2.1, u.2.2.2.2.1, u.2.2.2.2.2.1, u.2.2.2.2.2.2.1, u.2.2.2.2.2.2.2.1, u.2.2.2.2.2.2.2.2.1, u.2.2.2.2.2.2.2.2.2.1, u.2.2.2.2.2.2.2.2.2.2.1, u.2.2.2.2.2.2.2.2.2.2.2.1, u.2.2.2.2.2.2.2.2.2.2.2.2.1, u.2.2.2.2.2.2.2.2.2.2.2.2.2.1, u.2.2.2.2.2.2.2.2.2.2.2.2.2.2.1, u.2.2.2.2.2.2.2.2.2.2.2.2.2.2.2.1, nI (w + uWr x)) = (u.1, mm', u.2.2.1, u.2.2.2.1, u.2.2.2.2.1, u.2.2.2.2.2.1, u.2.2.2.2.2.2.1, u.2.2.2.2.2.2.2.1, u.2.2.2.2.2.2.2.2.1, u.2.2.2.2.2.2.2.2.2.1, u.2.2.2.2.2.2.2.2.2.2.1, u.2.2.2.2.2.2.2.2.2.2.2.1, u.2.2.2.2.2.2.2.2.2.2.2.2.1, u.2.2.2.2.2.2.2.2.2.2.2.2.2.1, u.2.2.2.2.2.2.2.2.2.2.2.2.2.2.1, u.2.2.2.2.2.2.2.2.2.2.2.2.2.2.2.1, nI w') ∧ (uCol n v).1 = w' + (uCol (n - i') x').1 ∧ (uCol n v).2 = (uCol (n - i') x').2 ∧ uCode n 0 v = uCode (n - i') w' x') := by
          intro hb m' hm' y ey
          rw [if_neg (by rw [hb]; decide)] at e1 e2 e3
          obtain ⟨L', S', M', h3⟩ := zPr.one hP (by omega) hon hb
          have ek' : n - (i + 1) = k := by omega
          refine ⟨n - (i + 1), by omega, hon0, i + 1, w + uWr x, uOne x, m', L', S', M', B + 1, by rw [ey, nI_1], by omega, rfl, by omega, h3, by omega, hm', rfl, ?_, ?_, ?_⟩
          · rw [ek', e1]; show w + (uWr x + _) = _; omega
          · rw [ek', e2]
          · rw [ek', e3]
        unfold s_X11_left
        dsimp only
        rw [n_c9, n_c10, m9, m10, lN_subI hxw]
        refine ⟨vp_in_nI (n := 9) (by decide) (by decide), vp_in_nI (n := 10) (by decide) (by decide), fun c1 => ?_, fun c1 => ?_⟩
        · have hx : ¬ xN x.2.2.2.2.1 < wN x.2.2.2.2.1 := by
            have := (nI_leI (b := 0) (by omega) (by decide)).mp c1
            omega
          have hb : uBlk x = false := by unfold uBlk; rw [decide_eq_false hx]; rfl
          have ea : uAdv x = x := by unfold uAdv; rw [if_neg hx]
          have ew : uWr x = 0 := by unfold uWr; rw [if_neg (fun q => hx q.1)]
          have eo : uOne x = uEndC x s := by unfold uOne; rw [ea, if_neg hx, esg]
          have nx := nx hb
          rw [ew, Nat.add_zero, eo] at nx
          refine ⟨fun _ x8 e8 => ?_, fun q => absurd q (by decide)⟩
          rw [Int32.add_zero] at e8
          subst e8
          refine ⟨vp_in_nI (n := 9) (by decide) (by decide), vp_in_nI (n := 10) (by decide) (by decide), fun c9 => ?_, fun c9 => ⟨x, ρ, β, mo, lm, L, S, M, B, s, hP, hs, es, hr, fun m' hm' y ey => nx m' hm' y ey⟩⟩
          exact absurd (by rw [show wN x.2.2.2.2.1 - xN x.2.2.2.2.1 = 0 by omega]; rfl) c9
        · have hx : xN x.2.2.2.2.1 < wN x.2.2.2.2.1 := by
            have : ¬ wN x.2.2.2.2.1 - xN x.2.2.2.2.1 ≤ 0 := fun q => c1 (nI_le (b := 0) q (by decide))
            omega
          refine ⟨x, ρ, β, mo, lm, L, S, M, B, hP, by omega, hon, hx, hr, fun hb => ?_, fun hb m' hm' => ?_⟩
          · rw [if_pos hb, if_pos hb] at fin
            refine ⟨fun q => absurd rfl q, fun _ => ⟨fun c5 => ?_, fun c5 => ?_⟩⟩
            · have hw0 : ¬ w = 0 := fun q => c5 (by show nI w = 0; rw [q]; rfl)
              rw [if_neg hw0] at fin
              exact fin rfl (by rw [if_neg (by omega)])
            · have hw0 : w = 0 := (nI_eq (b := 0) (by omega) (by decide)).mp c5
              rw [if_pos hw0] at fin
              exact fin rfl (by rw [if_neg (by omega)])
          · have nx := nx hb
            obtain ⟨⟨L', S', M', ha⟩, eseg⟩ := zPr.adv hP (by omega) hon hb
            have hCa := ha.2.2.2.2.2.2.2.2.2.1
            have a9 : m' 9 = nI (wN (uAdv x).2.2.2.2.1) := (hm'.1 9 (by decide)).trans hCa.1.1
            have a10 : m' 10 = nI (xN (uAdv x).2.2.2.2.1) := (hm'.1 10 (by decide)).trans hCa.2.1.1
            have hxa := hCa.2.1.2
            have hwa := hCa.1.2
            refine ⟨fun _ x21 e21 => ?_, fun q => absurd q (n_neg (by omega))⟩
            have e21 : x21 = nI (w + uWr x) := by rw [e21]; exact nI_add w (uWr x)
            subst e21
            dsimp only
            rw [a9, a10, lN_subI hxa]
            refine ⟨vp_in_nI (n := 9) (by decide) (by decide), vp_in_nI (n := 10) (by decide) (by decide), fun c9 y ey => ?_, fun c9 => ?_⟩
            · have hlt2 : xN (uAdv x).2.2.2.2.1 < wN (uAdv x).2.2.2.2.1 := by
                have : ¬ wN (uAdv x).2.2.2.2.1 - xN (uAdv x).2.2.2.2.1 = 0 := fun q => c9 (by rw [q]; rfl)
                omega
              have eo : uOne x = uAdv x := by unfold uOne; rw [if_pos hlt2]
              rw [eo] at nx
              exact nx m' hm' y ey
            · have hlt2 : ¬ xN (uAdv x).2.2.2.2.1 < wN (uAdv x).2.2.2.2.1 := by
                have := (nI_eq (b := 0) (by omega) (by decide)).mp c9
                omega
              have eo : uOne x = uEndC (uAdv x) s := by unfold uOne; rw [if_neg hlt2, esg]
              rw [eo] at nx
              exact ⟨uAdv x, ρ, β, mo, lm, L', S', M', B + 1, s, ha, hs, eseg.trans es, hm', fun m2 hm2 y ey => nx m2 hm2 y ey⟩
  · unfold t_X11_step0_e
    rw [n_c8, hr0.1 8 (by decide)]
    refine ⟨vp_in_nI (n := 8) (by decide) (by decide), fun hon => ?_, fun hoff => hQ5 hoff⟩
    exact ⟨n - 0, hon, 0, 0, v, u.2.1, L0, S0, M0, B0, rfl, Nat.zero_le _, rfl, Nat.le_refl _, hP0, by omega, hr0, rfl, by rw [Nat.zero_add]; rfl, rfl, rfl⟩
theorem c_X11_step0 (l : Launch) (dC : Nat → ClassId) (dI : Nat → Nat → Nat) (cI cJ cS : ClassId) (a : Nat → Nat) (u : zModel) (x1 : Int32) (Q : Int32 → zModel → Prop) (hf : s_X11_step0 u x1 Q) : ∀ sz : Nat, Met l yX11_step0 (Cond.code yX11_step0 cX11_step0 4 (some .int) :: zT) rm_X11_step0 (zPm dC dI cI cJ cS (cl_X11 cI cJ a u) [.ref (a 0), .int x1] sz) (va_Qi Q (zB dC dI cI cJ cS (va_A (cl_X11 cI cJ a u) sz) (fun z => cl_X11 cI cJ a z)) (va_A (cl_X11 cI cJ a u) sz)) 0 0 (va_A (cl_X11 cI cJ a u) sz) := by
  obtain ⟨I20, h20, hf⟩ := st_X11_step0 hf
  exact L_X11_step0 l dC dI cI cJ cS a u x1 Q I20 h20 hf
