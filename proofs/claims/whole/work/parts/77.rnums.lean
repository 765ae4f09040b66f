def t_X6_readNumbers_e (u : zTape) (K33 : Int32 → Int32 → zTape → Prop) (Q : Int32 → zTape → Prop) : Prop := ((u.2.2.2.2.1 < 0 → K33 (0 : Int32) (0 : Int32) u) ∧ (¬ u.2.2.2.2.1 < 0 → ((u.2.2.2.2.1 < (10 : Int32) → vp_in u.2.2.2.2.1 10 ∧ ∀ x_6 : Int32, x_6 = (rWan u.2.2.2.2.1.toNatClampNeg) → K33 x_6 (0 : Int32) u) ∧ (¬ u.2.2.2.2.1 < (10 : Int32) → K33 (0 : Int32) (0 : Int32) u))))
def t_X6_readNumbers_33 (y1 : Int32) (y2 : Int32) (z : zTape) (K33 : Int32 → Int32 → zTape → Prop) (Q : Int32 → zTape → Prop) : Prop := ((y1 ≤ y2 → Q (1 : Int32) z) ∧ (¬ y1 ≤ y2 → (((4 : Int32) ≤ y2 → Q (1 : Int32) z) ∧ (¬ (4 : Int32) ≤ y2 → s_X6_skipBlanks z (fun (u_12 : zTape) => ((¬ u_12.2.2.2.2.1 = (6 : Int32) → s_X6_readNumber u_12 y2 (fun (r_14 : Int32) (u_15 : zTape) => ((¬ r_14 = 0 → ∀ x_17 : Int32, x_17 = y2 + (1 : Int32) → K33 y1 x_17 u_15) ∧ (r_14 = 0 → Q (0 : Int32) u_15)))) ∧ (u_12.2.2.2.2.1 = (6 : Int32) → s_X6_isDigit u_12 (fun r_19 : Int32 => ((¬ r_19 = 0 → s_X6_readNumber u_12 y2 (fun (r_21 : Int32) (u_22 : zTape) => ((¬ r_21 = 0 → ∀ x_24 : Int32, x_24 = y2 + (1 : Int32) → K33 y1 x_24 u_22) ∧ (r_21 = 0 → Q (0 : Int32) u_22)))) ∧ (r_19 = 0 → vp_in y2 4 ∧ ∀ f_26 : Nat → Int32, f_26 = upd u_12.2.1 y2.toNatClampNeg (-1 : Int32) → ∀ x_27 : Int32, x_27 = y2 + (1 : Int32) → K33 y1 x_27 (u_12.1, f_26, u_12.2.2.1, u_12.2.2.2.1, u_12.2.2.2.2.1, u_12.2.2.2.2.2.1, u_12.2.2.2.2.2.2)))))))))))
theorem zc_X6_readNumbers : zCalV RX6 yX6_readNumbers cX6_readNumbers 3 (some .boolean) 0 := ⟨q_im_X6_readNumbers, q_se_X6_readNumbers, q_in_X6, q_cd_X6_readNumbers, ⟨by decide, by decide, by decide +kernel⟩, rfl⟩
abbrev rm_X6_readNumbers : Room := { frames := 3, cells := 0, slots := 0, locals := 63 }
def v_X6_readNumbers (u : zTape) (Q : Int32 → zTape → Prop) : Prop := ∃ I33 : Nat → Int32 → Int32 → zTape → Prop, (∀ (n : Nat) (y1 : Int32) (y2 : Int32) (z : zTape), I33 n y1 y2 z → t_X6_readNumbers_33 y1 y2 z (fun q0 q1 q2 => ∃ k : Nat, k < n ∧ I33 k q0 q1 q2) Q) ∧ t_X6_readNumbers_e u (fun q0 q1 q2 => ∃ k : Nat, I33 k q0 q1 q2) Q
set_option maxHeartbeats 4000000 in
set_option maxRecDepth 100000 in
theorem L_X6_readNumbers (l : Launch) (dC : Nat → ClassId) (dI : Nat → Nat → Nat) (cI cJ cS : ClassId) (a : Nat → Nat) (u : zTape) (Q : Int32 → zTape → Prop) (I33 : Nat → Int32 → Int32 → zTape → Prop) (h33 : ∀ (n : Nat) (y1 : Int32) (y2 : Int32) (z : zTape), I33 n y1 y2 z → t_X6_readNumbers_33 y1 y2 z (fun q0 q1 q2 => ∃ k : Nat, k < n ∧ I33 k q0 q1 q2) Q) (hf : t_X6_readNumbers_e u (fun q0 q1 q2 => ∃ k : Nat, I33 k q0 q1 q2) Q) : ∀ sz : Nat, Met l yX6_readNumbers (Cond.code yX6_readNumbers cX6_readNumbers 3 (some .boolean) :: zT) rm_X6_readNumbers (zPmF zFy dC dI cI cJ cS (cl_X6 cI cJ a u) [.ref (a 0)] sz) (va_Qi (fun r u => (r = 0 ∨ r = 1) ∧ Q r u) (zB dC dI cI cJ cS (va_A (cl_X6 cI cJ a u) sz) (fun z => cl_X6 cI cJ a z)) (va_A (cl_X6 cI cJ a u) sz)) 0 0 (va_A (cl_X6 cI cJ a u) sz) := by
  intro sz
  refine z_enterMF (Qc := fun A => va_Qi (fun r u => (r = 0 ∨ r = 1) ∧ Q r u) (zB dC dI cI cJ cS A (fun z => cl_X6 cI cJ a z)) A) (cc := cX6_readNumbers) (maxL := 3) (ret := (some .boolean)) (by decide) (Nat.le_of_ble_eq_true rfl) ?_
  intro p e s m below meth c ls A X hP hD hS hA hF hl
  obtain ⟨⟨hx, hb, hml, hown, hts⟩, hr, hlk, hK⟩ := id X
  have hl : lv_has ls 3 [(0, .ref (a 0))] := hl
  have LP : ∀ n : Nat, (∀ (y1 : Int32) (y2 : Int32) (z : zTape) (H : Heap) (locs : List Loc) (ls : Array Slot), I33 n y1 y2 z → va_P (dC, dI) vwCl (cl_X6 cI cJ a z) H → va_D A (cl_X6 cI cJ a z) → va_S A s.heap H locs → lv_has ls 3 [(0, .ref (a 0)), (1, .int y1), (2, .int y2)] → W p l e rm_X6_readNumbers s m [.ref (a 0)].toArray below meth c H locs 0 0 (MQ below (va_Qi (fun r u => (r = 0 ∨ r = 1) ∧ Q r u) (zB dC dI cI cJ cS A (fun z => cl_X6 cI cJ a z)) A) [.ref (a 0)].toArray s 0 0 A) (F0 m 33 ls [])) := by
    intro n
    induction n using Nat.strongRecOn with
    | _ n ih =>
      intro y1 y2 z H locs ls hI hP hD hS hl
      have hf := h33 n y1 y2 z hI
      unfold t_X6_readNumbers_33 at hf
      refine lv_iload_n hx hb dX6_readNumbers_33 rfl (lv_at hl 2 rfl) ?_
      refine lv_iload_n hx hb dX6_readNumbers_34 rfl (lv_at hl 1 rfl) ?_
      refine lv_icmp_ge (tgt := 89) hx hb dX6_readNumbers_35 (by decide) (fun c_9 => ?_) (fun c_9 => ?_)
      · have hf := hf.1 c_9
        refine lv_iconst (v := 1) hx hb dX6_readNumbers_89 (by decide) ?_
        exact z_retMz (Wf := (fun z => cl_X6 cI cJ a z)) (u := z) X (Or.inr rfl) hf hP hD hS dX6_readNumbers_90
      · have hf := hf.2 c_9
        refine lv_iload_n hx hb dX6_readNumbers_38 rfl (lv_at hl 2 rfl) ?_
        refine lv_iconst (v := 4) hx hb dX6_readNumbers_39 (by decide) ?_
        refine lv_icmp_ge (tgt := 89) hx hb dX6_readNumbers_40 (by decide) (fun c_10 => ?_) (fun c_10 => ?_)
        · have hf := hf.1 c_10
          refine lv_iconst (v := 1) hx hb dX6_readNumbers_89 (by decide) ?_
          exact z_retMz (Wf := (fun z => cl_X6 cI cJ a z)) (u := z) X (Or.inr rfl) hf hP hD hS dX6_readNumbers_90
        · have hf := hf.2 c_10
          refine lv_aload_n hx hb dX6_readNumbers_43 rfl (lv_at hl 0 rfl) ?_
          refine z_mVv (Wn := (fun u_12 => cl_X6 cI cJ a u_12)) (As := []) (rest := []) (wr := []) X (c_X6_skipBlanks l dC dI cI cJ cS a z  _ hf _) zc_X6_skipBlanks q_ml_X6_32 ⟨rfl, rfl⟩ ⟨Nat.le_of_ble_eq_true rfl, Nat.le_of_ble_eq_true rfl⟩ hP hD hS hA [0, 1, 2] [] rfl (by decide) rfl (by decide) (by decide) [0, 1, 2] (by decide) (fun _ => rfl) 5 rfl rfl hl.1 rfl rfl (Nat.le_of_ble_eq_true rfl) ⟨Nat.zero_le _, Nat.zero_le _⟩ dX6_readNumbers_44 (fun u_12 H locs hf hP hD hS => ?_)
          refine lv_aload_n hx hb dX6_readNumbers_47 rfl (lv_at hl 0 rfl) ?_
          refine va_get (D := (dC, dI)) (ci := 5) (v := .int u_12.2.2.2.2.1) (C := RX6) (T := TX6) (N := 7) hx hb hts inX6 hown hK hP 0 rfl rfl 4 (by decide) (hts _ q_fl_X6_56) (fun _ h9 => h9) rfl dX6_readNumbers_48 ?_
          refine lv_bipush (v := 6) hx hb dX6_readNumbers_51 (by decide) ?_
          refine lv_icmp_ne (tgt := 73) hx hb dX6_readNumbers_53 (by decide) (fun c_13 => ?_) (fun c_13 => ?_)
          · have hf := hf.1 c_13
            refine lv_aload_n hx hb dX6_readNumbers_73 rfl (lv_at hl 0 rfl) ?_
            refine lv_iload_n hx hb dX6_readNumbers_74 rfl (lv_at hl 2 rfl) ?_
            refine z_mViF (Wn := (fun u_15 => cl_X6 cI cJ a u_15)) (As := [.int y2]) (rest := []) (wr := []) X fro_Fy hF (c_X6_readNumber l dC dI cI cJ cS a u_12 y2 _ hf _) zc_X6_readNumber q_ml_X6_102 ⟨rfl, rfl⟩ ⟨Nat.le_of_ble_eq_true rfl, Nat.le_of_ble_eq_true rfl⟩ hP hD hS hA [0, 1, 2] [] rfl (by decide) rfl (by decide) (by decide) [0, 1, 2] (by decide) (fun _ => rfl) 5 rfl rfl hl.1 rfl rfl (Nat.le_of_ble_eq_true rfl) ⟨Nat.zero_le _, Nat.zero_le _⟩ dX6_readNumbers_75 (fun r_14 u_15 H locs hf hP hD hS => ?_)
            obtain ⟨hbr_14, hf⟩ := hf
            refine lv_if_ne (tgt := 83) hx hb dX6_readNumbers_78 (by decide) (fun c_16 => ?_) (fun c_16 => ?_)
            · have hf := hf.1 c_16
              obtain ⟨x_17, ex_17⟩ : ∃ y : Int32, y = y2 + (1 : Int32) := ⟨_, rfl⟩
              have hf := hf x_17 ex_17
              refine lv_iinc (v := x_17) (lv' := [(2, .int x_17), (0, .ref (a 0)), (1, .int y1)]) hx hb dX6_readNumbers_83 hl (k := 2) rfl (by rw [ex_17]; rfl) (by decide) rfl (fun ls hl => ?_)
              refine lv_goto (tgt := 33) hx hb dX6_readNumbers_86 (by decide) ?_
              obtain ⟨k_18, hk_18, hf⟩ := hf
              exact (ih k_18 hk_18) _ _ u_15 _ _ ls hf hP hD hS (lv_sub hl [1, 2, 0] rfl)
            · have hf := hf.2 c_16
              refine lv_iconst (v := 0) hx hb dX6_readNumbers_81 (by decide) ?_
              exact z_retMz (Wf := (fun z => cl_X6 cI cJ a z)) (u := u_15) X (Or.inl rfl) hf hP hD hS dX6_readNumbers_82
          · have hf := hf.2 c_13
            refine lv_aload_n hx hb dX6_readNumbers_56 rfl (lv_at hl 0 rfl) ?_
            refine z_cVi (As := []) (rest := []) X (c_X6_isDigit l dC dI cI cJ cS a u_12  _ hf) zc_X6_isDigit q_ml_X6_99 ⟨rfl, rfl⟩ ⟨Nat.le_of_ble_eq_true rfl, Nat.le_of_ble_eq_true rfl⟩ hP [0, 1, 2] rfl 5 rfl rfl hl.1 rfl rfl (Nat.le_of_ble_eq_true rfl) ⟨Nat.zero_le _, Nat.zero_le _⟩ dX6_readNumbers_57 (fun r_19 hf => ?_)
            obtain ⟨hbr_19, hf⟩ := hf
            refine lv_if_ne (tgt := 73) hx hb dX6_readNumbers_60 (by decide) (fun c_20 => ?_) (fun c_20 => ?_)
            · have hf := hf.1 c_20
              refine lv_aload_n hx hb dX6_readNumbers_73 rfl (lv_at hl 0 rfl) ?_
              refine lv_iload_n hx hb dX6_readNumbers_74 rfl (lv_at hl 2 rfl) ?_
              refine z_mViF (Wn := (fun u_22 => cl_X6 cI cJ a u_22)) (As := [.int y2]) (rest := []) (wr := []) X fro_Fy hF (c_X6_readNumber l dC dI cI cJ cS a u_12 y2 _ hf _) zc_X6_readNumber q_ml_X6_102 ⟨rfl, rfl⟩ ⟨Nat.le_of_ble_eq_true rfl, Nat.le_of_ble_eq_true rfl⟩ hP hD hS hA [0, 1, 2] [] rfl (by decide) rfl (by decide) (by decide) [0, 1, 2] (by decide) (fun _ => rfl) 5 rfl rfl hl.1 rfl rfl (Nat.le_of_ble_eq_true rfl) ⟨Nat.zero_le _, Nat.zero_le _⟩ dX6_readNumbers_75 (fun r_21 u_22 H locs hf hP hD hS => ?_)
              obtain ⟨hbr_21, hf⟩ := hf
              refine lv_if_ne (tgt := 83) hx hb dX6_readNumbers_78 (by decide) (fun c_23 => ?_) (fun c_23 => ?_)
              · have hf := hf.1 c_23
                obtain ⟨x_24, ex_24⟩ : ∃ y : Int32, y = y2 + (1 : Int32) := ⟨_, rfl⟩
                have hf := hf x_24 ex_24
                refine lv_iinc (v := x_24) (lv' := [(2, .int x_24), (0, .ref (a 0)), (1, .int y1)]) hx hb dX6_readNumbers_83 hl (k := 2) rfl (by rw [ex_24]; rfl) (by decide) rfl (fun ls hl => ?_)
                refine lv_goto (tgt := 33) hx hb dX6_readNumbers_86 (by decide) ?_
                obtain ⟨k_25, hk_25, hf⟩ := hf
                exact (ih k_25 hk_25) _ _ u_22 _ _ ls hf hP hD hS (lv_sub hl [1, 2, 0] rfl)
              · have hf := hf.2 c_23
                refine lv_iconst (v := 0) hx hb dX6_readNumbers_81 (by decide) ?_
                exact z_retMz (Wf := (fun z => cl_X6 cI cJ a z)) (u := u_22) X (Or.inl rfl) hf hP hD hS dX6_readNumbers_82
            · have hf := hf.2 c_20
              refine lv_aload_n hx hb dX6_readNumbers_63 rfl (lv_at hl 0 rfl) ?_
              refine va_get (D := (dC, dI)) (ci := 5) (v := .ref (a 2)) (C := RX6) (T := TX6) (N := 7) hx hb hts inX6 hown hK hP 0 rfl rfl 1 (by decide) (hts _ q_fl_X6_15) (fun _ h9 => h9) rfl dX6_readNumbers_64 ?_
              refine lv_iload_n hx hb dX6_readNumbers_67 rfl (lv_at hl 2 rfl) ?_
              refine lv_iconst (v := (-1)) hx hb dX6_readNumbers_68 (by decide) ?_
              obtain ⟨hg, hf⟩ := hf
              refine z_iast (Wn := fun f_26 => cl_X6 cI cJ a (u_12.1, f_26, u_12.2.2.1, u_12.2.2.2.1, u_12.2.2.2.2.1, u_12.2.2.2.2.2.1, u_12.2.2.2.2.2.2)) X hP hD hS 2 0 rfl rfl hg (fun _ => rfl) dX6_readNumbers_69 (fun f_26 H locs ef_26 hP hD hS => ?_)
              have hf := hf f_26 ef_26
              refine lv_goto (tgt := 83) hx hb dX6_readNumbers_70 (by decide) ?_
              obtain ⟨x_27, ex_27⟩ : ∃ y : Int32, y = y2 + (1 : Int32) := ⟨_, rfl⟩
              have hf := hf x_27 ex_27
              refine lv_iinc (v := x_27) (lv' := [(2, .int x_27), (0, .ref (a 0)), (1, .int y1)]) hx hb dX6_readNumbers_83 hl (k := 2) rfl (by rw [ex_27]; rfl) (by decide) rfl (fun ls hl => ?_)
              refine lv_goto (tgt := 33) hx hb dX6_readNumbers_86 (by decide) ?_
              obtain ⟨k_28, hk_28, hf⟩ := hf
              exact (ih k_28 hk_28) _ _ (u_12.1, f_26, u_12.2.2.1, u_12.2.2.2.1, u_12.2.2.2.2.1, u_12.2.2.2.2.2.1, u_12.2.2.2.2.2.2) _ _ ls hf hP hD hS (lv_sub hl [1, 2, 0] rfl)
  unfold t_X6_readNumbers_e at hf
  refine lv_aload_n hx hb dX6_readNumbers_0 rfl (lv_at hl 0 rfl) ?_
  refine va_get (D := (dC, dI)) (ci := 5) (v := .int u.2.2.2.2.1) (C := RX6) (T := TX6) (N := 7) hx hb hts inX6 hown hK hP 0 rfl rfl 4 (by decide) (hts _ q_fl_X6_56) (fun _ h9 => h9) rfl dX6_readNumbers_1 ?_
  refine lv_if_lt (tgt := 18) hx hb dX6_readNumbers_4 (by decide) (fun c_1 => ?_) (fun c_1 => ?_)
  · have hf := hf.1 c_1
    refine lv_iconst (v := 0) hx hb dX6_readNumbers_18 (by decide) ?_
    refine lv_goto (tgt := 30) hx hb dX6_readNumbers_19 (by decide) ?_
    refine lv_istore_n (lv' := [(1, .int (0 : Int32)), (0, .ref (a 0))]) hx hb dX6_readNumbers_30 rfl hl (by decide) rfl (fun ls hl => ?_)
    refine lv_iconst (v := 0) hx hb dX6_readNumbers_31 (by decide) ?_
    refine lv_istore_n (lv' := [(2, .int (0 : Int32)), (1, .int (0 : Int32)), (0, .ref (a 0))]) hx hb dX6_readNumbers_32 rfl hl (by decide) rfl (fun ls hl => ?_)
    obtain ⟨k_2, hf⟩ := hf
    exact (LP k_2) _ _ u _ _ ls hf hP hD hS (lv_sub hl [2, 1, 0] rfl)
  · have hf := hf.2 c_1
    refine lv_aload_n hx hb dX6_readNumbers_7 rfl (lv_at hl 0 rfl) ?_
    refine va_get (D := (dC, dI)) (ci := 5) (v := .int u.2.2.2.2.1) (C := RX6) (T := TX6) (N := 7) hx hb hts inX6 hown hK hP 0 rfl rfl 4 (by decide) (hts _ q_fl_X6_56) (fun _ h9 => h9) rfl dX6_readNumbers_8 ?_
    obtain ⟨t_3, zt_3, bt_3⟩ := hF.1.2.2.2.1
    refine va_getsN hx hb zt_3 hS hown (va_Nw.use rfl hF.2.1) (fun _ h => h) dX6_readNumbers_11 ?_
    refine va_tlen (v := 10) hx hb bt_3 hS rfl dX6_readNumbers_14 ?_
    refine lv_icmp_lt (tgt := 22) hx hb dX6_readNumbers_15 (by decide) (fun c_4 => ?_) (fun c_4 => ?_)
    · have hf := hf.1 c_4
      obtain ⟨t_5, zt_5, bt_5⟩ := hF.1.2.2.2.1
      refine va_getsN hx hb zt_5 hS hown (va_Nw.use rfl hF.2.1) (fun _ h => h) dX6_readNumbers_22 ?_
      refine lv_aload_n hx hb dX6_readNumbers_25 rfl (lv_at hl 0 rfl) ?_
      refine va_get (D := (dC, dI)) (ci := 5) (v := .int u.2.2.2.2.1) (C := RX6) (T := TX6) (N := 7) hx hb hts inX6 hown hK hP 0 rfl rfl 4 (by decide) (hts _ q_fl_X6_56) (fun _ h9 => h9) rfl dX6_readNumbers_26 ?_
      obtain ⟨hg, hf⟩ := hf
      refine va_ti (v := .int (rWan u.2.2.2.2.1.toNatClampNeg)) hx hb bt_5 hS hg rfl dX6_readNumbers_29 ?_
      refine lv_topi (fun x_6 ex_6 => ?_)
      have hf := hf x_6 ex_6
      refine lv_istore_n (lv' := [(1, .int x_6), (0, .ref (a 0))]) hx hb dX6_readNumbers_30 rfl hl (by decide) rfl (fun ls hl => ?_)
      refine lv_iconst (v := 0) hx hb dX6_readNumbers_31 (by decide) ?_
      refine lv_istore_n (lv' := [(2, .int (0 : Int32)), (1, .int x_6), (0, .ref (a 0))]) hx hb dX6_readNumbers_32 rfl hl (by decide) rfl (fun ls hl => ?_)
      obtain ⟨k_7, hf⟩ := hf
      exact (LP k_7) _ _ u _ _ ls hf hP hD hS (lv_sub hl [2, 1, 0] rfl)
    · have hf := hf.2 c_4
      refine lv_iconst (v := 0) hx hb dX6_readNumbers_18 (by decide) ?_
      refine lv_goto (tgt := 30) hx hb dX6_readNumbers_19 (by decide) ?_
      refine lv_istore_n (lv' := [(1, .int (0 : Int32)), (0, .ref (a 0))]) hx hb dX6_readNumbers_30 rfl hl (by decide) rfl (fun ls hl => ?_)
      refine lv_iconst (v := 0) hx hb dX6_readNumbers_31 (by decide) ?_
      refine lv_istore_n (lv' := [(2, .int (0 : Int32)), (1, .int (0 : Int32)), (0, .ref (a 0))]) hx hb dX6_readNumbers_32 rfl hl (by decide) rfl (fun ls hl => ?_)
      obtain ⟨k_8, hf⟩ := hf
      exact (LP k_8) _ _ u _ _ ls hf hP hD hS (lv_sub hl [2, 1, 0] rfl)
/-- the numbers of an ACT are right -/
def aNum (t : Nat → Int32) (N k e : Nat) : Prop := (k = 6 ∧ pkNo t N e = true) ∨ ¬ nBad t N k e < nN k
def s_X6_readNumbers (u : zTape) (Q : Int32 → zTape → Prop) : Prop := ∃ N e k : Nat, tTx u N e ∧ k < 10 ∧ u.2.2.2.2.1 = nI k ∧
  (aNum u.1 N k e → ∀ f : Nat → Int32, (∀ i, i < nN k → f i = nAr u.1 N k e i) → Q 1 (u.1, f, u.2.2.1, nI (nEnd u.1 N k e), u.2.2.2.2.1, u.2.2.2.2.2.1, u.2.2.2.2.2.2)) ∧
  (¬ aNum u.1 N k e → ∀ (f : Nat → Int32) (a : Int32), Q 0 (u.1, f, u.2.2.1, a, u.2.2.2.2.1, u.2.2.2.2.2.1, nI (nmB u.1 N (nPos u.1 N e (nBad u.1 N k e)))))
theorem nN_le (k : Nat) : nN k ≤ 4 := by
  unfold nN
  split <;> decide
theorem nN_6 : nN 6 = 1 := rfl
theorem st_X6_readNumbers {u : zTape} {Q : Int32 → zTape → Prop} (h : s_X6_readNumbers u Q) : v_X6_readNumbers u Q := by
  obtain ⟨N, e, k, ht, hk, ek, h1, h0⟩ := h
  have hN := ht.1
  have he := ht.2.1
  have hn4 := nN_le k
  refine ⟨fun n y1 y2 z => (∃ (j : Nat) (f : Nat → Int32), j ≤ nN k ∧ n = nN k - j ∧ y1 = nI (nN k) ∧ y2 = nI j ∧ z = (u.1, f, u.2.2.1, nI (nPos u.1 N e j), u.2.2.2.2.1, u.2.2.2.2.2.1, u.2.2.2.2.2.2) ∧ (∀ i, i < j → nOk u.1 N k e i = true ∧ f i = nmV u.1 N (nPos u.1 N e i)) ∧ (0 < j → ¬ (k = 6 ∧ pkNo u.1 N e = true))) ∨ (∃ f : Nat → Int32, k = 6 ∧ pkNo u.1 N e = true ∧ n = 0 ∧ y1 = 1 ∧ y2 = 1 ∧ f 0 = -1 ∧ z = (u.1, f, u.2.2.1, nI (pSk u.1 N e), u.2.2.2.2.1, u.2.2.2.2.2.1, u.2.2.2.2.2.2)), ?_, ?_⟩
  · rintro n y1 y2 z (⟨j, f, hj, rfl, rfl, rfl, rfl, hall, hpk⟩ | ⟨f, h6, hpk, rfl, rfl, rfl, hf0, rfl⟩)
    · by_cases hlt : j < nN k
      · refine ⟨fun c => absurd ((nI_leI (by omega) (by omega)).mp c) (by omega), fun _ => ⟨fun c => absurd ((nI_leI (a := 4) (b := j) (by decide) (by omega)).mp c) (by omega), fun _ => ?_⟩⟩
        have hP := nPos_le u.1 he j
        have hsk := pSk_le u.1 hP
        have htj : tTx (u.1, f, u.2.2.1, nI (nPos u.1 N e j), u.2.2.2.2.1, u.2.2.2.2.2.1, u.2.2.2.2.2.2) N (nPos u.1 N e j) := ⟨hN, hP, ht.2.2.1, rfl⟩
        have hts := htj.at hsk
        refine ⟨N, nPos u.1 N e j, htj, ?_⟩
        have goN : ¬ (k = 6 ∧ pkNo u.1 N e = true) → s_X6_readNumber (tAt (u.1, f, u.2.2.1, nI (nPos u.1 N e j), u.2.2.2.2.1, u.2.2.2.2.2.1, u.2.2.2.2.2.2) (nI (pSk u.1 N (nPos u.1 N e j)))) (nI j) (fun (r_14 : Int32) (u_15 : zTape) => ((¬ r_14 = 0 → ∀ x_17 : Int32, x_17 = nI j + (1 : Int32) → ∃ k9 : Nat, k9 < nN k - j ∧ ((∃ (j9 : Nat) (f9 : Nat → Int32), j9 ≤ nN k ∧ k9 = nN k - j9 ∧ nI (nN k) = nI (nN k) ∧ x_17 = nI j9 ∧ u_15 = (u.1, f9, u.2.2.1, nI (nPos u.1 N e j9), u.2.2.2.2.1, u.2.2.2.2.2.1, u.2.2.2.2.2.2) ∧ (∀ i, i < j9 → nOk u.1 N k e i = true ∧ f9 i = nmV u.1 N (nPos u.1 N e i)) ∧ (0 < j9 → ¬ (k = 6 ∧ pkNo u.1 N e = true))) ∨ (∃ f : Nat → Int32, k = 6 ∧ pkNo u.1 N e = true ∧ k9 = 0 ∧ nI (nN k) = 1 ∧ x_17 = 1 ∧ f 0 = -1 ∧ u_15 = (u.1, f, u.2.2.1, nI (pSk u.1 N e), u.2.2.2.2.1, u.2.2.2.2.2.1, u.2.2.2.2.2.2)))) ∧ (r_14 = 0 → Q (0 : Int32) u_15))) := by
          intro hno
          obtain ⟨n1, n2, n3, n4⟩ := nm_sk u.1 N (nPos u.1 N e j) (nLo k j) (nHi k j)
          refine ⟨N, pSk u.1 N (nPos u.1 N e j), k, j, hts, pSk_idem u.1 N _, hk, by omega, ek, rfl, fun ok => ⟨fun _ x ex => ?_, fun z => absurd z (by decide)⟩, fun bad => ⟨fun z => absurd rfl z, fun _ => ?_⟩⟩
          · have ok : nmOk u.1 N (nLo k j) (nHi k j) (pSk u.1 N (nPos u.1 N e j)) = true := ok
            rw [n4] at ok
            refine ⟨nN k - (j + 1), by omega, Or.inl ⟨j + 1, upd f j (nmV u.1 N (nPos u.1 N e j)), hlt, rfl, rfl, by rw [ex, nI_1], ?_, fun i hi => ?_, fun _ => hno⟩⟩
            · show (u.1, upd f j (nmV u.1 N (pSk u.1 N (nPos u.1 N e j))), u.2.2.1, nI (nmE u.1 N (pSk u.1 N (nPos u.1 N e j))), _, _, _) = _
              rw [n3, n2]; rfl
            · by_cases q : i = j
              · rw [q]; exact ⟨ok, up_eq rfl⟩
              · obtain ⟨a1, a2⟩ := hall i (by omega)
                exact ⟨a1, (up_ne q).trans a2⟩
          · have bad : nmOk u.1 N (nLo k j) (nHi k j) (pSk u.1 N (nPos u.1 N e j)) = false := bad
            rw [n4] at bad
            have eB : nBad u.1 N k e = j := nBad_at (fun i hi => (hall i hi).1) bad hlt
            have := h0 (fun z => z.elim hno (fun z2 => z2 (by rw [eB]; exact hlt))) f (nI (nmE u.1 N (pSk u.1 N (nPos u.1 N e j))))
            rw [eB] at this
            exact this
        refine ⟨fun c6 => goN (fun z => c6 ?_), fun c6 => digit6 hts (fun hl hd => ⟨fun _ => goN (fun z => ?_), fun z => absurd z (by decide)⟩) (fun hn => ⟨fun z => absurd rfl z, fun _ => ⟨vp_in_nI (by omega) (by decide), fun f2 e2 x ex => ?_⟩⟩)⟩
        · show u.2.2.2.2.1 = 6
          rw [ek, z.1]; rfl
        · have c6 : u.2.2.2.2.1 = 6 := c6
          have k6 : k = 6 := (nI_eq (by omega) (by decide)).mp (show nI k = nI 6 from ek.symm.trans c6)
          have j0 : j = 0 := by
            rw [k6, nN_6] at hlt
            omega
          rw [j0] at hl hd
          have hl : pSk u.1 N e < N := hl
          have hd : isDg u.1 (pSk u.1 N e) = true := hd
          have := z.2
          unfold pkNo at this
          rw [decide_eq_true hl, hd] at this
          exact absurd this (by decide)
        · have c6 : u.2.2.2.2.1 = 6 := c6
          have k6 : k = 6 := (nI_eq (by omega) (by decide)).mp (show nI k = nI 6 from ek.symm.trans c6)
          have j0 : j = 0 := by
            rw [k6, nN_6] at hlt
            omega
          subst j0
          have hn : ¬ (pSk u.1 N e < N ∧ isDg u.1 (pSk u.1 N e) = true) := hn
          have hpk2 : pkNo u.1 N e = true := by
            unfold pkNo
            by_cases z : pSk u.1 N e < N
            · have : isDg u.1 (pSk u.1 N e) = false := by
                cases q : isDg u.1 (pSk u.1 N e) with
                | false => rfl
                | true => exact absurd ⟨z, q⟩ hn
              rw [this, Bool.and_false]; rfl
            · rw [decide_eq_false z, Bool.false_and]; rfl
          subst k6
          have e2 : f2 = upd f 0 (-1) := e2
          exact ⟨0, by rw [nN_6]; omega, Or.inr ⟨f2, rfl, hpk2, rfl, rfl, ex, by rw [e2]; exact up_eq rfl, rfl⟩⟩
      · have hj2 : j = nN k := by omega
        subst hj2
        refine ⟨fun _ => ?_, fun c => absurd (nI_le (Nat.le_refl _) (by omega)) c⟩
        have hno : ¬ (k = 6 ∧ pkNo u.1 N e = true) := fun z => by
          by_cases q : 0 < nN k
          · exact hpk q z
          · rw [z.1, nN_6] at q; omega
        have eB : nBad u.1 N k e = nN k := nBad_none (fun i hi => (hall i hi).1)
        have := h1 (Or.inr (by rw [eB]; omega)) f (fun i hi => (hall i hi).2.trans (if_neg hno).symm)
        have e2 : nEnd u.1 N k e = nPos u.1 N e (nN k) := if_neg hno
        rw [e2] at this
        exact this
    · refine ⟨fun _ => ?_, fun c => absurd (by decide) c⟩
      subst h6
      have := h1 (Or.inl ⟨rfl, hpk⟩) f (fun i hi => ?_)
      · have e2 : nEnd u.1 N 6 e = pSk u.1 N e := if_pos ⟨rfl, hpk⟩
        rw [e2] at this
        exact this
      · have i0 : i = 0 := by
          rw [nN_6] at hi
          omega
        rw [i0, hf0]
        exact (if_pos ⟨rfl, hpk⟩).symm
  · have ht0 : ¬ u.2.2.2.2.1 < 0 := by rw [ek]; exact nI_pos (by omega)
    have ht1 : u.2.2.2.2.1 < 10 := by rw [ek]; exact nI_lt (b := 10) hk (by decide)
    refine ⟨fun c => absurd c ht0, fun _ => ⟨fun _ => ⟨by rw [ek]; exact vp_in_nI hk (by decide), fun x ex => ?_⟩, fun c => absurd ht1 c⟩⟩
    rw [ek, nI_clamp (by omega)] at ex
    refine ⟨nN k - 0, Or.inl ⟨0, u.2.1, Nat.zero_le _, rfl, ex, rfl, ?_, fun i hi => absurd hi (Nat.not_lt_zero i), fun q => absurd q (Nat.lt_irrefl 0)⟩⟩
    show u = (u.1, u.2.1, u.2.2.1, nI e, u.2.2.2.2)
    rw [← ht.2.2.2]
theorem c_X6_readNumbers (l : Launch) (dC : Nat → ClassId) (dI : Nat → Nat → Nat) (cI cJ cS : ClassId) (a : Nat → Nat) (u : zTape) (Q : Int32 → zTape → Prop) (hf : s_X6_readNumbers u Q) : ∀ sz : Nat, Met l yX6_readNumbers (Cond.code yX6_readNumbers cX6_readNumbers 3 (some .boolean) :: zT) rm_X6_readNumbers (zPmF zFy dC dI cI cJ cS (cl_X6 cI cJ a u) [.ref (a 0)] sz) (va_Qi (fun r u => (r = 0 ∨ r = 1) ∧ Q r u) (zB dC dI cI cJ cS (va_A (cl_X6 cI cJ a u) sz) (fun z => cl_X6 cI cJ a z)) (va_A (cl_X6 cI cJ a u) sz)) 0 0 (va_A (cl_X6 cI cJ a u) sz) := by
  obtain ⟨I33, h33, hf⟩ := st_X6_readNumbers hf
  exact L_X6_readNumbers l dC dI cI cJ cS a u Q I33 h33 hf
