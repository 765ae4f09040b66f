def t_X6_readAct (u : zTape) (x1 : Int32) (Q : Int32 → zTape → Prop) : Prop := s_X6_skipBlanks u (fun (u_2 : zTape) => ((u_2.2.2.2.1 < u_2.2.2.1 → ((x1 ≤ 0 → s_X6_readWord u_2 x1 (fun (r_5 : Int32) (u_6 : zTape) => ((r_5 = 0 → Q (0 : Int32) u_6) ∧ (¬ r_5 = 0 → s_X6_readNumbers u_6 (fun (r_8 : Int32) (u_9 : zTape) => ((r_8 = 0 → Q (0 : Int32) u_9) ∧ (¬ r_8 = 0 → Q (1 : Int32) u_9))))))) ∧ (¬ x1 ≤ 0 → s_X6_here u_2 (fun r_11 : Int32 => ((r_11 = (59 : Int32) → ∀ x_13 : Int32, x_13 = (u_2.2.2.2.1 + (1 : Int32)) → s_X6_skipBlanks (u_2.1, u_2.2.1, u_2.2.2.1, x_13, u_2.2.2.2.2.1, u_2.2.2.2.2.2.1, u_2.2.2.2.2.2.2) (fun (u_15 : zTape) => s_X6_readWord u_15 x1 (fun (r_16 : Int32) (u_17 : zTape) => ((r_16 = 0 → Q (0 : Int32) u_17) ∧ (¬ r_16 = 0 → s_X6_readNumbers u_17 (fun (r_19 : Int32) (u_20 : zTape) => ((r_19 = 0 → Q (0 : Int32) u_20) ∧ (¬ r_19 = 0 → Q (1 : Int32) u_20)))))))) ∧ (¬ r_11 = (59 : Int32) → s_X6_isWrong u_2 u_2.2.2.2.1 (fun (r_22 : Int32) (u_23 : zTape) => Q r_22 u_23))))))) ∧ (¬ u_2.2.2.2.1 < u_2.2.2.1 → Q (0 : Int32) u_2)))
theorem zc_X6_readAct : zCalV RX6 yX6_readAct cX6_readAct 2 (some .boolean) 1 := ⟨q_im_X6_readAct, q_se_X6_readAct, q_in_X6, q_cd_X6_readAct, ⟨by decide, by decide, by decide +kernel⟩, rfl⟩
abbrev rm_X6_readAct : Room := { frames := 7, cells := 0, slots := 0, locals := 154 }
set_option maxHeartbeats 4000000 in
set_option maxRecDepth 100000 in
theorem L_X6_readAct (l : Launch) (dC : Nat → ClassId) (dI : Nat → Nat → Nat) (cI cJ cS : ClassId) (a : Nat → Nat) (u : zTape) (x1 : Int32) (Q : Int32 → zTape → Prop) (hf : t_X6_readAct u x1 Q) : ∀ sz : Nat, Met l yX6_readAct (Cond.code yX6_readAct cX6_readAct 2 (some .boolean) :: zT) rm_X6_readAct (zPmF zFy dC dI cI cJ cS (cl_X6 cI cJ a u) [.ref (a 0), .int x1] sz) (va_Qi (fun r u => (r = 0 ∨ r = 1) ∧ Q r u) (zB dC dI cI cJ cS (va_A (cl_X6 cI cJ a u) sz) (fun z => cl_X6 cI cJ a z)) (va_A (cl_X6 cI cJ a u) sz)) 0 0 (va_A (cl_X6 cI cJ a u) sz) := by
  intro sz
  refine z_enterMF (Qc := fun A => va_Qi (fun r u => (r = 0 ∨ r = 1) ∧ Q r u) (zB dC dI cI cJ cS A (fun z => cl_X6 cI cJ a z)) A) (cc := cX6_readAct) (maxL := 2) (ret := (some .boolean)) (by decide) (Nat.le_of_ble_eq_true rfl) ?_
  intro p e s m below meth c ls A X hP hD hS hA hF hl
  obtain ⟨⟨hx, hb, hml, hown, hts⟩, hr, hlk, hK⟩ := id X
  have hl : lv_has ls 2 [(0, .ref (a 0)), (1, .int x1)] := hl
  unfold t_X6_readAct at hf
  refine lv_aload_n hx hb dX6_readAct_0 rfl (lv_at hl 0 rfl) ?_
  refine z_mVv (Wn := (fun u_2 => cl_X6 cI cJ a u_2)) (As := []) (rest := []) (wr := []) X (c_X6_skipBlanks l dC dI cI cJ cS a u  _ hf _) zc_X6_skipBlanks q_ml_X6_32 ⟨rfl, rfl⟩ ⟨Nat.le_of_ble_eq_true rfl, Nat.le_of_ble_eq_true rfl⟩ hP hD hS hA [0, 1, 2] [] rfl (by decide) rfl (by decide) (by decide) [0, 1, 2] (by decide) (fun _ => rfl) 5 rfl rfl hl.1 rfl rfl (Nat.le_of_ble_eq_true rfl) ⟨Nat.zero_le _, Nat.zero_le _⟩ dX6_readAct_1 (fun u_2 H locs hf hP hD hS => ?_)
  refine lv_aload_n hx hb dX6_readAct_4 rfl (lv_at hl 0 rfl) ?_
  refine va_get (D := (dC, dI)) (ci := 5) (v := .int u_2.2.2.2.1) (C := RX6) (T := TX6) (N := 7) hx hb hts inX6 hown hK hP 0 rfl rfl 3 (by decide) (hts _ q_fl_X6_26) (fun _ h9 => h9) rfl dX6_readAct_5 ?_
  refine lv_aload_n hx hb dX6_readAct_8 rfl (lv_at hl 0 rfl) ?_
  refine va_get (D := (dC, dI)) (ci := 5) (v := .int u_2.2.2.1) (C := RX6) (T := TX6) (N := 7) hx hb hts inX6 hown hK hP 0 rfl rfl 2 (by decide) (hts _ q_fl_X6_18) (fun _ h9 => h9) rfl dX6_readAct_9 ?_
  refine lv_icmp_lt (tgt := 17) hx hb dX6_readAct_12 (by decide) (fun c_3 => ?_) (fun c_3 => ?_)
  · have hf := hf.1 c_3
    refine lv_iload_n hx hb dX6_readAct_17 rfl (lv_at hl 1 rfl) ?_
    refine lv_if_le (tgt := 53) hx hb dX6_readAct_18 (by decide) (fun c_4 => ?_) (fun c_4 => ?_)
    · have hf := hf.1 c_4
      refine lv_aload_n hx hb dX6_readAct_53 rfl (lv_at hl 0 rfl) ?_
      refine lv_iload_n hx hb dX6_readAct_54 rfl (lv_at hl 1 rfl) ?_
      refine z_mViF (Wn := (fun u_6 => cl_X6 cI cJ a u_6)) (As := [.int x1]) (rest := []) (wr := []) X fro_Fz hF.1 (c_X6_readWord l dC dI cI cJ cS a u_2 x1 _ hf _) zc_X6_readWord q_ml_X6_42 ⟨rfl, rfl⟩ ⟨Nat.le_of_ble_eq_true rfl, Nat.le_of_ble_eq_true rfl⟩ hP hD hS hA [0, 1, 2] [] rfl (by decide) rfl (by decide) (by decide) [0, 1, 2] (by decide) (fun _ => rfl) 5 rfl rfl hl.1 rfl rfl (Nat.le_of_ble_eq_true rfl) ⟨Nat.zero_le _, Nat.zero_le _⟩ dX6_readAct_55 (fun r_5 u_6 H locs hf hP hD hS => ?_)
      obtain ⟨hbr_5, hf⟩ := hf
      refine lv_if_eq (tgt := 72) hx hb dX6_readAct_58 (by decide) (fun c_7 => ?_) (fun c_7 => ?_)
      · have hf := hf.1 c_7
        refine lv_iconst (v := 0) hx hb dX6_readAct_72 (by decide) ?_
        exact z_retMz (Wf := (fun z => cl_X6 cI cJ a z)) (u := u_6) X (Or.inl rfl) hf hP hD hS dX6_readAct_73
      · have hf := hf.2 c_7
        refine lv_aload_n hx hb dX6_readAct_61 rfl (lv_at hl 0 rfl) ?_
        refine z_mViF (Wn := (fun u_9 => cl_X6 cI cJ a u_9)) (As := []) (rest := []) (wr := []) X fro_Fy hF (c_X6_readNumbers l dC dI cI cJ cS a u_6  _ hf _) zc_X6_readNumbers q_ml_X6_45 ⟨rfl, rfl⟩ ⟨Nat.le_of_ble_eq_true rfl, Nat.le_of_ble_eq_true rfl⟩ hP hD hS hA [0, 1, 2] [] rfl (by decide) rfl (by decide) (by decide) [0, 1, 2] (by decide) (fun _ => rfl) 5 rfl rfl hl.1 rfl rfl (Nat.le_of_ble_eq_true rfl) ⟨Nat.zero_le _, Nat.zero_le _⟩ dX6_readAct_62 (fun r_8 u_9 H locs hf hP hD hS => ?_)
        obtain ⟨hbr_8, hf⟩ := hf
        refine lv_if_eq (tgt := 72) hx hb dX6_readAct_65 (by decide) (fun c_10 => ?_) (fun c_10 => ?_)
        · have hf := hf.1 c_10
          refine lv_iconst (v := 0) hx hb dX6_readAct_72 (by decide) ?_
          exact z_retMz (Wf := (fun z => cl_X6 cI cJ a z)) (u := u_9) X (Or.inl rfl) hf hP hD hS dX6_readAct_73
        · have hf := hf.2 c_10
          refine lv_iconst (v := 1) hx hb dX6_readAct_68 (by decide) ?_
          refine lv_goto (tgt := 73) hx hb dX6_readAct_69 (by decide) ?_
          exact z_retMz (Wf := (fun z => cl_X6 cI cJ a z)) (u := u_9) X (Or.inr rfl) hf hP hD hS dX6_readAct_73
    · have hf := hf.2 c_4
      refine lv_aload_n hx hb dX6_readAct_21 rfl (lv_at hl 0 rfl) ?_
      refine z_cVi (As := []) (rest := []) X (c_X6_here l dC dI cI cJ cS a u_2  _ hf) zc_X6_here q_ml_X6_35 ⟨rfl, rfl⟩ ⟨Nat.le_of_ble_eq_true rfl, Nat.le_of_ble_eq_true rfl⟩ hP [0, 1, 2] rfl 5 rfl rfl hl.1 rfl rfl (Nat.le_of_ble_eq_true rfl) ⟨Nat.zero_le _, Nat.zero_le _⟩ dX6_readAct_22 (fun r_11 hf => ?_)
      refine lv_bipush (v := 59) hx hb dX6_readAct_25 (by decide) ?_
      refine lv_icmp_eq (tgt := 39) hx hb dX6_readAct_27 (by decide) (fun c_12 => ?_) (fun c_12 => ?_)
      · have hf := hf.1 c_12
        refine lv_aload_n hx hb dX6_readAct_39 rfl (lv_at hl 0 rfl) ?_
        refine lv_dup hx hb dX6_readAct_40 rfl ?_
        refine va_get (D := (dC, dI)) (ci := 5) (v := .int u_2.2.2.2.1) (C := RX6) (T := TX6) (N := 7) hx hb hts inX6 hown hK hP 0 rfl rfl 3 (by decide) (hts _ q_fl_X6_26) (fun _ h9 => h9) rfl dX6_readAct_41 ?_
        refine lv_iconst (v := 1) hx hb dX6_readAct_44 (by decide) ?_
        refine lv_iadd hx hb dX6_readAct_45 ?_
        refine lv_topi (fun x_13 ex_13 => ?_)
        have hf := hf x_13 ex_13
        refine z_put (w' := cl_X6 cI cJ a (u_2.1, u_2.2.1, u_2.2.2.1, x_13, u_2.2.2.2.2.1, u_2.2.2.2.2.2.1, u_2.2.2.2.2.2.2)) (ci := 5) (v := .int x_13) (ty := .int) (Cn := RX6) (T := TX6) (N := 7) X inX6 tyX6 tyX6_ok nmX6 hP hD hS 0 rfl rfl 3 (by decide) (hts _ q_fl_X6_26) (fun _ h9 => h9) rfl (tyX6_ok 3 (by decide)) rfl rfl (Nat.le_of_ble_eq_true rfl) rfl dX6_readAct_46 (fun H locs hP hD hS => ?_)
        refine lv_aload_n hx hb dX6_readAct_49 rfl (lv_at hl 0 rfl) ?_
        refine z_mVv (Wn := (fun u_15 => cl_X6 cI cJ a u_15)) (As := []) (rest := []) (wr := []) X (c_X6_skipBlanks l dC dI cI cJ cS a (u_2.1, u_2.2.1, u_2.2.2.1, x_13, u_2.2.2.2.2.1, u_2.2.2.2.2.2.1, u_2.2.2.2.2.2.2)  _ hf _) zc_X6_skipBlanks q_ml_X6_32 ⟨rfl, rfl⟩ ⟨Nat.le_of_ble_eq_true rfl, Nat.le_of_ble_eq_true rfl⟩ hP hD hS hA [0, 1, 2] [] rfl (by decide) rfl (by decide) (by decide) [0, 1, 2] (by decide) (fun _ => rfl) 5 rfl rfl hl.1 rfl rfl (Nat.le_of_ble_eq_true rfl) ⟨Nat.zero_le _, Nat.zero_le _⟩ dX6_readAct_50 (fun u_15 H locs hf hP hD hS => ?_)
        refine lv_aload_n hx hb dX6_readAct_53 rfl (lv_at hl 0 rfl) ?_
        refine lv_iload_n hx hb dX6_readAct_54 rfl (lv_at hl 1 rfl) ?_
        refine z_mViF (Wn := (fun u_17 => cl_X6 cI cJ a u_17)) (As := [.int x1]) (rest := []) (wr := []) X fro_Fz hF.1 (c_X6_readWord l dC dI cI cJ cS a u_15 x1 _ hf _) zc_X6_readWord q_ml_X6_42 ⟨rfl, rfl⟩ ⟨Nat.le_of_ble_eq_true rfl, Nat.le_of_ble_eq_true rfl⟩ hP hD hS hA [0, 1, 2] [] rfl (by decide) rfl (by decide) (by decide) [0, 1, 2] (by decide) (fun _ => rfl) 5 rfl rfl hl.1 rfl rfl (Nat.le_of_ble_eq_true rfl) ⟨Nat.zero_le _, Nat.zero_le _⟩ dX6_readAct_55 (fun r_16 u_17 H locs hf hP hD hS => ?_)
        obtain ⟨hbr_16, hf⟩ := hf
        refine lv_if_eq (tgt := 72) hx hb dX6_readAct_58 (by decide) (fun c_18 => ?_) (fun c_18 => ?_)
        · have hf := hf.1 c_18
          refine lv_iconst (v := 0) hx hb dX6_readAct_72 (by decide) ?_
          exact z_retMz (Wf := (fun z => cl_X6 cI cJ a z)) (u := u_17) X (Or.inl rfl) hf hP hD hS dX6_readAct_73
        · have hf := hf.2 c_18
          refine lv_aload_n hx hb dX6_readAct_61 rfl (lv_at hl 0 rfl) ?_
          refine z_mViF (Wn := (fun u_20 => cl_X6 cI cJ a u_20)) (As := []) (rest := []) (wr := []) X fro_Fy hF (c_X6_readNumbers l dC dI cI cJ cS a u_17  _ hf _) zc_X6_readNumbers q_ml_X6_45 ⟨rfl, rfl⟩ ⟨Nat.le_of_ble_eq_true rfl, Nat.le_of_ble_eq_true rfl⟩ hP hD hS hA [0, 1, 2] [] rfl (by decide) rfl (by decide) (by decide) [0, 1, 2] (by decide) (fun _ => rfl) 5 rfl rfl hl.1 rfl rfl (Nat.le_of_ble_eq_true rfl) ⟨Nat.zero_le _, Nat.zero_le _⟩ dX6_readAct_62 (fun r_19 u_20 H locs hf hP hD hS => ?_)
          obtain ⟨hbr_19, hf⟩ := hf
          refine lv_if_eq (tgt := 72) hx hb dX6_readAct_65 (by decide) (fun c_21 => ?_) (fun c_21 => ?_)
          · have hf := hf.1 c_21
            refine lv_iconst (v := 0) hx hb dX6_readAct_72 (by decide) ?_
            exact z_retMz (Wf := (fun z => cl_X6 cI cJ a z)) (u := u_20) X (Or.inl rfl) hf hP hD hS dX6_readAct_73
          · have hf := hf.2 c_21
            refine lv_iconst (v := 1) hx hb dX6_readAct_68 (by decide) ?_
            refine lv_goto (tgt := 73) hx hb dX6_readAct_69 (by decide) ?_
            exact z_retMz (Wf := (fun z => cl_X6 cI cJ a z)) (u := u_20) X (Or.inr rfl) hf hP hD hS dX6_readAct_73
      · have hf := hf.2 c_12
        refine lv_aload_n hx hb dX6_readAct_30 rfl (lv_at hl 0 rfl) ?_
        refine lv_aload_n hx hb dX6_readAct_31 rfl (lv_at hl 0 rfl) ?_
        refine va_get (D := (dC, dI)) (ci := 5) (v := .int u_2.2.2.2.1) (C := RX6) (T := TX6) (N := 7) hx hb hts inX6 hown hK hP 0 rfl rfl 3 (by decide) (hts _ q_fl_X6_26) (fun _ h9 => h9) rfl dX6_readAct_32 ?_
        refine z_mVi (Wn := (fun u_23 => cl_X6 cI cJ a u_23)) (As := [.int u_2.2.2.2.1]) (rest := []) (wr := []) X (c_X6_isWrong l dC dI cI cJ cS a u_2 u_2.2.2.2.1 _ hf _) zc_X6_isWrong q_ml_X6_39 ⟨rfl, rfl⟩ ⟨Nat.le_of_ble_eq_true rfl, Nat.le_of_ble_eq_true rfl⟩ hP hD hS hA [0, 1, 2] [] rfl (by decide) rfl (by decide) (by decide) [0, 1, 2] (by decide) (fun _ => rfl) 5 rfl rfl hl.1 rfl rfl (Nat.le_of_ble_eq_true rfl) ⟨Nat.zero_le _, Nat.zero_le _⟩ dX6_readAct_35 (fun r_22 u_23 H locs hf hP hD hS => ?_)
        obtain ⟨hbr_22, hf⟩ := hf
        exact z_retMz (Wf := (fun z => cl_X6 cI cJ a z)) (u := u_23) X hbr_22 hf hP hD hS dX6_readAct_38
  · have hf := hf.2 c_3
    refine lv_iconst (v := 0) hx hb dX6_readAct_15 (by decide) ?_
    exact z_retMz (Wf := (fun z => cl_X6 cI cJ a z)) (u := u_2) X (Or.inl rfl) hf hP hD hS dX6_readAct_16
theorem aWr_num {t : Nat → Int32} {N q : Nat} (h10 : ¬ wdK t N q = 10) (h : aNum t N (wdK t N q) (wdE t N q)) : aWr t N q = 0 := by
  unfold aWr
  rw [if_neg h10]
  rcases h with h | h
  · rw [if_pos h]
  · by_cases c : wdK t N q = 6 ∧ pkNo t N (wdE t N q) = true
    · rw [if_pos c]
    · rw [if_neg c, if_neg h]
theorem aWr_nnum {t : Nat → Int32} {N q : Nat} (h10 : ¬ wdK t N q = 10) (h : ¬ aNum t N (wdK t N q) (wdE t N q)) : aWr t N q = nmB t N (nPos t N (wdE t N q) (nBad t N (wdK t N q) (wdE t N q))) + 1 := by
  unfold aWr
  rw [if_neg h10, if_neg (fun z => h (Or.inl z)), if_pos]
  by_cases c : nBad t N (wdK t N q) (wdE t N q) < nN (wdK t N q)
  · exact c
  · exact absurd (Or.inr c) h
/-- an ACT is read at q -/
def s_X6_readAct (u : zTape) (x1 : Int32) (Q : Int32 → zTape → Prop) : Prop := ∃ N p n : Nat, tTx u N p ∧ n ≤ 16 ∧ x1 = nI n ∧
  (¬ pSk u.1 N p < N → Q 0 (tAt u (nI (pSk u.1 N p)))) ∧
  (pSk u.1 N p < N → 0 < n → ¬ u.1 (pSk u.1 N p) = 59 → ∀ (f : Nat → Int32) (a b c : Int32), Q 0 (u.1, f, u.2.2.1, a, b, c, nI (pSk u.1 N p))) ∧
  (pSk u.1 N p < N → (0 < n → u.1 (pSk u.1 N p) = 59) → 14 ≤ n → ∀ (f : Nat → Int32) (a b c : Int32), Q 0 (u.1, f, u.2.2.1, a, b, c, nI (txX u.1 N n p))) ∧
  (pSk u.1 N p < N → (0 < n → u.1 (pSk u.1 N p) = 59) → n < 14 → 0 < aWr u.1 N (txX u.1 N n p) → ∀ (f : Nat → Int32) (a b c : Int32), Q 0 (u.1, f, u.2.2.1, a, b, c, nI (aWr u.1 N (txX u.1 N n p) - 1))) ∧
  (pSk u.1 N p < N → (0 < n → u.1 (pSk u.1 N p) = 59) → n < 14 → aWr u.1 N (txX u.1 N n p) = 0 → ∀ f : Nat → Int32, (∀ i, i < nN (wdK u.1 N (txX u.1 N n p)) → f i = nAr u.1 N (wdK u.1 N (txX u.1 N n p)) (wdE u.1 N (txX u.1 N n p)) i) → Q 1 (u.1, f, u.2.2.1, nI (nEnd u.1 N (wdK u.1 N (txX u.1 N n p)) (wdE u.1 N (txX u.1 N n p))), nI (wdK u.1 N (txX u.1 N n p)), nI (txX u.1 N n p), u.2.2.2.2.2.2))
theorem st_X6_readAct {u : zTape} {x1 : Int32} {Q : Int32 → zTape → Prop} (h : s_X6_readAct u x1 Q) : t_X6_readAct u x1 Q := by
  obtain ⟨N, p, n, ht, hn, rfl, g0, g1, g2, g3, g4⟩ := h
  have hN := ht.1
  have hsk := pSk_le u.1 ht.2.1
  refine ⟨N, p, ht, fun c => ?_, fun c => ?_⟩
  · have c : nI (pSk u.1 N p) < u.2.2.1 := c
    rw [ht.2.2.1] at c
    have hlt : pSk u.1 N p < N := by
      have : ¬ N ≤ pSk u.1 N p := fun z => absurd c (nI_nlt z (by omega))
      omega
    -- the word and the numbers at q
    have word : ∀ q : Nat, q ≤ N → q = txX u.1 N n p → (0 < n → u.1 (pSk u.1 N p) = 59) → s_X6_readWord (tAt u (nI q)) (nI n) (fun (r_5 : Int32) (u_6 : zTape) => ((r_5 = 0 → Q (0 : Int32) u_6) ∧ (¬ r_5 = 0 → s_X6_readNumbers u_6 (fun (r_8 : Int32) (u_9 : zTape) => ((r_8 = 0 → Q (0 : Int32) u_9) ∧ (¬ r_8 = 0 → Q (1 : Int32) u_9)))))) := by
      intro q hq eq hsep
      have g2 := g2 hlt hsep
      have g3 := g3 hlt hsep
      have g4 := g4 hlt hsep
      rw [← eq] at g2 g3 g4
      have hK := wdK_le u.1 N q
      refine ⟨N, q, n, ht.at hq, hn, rfl, fun h14 h10 => ⟨fun z => absurd z (by decide), fun _ => ?_⟩, fun hw => ⟨fun _ => ?_, fun z => absurd rfl z⟩⟩
      · have h10 : ¬ wdK u.1 N q = 10 := h10
        have heN : wdE u.1 N q ≤ N := pRun_le _ hq
        refine ⟨N, wdE u.1 N q, wdK u.1 N q, ⟨hN, heN, ht.2.2.1, rfl⟩, by omega, rfl, fun ok f hf => ⟨fun z => absurd z (by decide), fun _ => g4 h14 (aWr_num h10 ok) f hf⟩, fun bad f a => ⟨fun _ => ?_, fun z => absurd rfl z⟩⟩
        have e := aWr_nnum h10 bad
        have := g3 h14 (by rw [e]; omega) f a (nI (wdK u.1 N q)) (nI q)
        rw [e, Nat.add_sub_cancel] at this
        exact this
      · show Q 0 (u.1, u.2.1, u.2.2.1, nI q, -1, nI q, nI q)
        by_cases h14 : 14 ≤ n
        · exact g2 h14 u.2.1 (nI q) (-1) (nI q)
        · rcases hw with hw | hw
          · exact absurd hw h14
          · have hw : wdK u.1 N q = 10 := hw
            have e : aWr u.1 N q = q + 1 := by unfold aWr; rw [if_pos hw]
            have := g3 (by omega) (by rw [e]; omega) u.2.1 (nI q) (-1) (nI q)
            rw [e, Nat.add_sub_cancel] at this
            exact this
    refine ⟨fun c0 => ?_, fun c0 => here6 (ht.at hsk) (fun _ => ⟨fun d x ex => ?_, fun d => ?_⟩) (fun z => absurd hlt z)⟩
    · have h0 : n = 0 := by
        have := (nI_leI (a := n) (b := 0) (by omega) (by decide)).mp c0
        omega
      exact word (pSk u.1 N p) hsk (by unfold txX; rw [if_pos h0]) (fun z => by omega)
    · have d : u.1 (pSk u.1 N p) = 59 := d
      have h0 : ¬ n = 0 := fun z => c0 (by rw [z]; decide)
      have ex : x = nI (pSk u.1 N p) + 1 := ex
      rw [nI_1] at ex
      subst ex
      refine ⟨N, pSk u.1 N p + 1, ⟨hN, by omega, ht.2.2.1, rfl⟩, ?_⟩
      exact word (pSk u.1 N (pSk u.1 N p + 1)) (pSk_le u.1 (by omega)) (by unfold txX; rw [if_neg h0]) (fun _ => d)
    · have h0 : 0 < n := by
        by_cases z : n = 0
        · exact absurd (by rw [z]; decide) c0
        · omega
      exact g1 hlt h0 d u.2.1 _ _ _
  · refine g0 (fun z => c ?_)
    show nI (pSk u.1 N p) < u.2.2.1
    rw [ht.2.2.1]
    exact nI_lt z (by omega)
theorem c_X6_readAct (l : Launch) (dC : Nat → ClassId) (dI : Nat → Nat → Nat) (cI cJ cS : ClassId) (a : Nat → Nat) (u : zTape) (x1 : Int32) (Q : Int32 → zTape → Prop) (hf : s_X6_readAct u x1 Q) : ∀ sz : Nat, Met l yX6_readAct (Cond.code yX6_readAct cX6_readAct 2 (some .boolean) :: zT) rm_X6_readAct (zPmF zFy dC dI cI cJ cS (cl_X6 cI cJ a u) [.ref (a 0), .int x1] sz) (va_Qi (fun r u => (r = 0 ∨ r = 1) ∧ Q r u) (zB dC dI cI cJ cS (va_A (cl_X6 cI cJ a u) sz) (fun z => cl_X6 cI cJ a z)) (va_A (cl_X6 cI cJ a u) sz)) 0 0 (va_A (cl_X6 cI cJ a u) sz) := L_X6_readAct l dC dI cI cJ cS a u x1 Q (st_X6_readAct hf)
