def t_X6_isWord_e (u : zTape) (bs1 : List Int32) (x2 : Int32) (x3 : Int32) (K26 : Int32 → zTape → Prop) (Q : Int32 → zTape → Prop) : Prop := ((x2 < 0 → Q (0 : Int32) u) ∧ (¬ x2 < 0 → (((400 : Int32) < x3 → Q (0 : Int32) u) ∧ (¬ (400 : Int32) < x3 → (((x3 - x2) = (nI bs1.length) → K26 (0 : Int32) u) ∧ (¬ (x3 - x2) = (nI bs1.length) → Q (0 : Int32) u))))))
def t_X6_isWord_26 (bs1 : List Int32) (x2 : Int32) (x3 : Int32) (y4 : Int32) (z : zTape) (K26 : Int32 → zTape → Prop) (Q : Int32 → zTape → Prop) : Prop := (((nI bs1.length) ≤ y4 → Q (1 : Int32) z) ∧ (¬ (nI bs1.length) ≤ y4 → vp_in (x2 + y4) 400 ∧ (∃ k_6 : Nat, y4 = nI k_6 ∧ k_6 < bs1.length ∧ zTxt bs1 ∧ (((z.1 (x2 + y4).toNatClampNeg) = (bs1.getD k_6 0) → ∀ x_8 : Int32, x_8 = y4 + (1 : Int32) → K26 x_8 z) ∧ (¬ (z.1 (x2 + y4).toNatClampNeg) = (bs1.getD k_6 0) → Q (0 : Int32) z)))))
theorem zc_X6_isWord : zCalV RX6 yX6_isWord cX6_isWord 5 (some .boolean) 3 := ⟨q_im_X6_isWord, q_se_X6_isWord, q_in_X6, q_cd_X6_isWord, ⟨by decide, by decide, by decide +kernel⟩, rfl⟩
abbrev rm_X6_isWord : Room := { frames := 4, cells := 0, slots := 0, locals := 85 }
def v_X6_isWord (u : zTape) (bs1 : List Int32) (x2 : Int32) (x3 : Int32) (Q : Int32 → zTape → Prop) : Prop := ∃ I26 : Nat → Int32 → zTape → Prop, (∀ (n : Nat) (y4 : Int32) (z : zTape), I26 n y4 z → t_X6_isWord_26 bs1 x2 x3 y4 z (fun q0 q1 => ∃ k : Nat, k < n ∧ I26 k q0 q1) Q) ∧ t_X6_isWord_e u bs1 x2 x3 (fun q0 q1 => ∃ k : Nat, I26 k q0 q1) Q
set_option maxHeartbeats 4000000 in
set_option maxRecDepth 100000 in
theorem L_X6_isWord (l : Launch) (dC : Nat → ClassId) (dI : Nat → Nat → Nat) (cI cJ cS : ClassId) (a : Nat → Nat) (q1 : Nat) (u : zTape) (bs1 : List Int32) (x2 : Int32) (x3 : Int32) (Q : Int32 → zTape → Prop) (I26 : Nat → Int32 → zTape → Prop) (h26 : ∀ (n : Nat) (y4 : Int32) (z : zTape), I26 n y4 z → t_X6_isWord_26 bs1 x2 x3 y4 z (fun q0 q1 => ∃ k : Nat, k < n ∧ I26 k q0 q1) Q) (hf : t_X6_isWord_e u bs1 x2 x3 (fun q0 q1 => ∃ k : Nat, I26 k q0 q1) Q) : ∀ sz : Nat, Met l yX6_isWord (Cond.code yX6_isWord cX6_isWord 5 (some .boolean) :: zT) rm_X6_isWord (zPmF (zFzs q1 bs1) dC dI cI cJ cS (cl_X6 cI cJ a u) [.ref (a 0), .ref q1, .int x2, .int x3] sz) (va_Qi (fun r u => (r = 0 ∨ r = 1) ∧ Q r u) (zB dC dI cI cJ cS (va_A (cl_X6 cI cJ a u) sz) (fun z => cl_X6 cI cJ a z)) (va_A (cl_X6 cI cJ a u) sz)) 0 0 (va_A (cl_X6 cI cJ a u) sz) := by
  intro sz
  refine z_enterMF (Qc := fun A => va_Qi (fun r u => (r = 0 ∨ r = 1) ∧ Q r u) (zB dC dI cI cJ cS A (fun z => cl_X6 cI cJ a z)) A) (cc := cX6_isWord) (maxL := 5) (ret := (some .boolean)) (by decide) (Nat.le_of_ble_eq_true rfl) ?_
  intro p e s m below meth c ls A X hP hD hS hA hF hl
  obtain ⟨hF, hs1⟩ := hF
  obtain ⟨⟨hx, hb, hml, hown, hts⟩, hr, hlk, hK⟩ := id X
  have hl : lv_has ls 5 [(0, .ref (a 0)), (1, .ref q1), (2, .int x2), (3, .int x3)] := hl
  have LP : ∀ n : Nat, (∀ (y4 : Int32) (z : zTape) (H : Heap) (locs : List Loc) (ls : Array Slot), I26 n y4 z → va_P (dC, dI) vwCl (cl_X6 cI cJ a z) H → va_D A (cl_X6 cI cJ a z) → va_S A s.heap H locs → lv_has ls 5 [(0, .ref (a 0)), (1, .ref q1), (2, .int x2), (3, .int x3), (4, .int y4)] → W p l e rm_X6_isWord s m [.ref (a 0), .ref q1, .int x2, .int x3].toArray below meth c H locs 0 0 (MQ below (va_Qi (fun r u => (r = 0 ∨ r = 1) ∧ Q r u) (zB dC dI cI cJ cS A (fun z => cl_X6 cI cJ a z)) A) [.ref (a 0), .ref q1, .int x2, .int x3].toArray s 0 0 A) (F0 m 26 ls [])) := by
    intro n
    induction n using Nat.strongRecOn with
    | _ n ih =>
      intro y4 z H locs ls hI hP hD hS hl
      have hf := h26 n y4 z hI
      unfold t_X6_isWord_26 at hf
      refine lv_iload hx hb dX6_isWord_26 (lv_at hl 4 rfl) ?_
      refine lv_aload_n hx hb dX6_isWord_28 rfl (lv_at hl 1 rfl) ?_
      refine z_jV (C := RJ0) (As := []) (rest := [.int y4]) X.1 (fro_Fs bs1 q1) ⟨hF.1, hs1⟩ hs1.1 hS (c_J0_length l bs1 q1) zc_J0_length_8abf5 j_ml_X6_67 ⟨rfl, rfl⟩ ⟨Nat.le_of_ble_eq_true rfl, Nat.le_of_ble_eq_true rfl⟩ hl.1 rfl rfl (Nat.le_of_ble_eq_true rfl) ⟨Nat.zero_le _, Nat.zero_le _⟩ dX6_isWord_29 ?_
      refine lv_icmp_ge (tgt := 61) hx hb dX6_isWord_32 (by decide) (fun c_5 => ?_) (fun c_5 => ?_)
      · have hf := hf.1 c_5
        refine lv_iconst (v := 1) hx hb dX6_isWord_61 (by decide) ?_
        exact z_retMz (Wf := (fun z => cl_X6 cI cJ a z)) (u := z) X (Or.inr rfl) hf hP hD hS dX6_isWord_62
      · have hf := hf.2 c_5
        refine lv_aload_n hx hb dX6_isWord_35 rfl (lv_at hl 0 rfl) ?_
        refine va_get (D := (dC, dI)) (ci := 5) (v := .ref (a 1)) (C := RX6) (T := TX6) (N := 7) hx hb hts inX6 hown hK hP 0 rfl rfl 0 (by decide) (hts _ q_fl_X6_9) (fun _ h9 => h9) rfl dX6_isWord_36 ?_
        refine lv_iload_n hx hb dX6_isWord_39 rfl (lv_at hl 2 rfl) ?_
        refine lv_iload hx hb dX6_isWord_40 (lv_at hl 4 rfl) ?_
        refine lv_iadd hx hb dX6_isWord_42 ?_
        obtain ⟨hg, hf⟩ := hf
        refine va_iald hx hb hK hP 1 0 rfl rfl hg dX6_isWord_43 ?_
        refine lv_aload_n hx hb dX6_isWord_44 rfl (lv_at hl 1 rfl) ?_
        refine lv_iload hx hb dX6_isWord_45 (lv_at hl 4 rfl) ?_
        obtain ⟨k_6, ek_6, lk_6, tk_6, hf⟩ := hf
        refine z_jV (C := RJ0) (As := [.int (nI k_6)]) (rest := [.int (z.1 (x2 + y4).toNatClampNeg)]) X.1 (fro_Fs bs1 q1) ⟨hF.1, hs1⟩ hs1.1 hS (c_J0_charAt l bs1 q1 k_6 tk_6 lk_6) zc_J0_charAt_5068e j_ml_X6_72 ⟨rfl, rfl⟩ ⟨Nat.le_of_ble_eq_true rfl, Nat.le_of_ble_eq_true rfl⟩ hl.1 rfl (by rw [ek_6]; rfl) (Nat.le_of_ble_eq_true rfl) ⟨Nat.zero_le _, Nat.zero_le _⟩ dX6_isWord_47 ?_
        refine lv_icmp_eq (tgt := 55) hx hb dX6_isWord_50 (by decide) (fun c_7 => ?_) (fun c_7 => ?_)
        · have hf := hf.1 c_7
          obtain ⟨x_8, ex_8⟩ : ∃ y : Int32, y = y4 + (1 : Int32) := ⟨_, rfl⟩
          have hf := hf x_8 ex_8
          refine lv_iinc (v := x_8) (lv' := [(4, .int x_8), (0, .ref (a 0)), (1, .ref q1), (2, .int x2), (3, .int x3)]) hx hb dX6_isWord_55 hl (k := 4) rfl (by rw [ex_8]; rfl) (by decide) rfl (fun ls hl => ?_)
          refine lv_goto (tgt := 26) hx hb dX6_isWord_58 (by decide) ?_
          obtain ⟨k_9, hk_9, hf⟩ := hf
          exact (ih k_9 hk_9) _ z _ _ ls hf hP hD hS (lv_sub hl [1, 2, 3, 4, 0] rfl)
        · have hf := hf.2 c_7
          refine lv_iconst (v := 0) hx hb dX6_isWord_53 (by decide) ?_
          exact z_retMz (Wf := (fun z => cl_X6 cI cJ a z)) (u := z) X (Or.inl rfl) hf hP hD hS dX6_isWord_54
  unfold t_X6_isWord_e at hf
  refine lv_iload_n hx hb dX6_isWord_0 rfl (lv_at hl 2 rfl) ?_
  refine lv_if_lt (tgt := 21) hx hb dX6_isWord_1 (by decide) (fun c_1 => ?_) (fun c_1 => ?_)
  · have hf := hf.1 c_1
    refine lv_iconst (v := 0) hx hb dX6_isWord_21 (by decide) ?_
    exact z_retMz (Wf := (fun z => cl_X6 cI cJ a z)) (u := u) X (Or.inl rfl) hf hP hD hS dX6_isWord_22
  · have hf := hf.2 c_1
    refine lv_iload_n hx hb dX6_isWord_4 rfl (lv_at hl 3 rfl) ?_
    refine lv_sipush (v := 400) hx hb dX6_isWord_5 (by decide) ?_
    refine lv_icmp_gt (tgt := 21) hx hb dX6_isWord_8 (by decide) (fun c_2 => ?_) (fun c_2 => ?_)
    · have hf := hf.1 c_2
      refine lv_iconst (v := 0) hx hb dX6_isWord_21 (by decide) ?_
      exact z_retMz (Wf := (fun z => cl_X6 cI cJ a z)) (u := u) X (Or.inl rfl) hf hP hD hS dX6_isWord_22
    · have hf := hf.2 c_2
      refine lv_iload_n hx hb dX6_isWord_11 rfl (lv_at hl 3 rfl) ?_
      refine lv_iload_n hx hb dX6_isWord_12 rfl (lv_at hl 2 rfl) ?_
      refine lv_isub hx hb dX6_isWord_13 ?_
      refine lv_aload_n hx hb dX6_isWord_14 rfl (lv_at hl 1 rfl) ?_
      refine z_jV (C := RJ0) (As := []) (rest := [.int (x3 - x2)]) X.1 (fro_Fs bs1 q1) ⟨hF.1, hs1⟩ hs1.1 hS (c_J0_length l bs1 q1) zc_J0_length_8abf5 j_ml_X6_67 ⟨rfl, rfl⟩ ⟨Nat.le_of_ble_eq_true rfl, Nat.le_of_ble_eq_true rfl⟩ hl.1 rfl rfl (Nat.le_of_ble_eq_true rfl) ⟨Nat.zero_le _, Nat.zero_le _⟩ dX6_isWord_15 ?_
      refine lv_icmp_eq (tgt := 23) hx hb dX6_isWord_18 (by decide) (fun c_3 => ?_) (fun c_3 => ?_)
      · have hf := hf.1 c_3
        refine lv_iconst (v := 0) hx hb dX6_isWord_23 (by decide) ?_
        refine lv_istore (lv' := [(4, .int (0 : Int32)), (0, .ref (a 0)), (1, .ref q1), (2, .int x2), (3, .int x3)]) hx hb dX6_isWord_24 hl (by decide) rfl (fun ls hl => ?_)
        obtain ⟨k_4, hf⟩ := hf
        exact (LP k_4) _ u _ _ ls hf hP hD hS (lv_sub hl [1, 2, 3, 4, 0] rfl)
      · have hf := hf.2 c_3
        refine lv_iconst (v := 0) hx hb dX6_isWord_21 (by decide) ?_
        exact z_retMz (Wf := (fun z => cl_X6 cI cJ a z)) (u := u) X (Or.inl rfl) hf hP hD hS dX6_isWord_22
def s_X6_isWord (u : zTape) (bs1 : List Int32) (x2 x3 : Int32) (Q : Int32 → zTape → Prop) : Prop := ∃ p e : Nat, p ≤ e ∧ e ≤ 400 ∧ x2 = nI p ∧ x3 = nI e ∧ zTxt bs1 ∧ (isBs u.1 p e bs1 = true → Q 1 u) ∧ (isBs u.1 p e bs1 = false → Q 0 u)
theorem st_X6_isWord {u : zTape} {bs1 : List Int32} {x2 x3 : Int32} {Q : Int32 → zTape → Prop} (h : s_X6_isWord u bs1 x2 x3 Q) : v_X6_isWord u bs1 x2 x3 Q := by
  obtain ⟨p, e, hpe, he, rfl, rfl, hb, h1, h0⟩ := h
  have hlen := hb.1
  refine ⟨fun n y4 z => ∃ j : Nat, j ≤ bs1.length ∧ n = bs1.length - j ∧ y4 = nI j ∧ z = u ∧ e = p + bs1.length ∧ ∀ i, i < j → u.1 (p + i) = bs1.getD i 0, ?_, ?_⟩
  · rintro n y4 z ⟨j, hj, rfl, rfl, rfl, hl, hall⟩
    refine ⟨fun c => ?_, fun c => ?_⟩
    · have := (nI_leI (by omega) (by omega)).mp c
      have e1 : j = bs1.length := by omega
      subst e1
      exact h1 (decide_eq_true ⟨hl, hall⟩)
    · have hj2 : j < bs1.length := by
        have : ¬ bs1.length ≤ j := fun z => c (nI_le z (by omega))
        omega
      rw [nI_add, nI_clamp (by omega)]
      refine ⟨vp_in_nI (by omega) (by decide), j, rfl, hj2, hb, fun d x ex => ?_, fun d => ?_⟩
      · refine ⟨bs1.length - (j + 1), by omega, j + 1, hj2, rfl, by rw [ex, nI_1], rfl, hl, fun i hi => ?_⟩
        by_cases q2 : i = j
        · rw [q2]; exact d
        · exact hall i (by omega)
      · exact h0 (decide_eq_false (fun z => d (z.2 j hj2)))
  · refine ⟨fun c => absurd c (nI_pos (by omega)), fun _ => ⟨fun c => absurd c (nI_nlt (a := 400) (b := e) (by omega) (by decide)), fun _ => ?_⟩⟩
    rw [lN_subI hpe]
    refine ⟨fun c => ?_, fun c => h0 (decide_eq_false (fun z => c ?_))⟩
    · have := (nI_eq (by omega) (by omega)).mp c
      exact ⟨bs1.length - 0, 0, by omega, rfl, rfl, rfl, by omega, fun i hi => absurd hi (Nat.not_lt_zero i)⟩
    · rw [z.1, Nat.add_sub_cancel_left]
theorem c_X6_isWord (l : Launch) (dC : Nat → ClassId) (dI : Nat → Nat → Nat) (cI cJ cS : ClassId) (a : Nat → Nat) (q1 : Nat) (u : zTape) (bs1 : List Int32) (x2 : Int32) (x3 : Int32) (Q : Int32 → zTape → Prop) (hf : s_X6_isWord u bs1 x2 x3 Q) : ∀ sz : Nat, Met l yX6_isWord (Cond.code yX6_isWord cX6_isWord 5 (some .boolean) :: zT) rm_X6_isWord (zPmF (zFzs q1 bs1) dC dI cI cJ cS (cl_X6 cI cJ a u) [.ref (a 0), .ref q1, .int x2, .int x3] sz) (va_Qi (fun r u => (r = 0 ∨ r = 1) ∧ Q r u) (zB dC dI cI cJ cS (va_A (cl_X6 cI cJ a u) sz) (fun z => cl_X6 cI cJ a z)) (va_A (cl_X6 cI cJ a u) sz)) 0 0 (va_A (cl_X6 cI cJ a u) sz) := by
  obtain ⟨I26, h26, hf⟩ := st_X6_isWord hf
  exact L_X6_isWord l dC dI cI cJ cS a q1 u bs1 x2 x3 Q I26 h26 hf

theorem zc_X6_wordOf : zCalS yX6_wordOf cX6_wordOf 1 (some (.object "java/lang/String")) 1 := ⟨q_st_X6_wordOf, q_in_X6, q_cd_X6_wordOf, ⟨by decide, by decide, by decide +kernel⟩⟩
/-- the word of an ACT -/
theorem c_X6_wordOf (l : Launch) (i : Nat) (hi : i < 10) (q : Nat) : Met l yX6_wordOf (Cond.code yX6_wordOf cX6_wordOf 1 (some (.object "java/lang/String")) :: zT) (rm_J 0 0) (zPj (fun _ U _ => vk_R RX6 (wiT i) (wdS i) q U) [.int (nI i)]) (zRv (some (.ref q))) 0 0 (fun _ => False) := by
  refine z_enterJ (cc := cX6_wordOf) (maxL := 1) (ret := some (.object "java/lang/String")) (by decide) (Nat.le_of_ble_eq_true rfl) ?_
  intro p e s m below meth c ls X hr hlk hF hl
  obtain ⟨hx, hb, hml, hown, hts⟩ := id X
  have hl : lv_has ls 1 [(0, .int (nI i))] := hl
  refine lv_iload_n hx hb dX6_wordOf_0 rfl (lv_at hl 0 rfl) ?_
  rcases (show i = 0 ∨ i = 1 ∨ i = 2 ∨ i = 3 ∨ i = 4 ∨ i = 5 ∨ i = 6 ∨ i = 7 ∨ i = 8 ∨ i = 9 by omega) with rfl | rfl | rfl | rfl | rfl | rfl | rfl | rfl | rfl | rfl
  · refine lv_tableIn (off := 51) (tgt := 52) hx hb dX6_wordOf_1 (by decide) (by decide) (by decide) (by decide) ?_
    refine va_ldcS hx hb hown hF dX6_wordOf_52 ?_
    exact W.aret hx hb hr (Or.inl ⟨_, rfl⟩) (Or.inr ⟨q, rfl⟩) (fun t ht hW => ⟨rfl, ht⟩) (fun _ h => by cases h) dX6_wordOf_54 hlk
  · refine lv_tableIn (off := 54) (tgt := 55) hx hb dX6_wordOf_1 (by decide) (by decide) (by decide) (by decide) ?_
    refine va_ldcS hx hb hown hF dX6_wordOf_55 ?_
    exact W.aret hx hb hr (Or.inl ⟨_, rfl⟩) (Or.inr ⟨q, rfl⟩) (fun t ht hW => ⟨rfl, ht⟩) (fun _ h => by cases h) dX6_wordOf_57 hlk
  · refine lv_tableIn (off := 57) (tgt := 58) hx hb dX6_wordOf_1 (by decide) (by decide) (by decide) (by decide) ?_
    refine va_ldcS hx hb hown hF dX6_wordOf_58 ?_
    exact W.aret hx hb hr (Or.inl ⟨_, rfl⟩) (Or.inr ⟨q, rfl⟩) (fun t ht hW => ⟨rfl, ht⟩) (fun _ h => by cases h) dX6_wordOf_60 hlk
  · refine lv_tableIn (off := 60) (tgt := 61) hx hb dX6_wordOf_1 (by decide) (by decide) (by decide) (by decide) ?_
    refine va_ldcS hx hb hown hF dX6_wordOf_61 ?_
    exact W.aret hx hb hr (Or.inl ⟨_, rfl⟩) (Or.inr ⟨q, rfl⟩) (fun t ht hW => ⟨rfl, ht⟩) (fun _ h => by cases h) dX6_wordOf_63 hlk
  · refine lv_tableIn (off := 63) (tgt := 64) hx hb dX6_wordOf_1 (by decide) (by decide) (by decide) (by decide) ?_
    refine va_ldcS hx hb hown hF dX6_wordOf_64 ?_
    exact W.aret hx hb hr (Or.inl ⟨_, rfl⟩) (Or.inr ⟨q, rfl⟩) (fun t ht hW => ⟨rfl, ht⟩) (fun _ h => by cases h) dX6_wordOf_66 hlk
  · refine lv_tableIn (off := 66) (tgt := 67) hx hb dX6_wordOf_1 (by decide) (by decide) (by decide) (by decide) ?_
    refine va_ldcS hx hb hown hF dX6_wordOf_67 ?_
    exact W.aret hx hb hr (Or.inl ⟨_, rfl⟩) (Or.inr ⟨q, rfl⟩) (fun t ht hW => ⟨rfl, ht⟩) (fun _ h => by cases h) dX6_wordOf_69 hlk
  · refine lv_tableIn (off := 69) (tgt := 70) hx hb dX6_wordOf_1 (by decide) (by decide) (by decide) (by decide) ?_
    refine va_ldcS hx hb hown hF dX6_wordOf_70 ?_
    exact W.aret hx hb hr (Or.inl ⟨_, rfl⟩) (Or.inr ⟨q, rfl⟩) (fun t ht hW => ⟨rfl, ht⟩) (fun _ h => by cases h) dX6_wordOf_72 hlk
  · refine lv_tableIn (off := 72) (tgt := 73) hx hb dX6_wordOf_1 (by decide) (by decide) (by decide) (by decide) ?_
    refine va_ldcS hx hb hown hF dX6_wordOf_73 ?_
    exact W.aret hx hb hr (Or.inl ⟨_, rfl⟩) (Or.inr ⟨q, rfl⟩) (fun t ht hW => ⟨rfl, ht⟩) (fun _ h => by cases h) dX6_wordOf_75 hlk
  · refine lv_tableIn (off := 75) (tgt := 76) hx hb dX6_wordOf_1 (by decide) (by decide) (by decide) (by decide) ?_
    refine va_ldcS hx hb hown hF dX6_wordOf_76 ?_
    exact W.aret hx hb hr (Or.inl ⟨_, rfl⟩) (Or.inr ⟨q, rfl⟩) (fun t ht hW => ⟨rfl, ht⟩) (fun _ h => by cases h) dX6_wordOf_78 hlk
  · refine lv_tableOut (tgt := 79) hx hb dX6_wordOf_1 (by decide) (by decide) ?_
    refine va_ldcS hx hb hown hF dX6_wordOf_79 ?_
    exact W.aret hx hb hr (Or.inl ⟨_, rfl⟩) (Or.inr ⟨q, rfl⟩) (fun t ht hW => ⟨rfl, ht⟩) (fun _ h => by cases h) dX6_wordOf_81 hlk
