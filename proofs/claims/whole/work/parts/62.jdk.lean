/-! the JDK's string methods -/
abbrev rm_J (f lo : Nat) : Room := { frames := f, cells := 0, slots := 0, locals := lo }
theorem c_J0_coder (l : Launch) (bs : List Int32) (q : Nat) : Met l yJ0_coder_7d493 (Cond.code yJ0_coder_7d493 cJ0_coder_7d493 1 (some .byte) :: zT) (rm_J 0 0) (zPj (zFs bs q) [.ref q]) (zRv (some (.int 0))) 0 0 (fun _ => False) := by
  refine z_enterJ (cc := cJ0_coder_7d493) (maxL := 1) (ret := some .byte) (by decide) (Nat.le_of_ble_eq_true rfl) ?_
  intro p e s m below meth c ls X hr hlk hF hl
  obtain ⟨hx, hb, hml, hown, hts⟩ := id X
  have hS : va_S (fun _ => False) s.heap s.heap [] := va_S.rf
  have hl : lv_has ls 1 [(0, .ref q)] := hl
  refine va_gets hx hb hF.1.1 hS hown (hts _ q_fl_J0_38) (fun _ h => h) dJ0_coder_7d493_0 ?_
  refine lv_if_eq (tgt := 13) hx hb dJ0_coder_7d493_3 (by decide) (fun c => absurd c (by decide)) (fun _ => ?_)
  refine lv_aload_n hx hb dJ0_coder_7d493_6 rfl (lv_at hl 0 rfl) ?_
  refine vk_getf hx hb hF.2.2.1 hS hown (hts _ q_fl_J0_15) (fun _ h => h) dJ0_coder_7d493_7 ?_
  refine lv_goto (tgt := 14) hx hb dJ0_coder_7d493_10 (by decide) ?_
  exact W.zret hx hb hr rfl (fun t ht hW => ⟨rfl, ht⟩) (fun _ h => by cases h) dJ0_coder_7d493_14 hlk
theorem c_J0_isLatin1 (l : Launch) (bs : List Int32) (q : Nat) : Met l yJ0_isLatin1_aae02 (Cond.code yJ0_isLatin1_aae02 cJ0_isLatin1_aae02 1 (some .boolean) :: zT) (rm_J 0 0) (zPj (zFs bs q) [.ref q]) (zRv (some (.int 1))) 0 0 (fun _ => False) := by
  refine z_enterJ (cc := cJ0_isLatin1_aae02) (maxL := 1) (ret := some .boolean) (by decide) (Nat.le_of_ble_eq_true rfl) ?_
  intro p e s m below meth c ls X hr hlk hF hl
  obtain ⟨hx, hb, hml, hown, hts⟩ := id X
  have hS : va_S (fun _ => False) s.heap s.heap [] := va_S.rf
  have hl : lv_has ls 1 [(0, .ref q)] := hl
  refine va_gets hx hb hF.1.1 hS hown (hts _ q_fl_J0_38) (fun _ h => h) dJ0_isLatin1_aae02_0 ?_
  refine lv_if_eq (tgt := 17) hx hb dJ0_isLatin1_aae02_3 (by decide) (fun c => absurd c (by decide)) (fun _ => ?_)
  refine lv_aload_n hx hb dJ0_isLatin1_aae02_6 rfl (lv_at hl 0 rfl) ?_
  refine vk_getf hx hb hF.2.2.1 hS hown (hts _ q_fl_J0_15) (fun _ h => h) dJ0_isLatin1_aae02_7 ?_
  refine lv_if_ne (tgt := 17) hx hb dJ0_isLatin1_aae02_10 (by decide) (fun c => absurd rfl c) (fun _ => ?_)
  refine lv_iconst (v := 1) hx hb dJ0_isLatin1_aae02_13 (by decide) ?_
  refine lv_goto (tgt := 18) hx hb dJ0_isLatin1_aae02_14 (by decide) ?_
  exact W.zret hx hb hr rfl (fun t ht hW => ⟨rfl, ht⟩) (fun _ h => by cases h) dJ0_isLatin1_aae02_18 hlk
theorem c_J0_length (l : Launch) (bs : List Int32) (q : Nat) : Met l yJ0_length_8abf5 (Cond.code yJ0_length_8abf5 cJ0_length_8abf5 1 (some .int) :: zT) (rm_J 1 20) (zPj (zFs bs q) [.ref q]) (zRv (some (.int (nI bs.length)))) 0 0 (fun _ => False) := by
  refine z_enterJ (cc := cJ0_length_8abf5) (maxL := 1) (ret := some .int) (by decide) (Nat.le_of_ble_eq_true rfl) ?_
  intro p e s m below meth c ls X hr hlk hF hl
  obtain ⟨hx, hb, hml, hown, hts⟩ := id X
  have hS : va_S (fun _ => False) s.heap s.heap [] := va_S.rf
  have hl : lv_has ls 1 [(0, .ref q)] := hl
  obtain ⟨v, hv1, hv2⟩ := hF.2.2.2
  have e0 : ∀ x : Int32, x >>> ((0 : Int32) &&& 31) = x := fun x => by
    rw [show ((0 : Int32) &&& 31) = 0 by decide]
    exact Int32.shiftRight_zero
  refine lv_aload_n hx hb dJ0_length_8abf5_0 rfl (lv_at hl 0 rfl) ?_
  refine vk_getf hx hb hv1 hS hown (hts _ q_fl_J0_9) (fun _ h => h) dJ0_length_8abf5_1 ?_
  refine va_tlen (v := nI bs.length) hx hb hv2 hS rfl dJ0_length_8abf5_4 ?_
  refine lv_aload_n hx hb dJ0_length_8abf5_5 rfl (lv_at hl 0 rfl) ?_
  refine z_jV (C := RJ0) (As := []) (rest := [.int (nI bs.length)]) X (fro_Fs bs q) hF hF.2.1 hS (c_J0_coder l bs q) zc_J0_coder_7d493 j_ml_J0_335 ⟨rfl, rfl⟩ ⟨by decide, by decide⟩ hl.1 rfl rfl (Nat.le_of_ble_eq_true rfl) ⟨by decide, by decide⟩ dJ0_length_8abf5_6 ?_
  refine lv_ishr hx hb dJ0_length_8abf5_9 ?_
  rw [e0]
  exact W.iret hx hb hr (fun t ht hW => ⟨rfl, ht⟩) (fun _ h => by cases h) dJ0_length_8abf5_10 hlk
theorem c_J3_checkIndex (l : Launch) (k N : Nat) (hk : k < N) (hN : N < 2 ^ 31) (v : Value) (hv : v = .null ∨ ∃ t, v = .ref t) : Met l yJ3_checkIndex_8e157 (Cond.code yJ3_checkIndex_8e157 cJ3_checkIndex_8e157 3 (some .int) :: zT) (rm_J 0 0) (zPj zJk [.int (nI k), .int (nI N), v]) (zRv (some (.int (nI k)))) 0 0 (fun _ => False) := by
  have go : ∀ v : Value, (∀ ls : Array Slot, lv_has ls 3 (lv_args 0 [.int (nI k), .int (nI N), v]) → lv_has ls 3 [(0, .int (nI k)), (1, .int (nI N)), (2, v)]) → (lg_sl [.int (nI k), .int (nI N), v]).length ≤ 3 → Met l yJ3_checkIndex_8e157 (Cond.code yJ3_checkIndex_8e157 cJ3_checkIndex_8e157 3 (some .int) :: zT) (rm_J 0 0) (zPj zJk [.int (nI k), .int (nI N), v]) (zRv (some (.int (nI k)))) 0 0 (fun _ => False) := by
    intro v hq hle
    refine z_enterJ (cc := cJ3_checkIndex_8e157) (maxL := 3) (ret := some .int) (by decide) hle ?_
    intro p e s m below meth c ls X hr hlk hF hl
    obtain ⟨hx, hb, hml, hown, hts⟩ := id X
    have hl := hq ls hl
    refine lv_iload_n hx hb dJ3_checkIndex_8e157_0 rfl (lv_at hl 0 rfl) ?_
    refine lv_if_lt (tgt := 9) hx hb dJ3_checkIndex_8e157_1 (by decide) (fun c => absurd c (nI_pos (by omega))) (fun _ => ?_)
    refine lv_iload_n hx hb dJ3_checkIndex_8e157_4 rfl (lv_at hl 0 rfl) ?_
    refine lv_iload_n hx hb dJ3_checkIndex_8e157_5 rfl (lv_at hl 1 rfl) ?_
    refine lv_icmp_lt (tgt := 16) hx hb dJ3_checkIndex_8e157_6 (by decide) (fun _ => ?_) (fun c => absurd (nI_lt hk hN) c)
    refine lv_iload_n hx hb dJ3_checkIndex_8e157_16 rfl (lv_at hl 0 rfl) ?_
    exact W.iret hx hb hr (fun t ht hW => ⟨rfl, ht⟩) (fun _ h => by cases h) dJ3_checkIndex_8e157_17 hlk
  rcases hv with rfl | ⟨t, rfl⟩
  · exact go _ (fun ls h => h) (Nat.le_of_ble_eq_true rfl)
  · exact go _ (fun ls h => h) (Nat.le_of_ble_eq_true rfl)
theorem c_J0_checkIndex (l : Launch) (k N : Nat) (hk : k < N) (hN : N < 2 ^ 31) : Met l yJ0_checkIndex_df160 (Cond.code yJ0_checkIndex_df160 cJ0_checkIndex_df160 2 none :: zT) (rm_J 1 22) (zPj zJk [.int (nI k), .int (nI N)]) (zRv none) 0 0 (fun _ => False) := by
  refine z_enterJ (cc := cJ0_checkIndex_df160) (maxL := 2) (ret := none) (by decide) (Nat.le_of_ble_eq_true rfl) ?_
  intro p e s m below meth c ls X hr hlk hF hl
  obtain ⟨hx, hb, hml, hown, hts⟩ := id X
  have hS : va_S (fun _ => False) s.heap s.heap [] := va_S.rf
  have hl : lv_has ls 2 [(0, .int (nI k)), (1, .int (nI N))] := hl
  have go : ∀ v : Value, (v = .null ∨ ∃ t, v = .ref t) → va_Z "jdk/internal/util/Preconditions" "SIOOBE_FORMATTER" "Ljava/util/function/BiFunction;" v (fun _ => False) s s.heap → W p l e (rm_J 1 22) s m [Value.int (nI k), .int (nI N)].toArray below meth c s.heap [] 0 0 (MQ below (zRv none) [Value.int (nI k), .int (nI N)].toArray s 0 0 (fun _ => False)) (F0 m 0 ls []) := by
    intro v hv hZ
    refine lv_iload_n hx hb dJ0_checkIndex_df160_0 rfl (lv_at hl 0 rfl) ?_
    refine lv_iload_n hx hb dJ0_checkIndex_df160_1 rfl (lv_at hl 1 rfl) ?_
    refine va_gets hx hb hZ hS hown (hts _ q_fl_J0_1053) (fun _ h => h) dJ0_checkIndex_df160_2 ?_
    refine z_jS (As := [.int (nI k), .int (nI N), v]) (rest := []) X fro_Jk hF hS (c_J3_checkIndex l k N hk hN v hv) zc_J3_checkIndex_8e157 j_ml_J0_1059 ⟨rfl, rfl⟩ ⟨by decide, by decide⟩ hl.1 rfl rfl (by decide) ⟨by decide, by decide⟩ dJ0_checkIndex_df160_5 ?_
    refine lv_pop hx hb dJ0_checkIndex_df160_8 rfl ?_
    exact W.vret hx hb hr (fun t ht hW => ⟨rfl, ht⟩) (fun _ h => by cases h) dJ0_checkIndex_df160_9 hlk
  rcases hF.2 with h | ⟨t, h⟩
  · exact go _ (Or.inl rfl) h
  · exact go _ (Or.inr ⟨t, rfl⟩) h
def zFb (bs : List Int32) (v : Nat) : zFact := fun A U H => zJk A U H ∧ va_T .byte v bs.length (fun j => .int (bs.getD j 0)) A U H
theorem fro_Fb (bs : List Int32) (v : Nat) : zFro (zFb bs v) := fro_Jk.and (fro_T _ _ _ _)
theorem c_J1_charAt (l : Launch) (bs : List Int32) (v k : Nat) (ht : zTxt bs) (hk : k < bs.length) : Met l yJ1_charAt_3b067 (Cond.code yJ1_charAt_3b067 cJ1_charAt_3b067 2 (some .char) :: zT) (rm_J 2 43) (zPj (zFb bs v) [.ref v, .int (nI k)]) (zRv (some (.int (bs.getD k 0)))) 0 0 (fun _ => False) := by
  have hlen := ht.1
  refine z_enterJ (cc := cJ1_charAt_3b067) (maxL := 2) (ret := some .char) (by decide) (Nat.le_of_ble_eq_true rfl) ?_
  intro p e s m below meth c ls X hr hlk hF hl
  obtain ⟨hx, hb, hml, hown, hts⟩ := id X
  have hS : va_S (fun _ => False) s.heap s.heap [] := va_S.rf
  have hl : lv_has ls 2 [(0, .ref v), (1, .int (nI k))] := hl
  refine lv_iload_n hx hb dJ1_charAt_3b067_0 rfl (lv_at hl 1 rfl) ?_
  refine lv_aload_n hx hb dJ1_charAt_3b067_1 rfl (lv_at hl 0 rfl) ?_
  refine va_tlen (v := nI bs.length) hx hb hF.2 hS rfl dJ1_charAt_3b067_2 ?_
  refine z_jS (As := [.int (nI k), .int (nI bs.length)]) (rest := []) X fro_Jk hF.1 hS (c_J0_checkIndex l k bs.length hk (by omega)) zc_J0_checkIndex_df160 j_ml_J1_9 ⟨rfl, rfl⟩ ⟨by decide, by decide⟩ hl.1 rfl rfl (by decide) ⟨by decide, by decide⟩ dJ1_charAt_3b067_3 ?_
  refine lv_aload_n hx hb dJ1_charAt_3b067_6 rfl (lv_at hl 0 rfl) ?_
  refine lv_iload_n hx hb dJ1_charAt_3b067_7 rfl (lv_at hl 1 rfl) ?_
  refine va_tb (v := .int (bs.getD k 0)) hx hb hF.2 hS (vp_in_nI hk (by omega)) (by rw [nI_clamp (by omega)]) dJ1_charAt_3b067_8 ?_
  refine lv_sipush (v := 255) hx hb dJ1_charAt_3b067_9 (by decide) ?_
  refine lv_iand hx hb dJ1_charAt_3b067_12 ?_
  refine lv_i2c hx hb dJ1_charAt_3b067_13 (ht.2 k hk).1 ?_
  exact W.zret hx hb hr (ht.2 k hk).2 (fun t ht hW => ⟨rfl, ht⟩) (fun _ h => by cases h) dJ1_charAt_3b067_14 hlk
theorem c_J0_charAt (l : Launch) (bs : List Int32) (q k : Nat) (ht : zTxt bs) (hk : k < bs.length) : Met l yJ0_charAt_5068e (Cond.code yJ0_charAt_5068e cJ0_charAt_5068e 2 (some .char) :: zT) (rm_J 3 64) (zPj (zFs bs q) [.ref q, .int (nI k)]) (zRv (some (.int (bs.getD k 0)))) 0 0 (fun _ => False) := by
  refine z_enterJ (cc := cJ0_charAt_5068e) (maxL := 2) (ret := some .char) (by decide) (Nat.le_of_ble_eq_true rfl) ?_
  intro p e s m below meth c ls X hr hlk hF hl
  obtain ⟨hx, hb, hml, hown, hts⟩ := id X
  have hS : va_S (fun _ => False) s.heap s.heap [] := va_S.rf
  have hl : lv_has ls 2 [(0, .ref q), (1, .int (nI k))] := hl
  obtain ⟨v, hv1, hv2⟩ := hF.2.2.2
  refine lv_aload_n hx hb dJ0_charAt_5068e_0 rfl (lv_at hl 0 rfl) ?_
  refine z_jV (C := RJ0) (As := []) (rest := []) X (fro_Fs bs q) hF hF.2.1 hS (c_J0_isLatin1 l bs q) zc_J0_isLatin1_aae02 j_ml_J0_492 ⟨rfl, rfl⟩ ⟨by decide, by decide⟩ hl.1 rfl rfl (by decide) ⟨by decide, by decide⟩ dJ0_charAt_5068e_1 ?_
  refine lv_if_eq (tgt := 16) hx hb dJ0_charAt_5068e_4 (by decide) (fun c => absurd c (by decide)) (fun _ => ?_)
  refine lv_aload_n hx hb dJ0_charAt_5068e_7 rfl (lv_at hl 0 rfl) ?_
  refine vk_getf hx hb hv1 hS hown (hts _ q_fl_J0_9) (fun _ h => h) dJ0_charAt_5068e_8 ?_
  refine lv_iload_n hx hb dJ0_charAt_5068e_11 rfl (lv_at hl 1 rfl) ?_
  refine z_jS (As := [.ref v, .int (nI k)]) (rest := []) X (fro_Fb bs v) ⟨hF.1, hv2⟩ hS (c_J1_charAt l bs v k ht hk) zc_J1_charAt_3b067 j_ml_J0_495 ⟨rfl, rfl⟩ ⟨by decide, by decide⟩ hl.1 rfl rfl (by decide) ⟨by decide, by decide⟩ dJ0_charAt_5068e_12 ?_
  exact W.zret hx hb hr (ht.2 k hk).2 (fun t ht hW => ⟨rfl, ht⟩) (fun _ h => by cases h) dJ0_charAt_5068e_15 hlk
theorem wdL_txt (i : Nat) : zTxt (wdL i) := by
  have h : ∀ i, i < 10 → (wdL i).length < 400 ∧ ∀ k, k < (wdL i).length → (((wdL i).getD k 0 &&& 255).toUInt32 % 65536).toInt32 = (wdL i).getD k 0 ∧ narrow .char (.int ((wdL i).getD k 0)) = .int ((wdL i).getD k 0) := by decide
  by_cases hi : i < 10
  · exact h i hi
  · have e : wdL i = wdL 9 := by
      match i, hi with
      | n + 10, _ => rfl
    rw [e]; exact h 9 (by decide)
