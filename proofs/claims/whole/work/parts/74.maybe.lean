/-! bounds of an ACT's numbers, as the class asks for them -/
theorem zc_X10_mayBe : zCalS yX10_mayBe cX10_mayBe 4 (some .boolean) 3 := ⟨q_st_X10_mayBe, q_in_X10, q_cd_X10_mayBe, ⟨by decide, by decide, by decide +kernel⟩⟩
def zBd : zFact := fun A U H => zRow RX10 "LEAST" 40 rLo A U H ∧ zRow RX10 "GREATEST" 40 rHi A U H
theorem fro_Bd : zFro zBd := (fro_Row _ _ _ _).and (fro_Row _ _ _ _)
theorem c_X10_mayBe (l : Launch) (k i : Nat) (hk : k < 10) (hi : i < 4) (x : Int32) : Met l yX10_mayBe (Cond.code yX10_mayBe cX10_mayBe 4 (some .boolean) :: zT) (rm_J 0 0) (zPj zBd [.int (nI k), .int (nI i), .int x]) (zRv (some (.int (if inR x (nLo k i) (nHi k i) then 1 else 0)))) 0 0 (fun _ => False) := by
  refine z_enterJ (cc := cX10_mayBe) (maxL := 4) (ret := some .boolean) (by decide) (Nat.le_of_ble_eq_true rfl) ?_
  intro p e s m below meth c ls X hr hlk hF hl
  obtain ⟨hx, hb, hml, hown, hts⟩ := id X
  have hS : va_S (fun _ => False) s.heap s.heap [] := va_S.rf
  have hl : lv_has ls 4 [(0, .int (nI k)), (1, .int (nI i)), (2, .int x)] := hl
  obtain ⟨⟨t1, a1, b1⟩, ⟨t2, a2, b2⟩⟩ := hF
  have hat : nI k * 4 + nI i = nI (4 * k + i) := by
    rw [show (4 : Int32) = nI 4 from rfl, n_mul, nI_add, Nat.mul_comm]
  have elo : rLo (4 * k + i) = nLo k i := by unfold rLo; rw [show (4 * k + i) / 4 = k by omega, show (4 * k + i) % 4 = i by omega]
  have ehi : rHi (4 * k + i) = nHi k i := by unfold rHi; rw [show (4 * k + i) / 4 = k by omega, show (4 * k + i) % 4 = i by omega]
  have hcl : (nI (4 * k + i)).toNatClampNeg = 4 * k + i := nI_clamp (by omega)
  refine lv_iload_n hx hb dX10_mayBe_0 rfl (lv_at hl 0 rfl) ?_
  refine lv_iconst (v := 4) hx hb dX10_mayBe_1 (by decide) ?_
  refine lv_imul hx hb dX10_mayBe_2 ?_
  refine lv_iload_n hx hb dX10_mayBe_3 rfl (lv_at hl 1 rfl) ?_
  refine lv_iadd hx hb dX10_mayBe_4 ?_
  rw [hat]
  refine lv_istore_n (lv' := [(3, .int (nI (4 * k + i))), (0, .int (nI k)), (1, .int (nI i)), (2, .int x)]) hx hb dX10_mayBe_5 rfl hl (by decide) rfl (fun ls hl => ?_)
  refine lv_iload_n hx hb dX10_mayBe_6 rfl (lv_at hl 0 rfl) ?_
  refine lv_if_lt (tgt := 26) hx hb dX10_mayBe_7 (by decide) (fun c => absurd c (nI_pos (by omega))) (fun _ => ?_)
  refine lv_iload_n hx hb dX10_mayBe_10 rfl (lv_at hl 0 rfl) ?_
  refine va_gets hx hb a1 hS hown (hts _ q_fl_X10_408) (fun _ h => h) dX10_mayBe_11 ?_
  refine va_tlen (v := nI 40) hx hb b1 hS rfl dX10_mayBe_14 ?_
  refine lv_icmp_ge (tgt := 26) hx hb dX10_mayBe_15 (by decide) (fun c => absurd ((nI_leI (a := 40) (b := 4 * k + i) (by decide) (by omega)).mp c) (by omega)) (fun _ => ?_)
  refine lv_iload_n hx hb dX10_mayBe_18 rfl (lv_at hl 0 rfl) ?_
  refine va_gets hx hb a2 hS hown (hts _ q_fl_X10_411) (fun _ h => h) dX10_mayBe_19 ?_
  refine va_tlen (v := nI 40) hx hb b2 hS rfl dX10_mayBe_22 ?_
  refine lv_icmp_lt (tgt := 28) hx hb dX10_mayBe_23 (by decide) (fun _ => ?_) (fun c => absurd (nI_lt (a := 4 * k + i) (b := 40) (by omega) (by decide)) c)
  refine lv_iload_n hx hb dX10_mayBe_28 rfl (lv_at hl 3 rfl) ?_
  refine va_gets hx hb a1 hS hown (hts _ q_fl_X10_408) (fun _ h => h) dX10_mayBe_29 ?_
  refine lv_iload_n hx hb dX10_mayBe_32 rfl (lv_at hl 0 rfl) ?_
  refine va_ti (v := .int (nLo k i)) hx hb b1 hS (vp_in_nI (by omega) (by decide)) (by rw [hcl, elo]) dX10_mayBe_33 ?_
  have no : ¬ inR x (nLo k i) (nHi k i) → W p l e (rm_J 0 0) s m [Value.int (nI k), .int (nI i), .int x].toArray below meth c s.heap [] 0 0 (MQ below (zRv (some (.int (if inR x (nLo k i) (nHi k i) then 1 else 0)))) [Value.int (nI k), .int (nI i), .int x].toArray s 0 0 (fun _ => False)) (F0 m 50 ls []) := fun hn => by
    rw [if_neg hn]
    refine lv_iconst (v := 0) hx hb dX10_mayBe_50 (by decide) ?_
    exact W.zret hx hb hr rfl (fun t ht hW => ⟨rfl, ht⟩) (fun _ h => by cases h) dX10_mayBe_51 hlk
  refine lv_icmp_lt (tgt := 50) hx hb dX10_mayBe_34 (by decide) (fun c => no (fun z => z.1 c)) (fun c1 => ?_)
  refine lv_iload_n hx hb dX10_mayBe_37 rfl (lv_at hl 3 rfl) ?_
  refine va_gets hx hb a2 hS hown (hts _ q_fl_X10_411) (fun _ h => h) dX10_mayBe_38 ?_
  refine lv_iload_n hx hb dX10_mayBe_41 rfl (lv_at hl 0 rfl) ?_
  refine va_ti (v := .int (nHi k i)) hx hb b2 hS (vp_in_nI (by omega) (by decide)) (by rw [hcl, ehi]) dX10_mayBe_42 ?_
  refine lv_icmp_gt (tgt := 50) hx hb dX10_mayBe_43 (by decide) (fun c => no (fun z => z.2 c)) (fun c2 => ?_)
  rw [if_pos ⟨c1, c2⟩]
  refine lv_iconst (v := 1) hx hb dX10_mayBe_46 (by decide) ?_
  refine lv_goto (tgt := 51) hx hb dX10_mayBe_47 (by decide) ?_
  exact W.zret hx hb hr rfl (fun t ht hW => ⟨rfl, ht⟩) (fun _ h => by cases h) dX10_mayBe_51 hlk
