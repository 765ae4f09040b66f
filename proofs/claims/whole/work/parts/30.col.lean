/-! COLLECTION on a State -/
theorem flush_tab {ρ β mo lm L S M B : Nat} {u : zState} (h : zP ρ β mo lm L S M B u) {k : Nat} (hk : k < 64) : (uFlush u).2.2.2.1.1 k = 0 := by
  have h1 : (uFl1 u).2.2.2.1.1 k = 0 := by
    have ht := h.2.2.2.2.2.2.1
    unfold uFl1
    split
    · rename_i hc
      have h0 := ht.2.2.2 0 (Nat.zero_le _)
      rw [h0] at hc
      have hle := fa_cnt_le (fun k => zHas u.2.2.2.1.1 0 k) 64
      have hz := (nI_leI (a := fa_cnt (fun k => zHas u.2.2.2.1.1 0 k) 64) (b := 0) (by omega) (by decide)).mp hc
      have := fa_cnt_0 (p := fun k => zHas u.2.2.2.1.1 0 k) (n := 64) (by omega) k hk
      simp only [decide_eq_false_iff_not, Decidable.not_not] at this
      rw [show 64 * 0 + k = k by omega] at this
      exact this
    · exact shift_tab _ hk
  unfold uFlush
  split
  · exact h1
  · rw [(uMerge_same (uFl1 u)).2.2.2.2.1, fold_lo _ _ hk]; exact h1
/-- the segment of the collection is given free -/
def uEndC (u : zState) (s : Nat) : zState := ((uFlush u).1, (uFlush u).2.1, zRel (uFlush u).2.2.1 s, (uFlush u).2.2.2.1, ((uFlush u).2.2.2.2.1.1, -1, 0, 0), zTell (uFlush u).2.2.2.2.2.1 (dN (uFlush u).2.2.2.2.2.1) 2 (nI s) (uFlush u).2.2.2.2.2.2.1, (uFlush u).2.2.2.2.2.2.1, (uFlush u).2.2.2.2.2.2.2.1, (uFlush u).2.2.2.2.2.2.2.2)
theorem gN_rel (g : zSegs) (s q : Nat) : gN (zRel g s) q = if q = s then 0 else gN g q := by
  show (upd g.2.1 s 0 q).toNatClampNeg = _
  unfold upd
  by_cases h : q = s
  · rw [if_pos h, if_pos h]; decide
  · rw [if_neg h, if_neg h]; rfl
theorem gB_rel (g : zSegs) (s q : Nat) : ∀ j, gB (zRel g s) q j = gB g q j
  | 0 => rfl
  | j + 1 => by unfold gB; rw [gB_rel g s q j]; rfl
theorem SegOk.rel {ρ L s : Nat} {g : zSegs} (h : SegOk ρ L g) (hs : s < 12) (h2s : g.2.2.2.1 s = 2) : SegOk ρ L (zRel g s) := by
  obtain ⟨h1, h2, h3, h4, h5, h6⟩ := h
  have hso : ¬ s = gO g := fun q => by
    have := ((h3 s hs).1).mpr q
    rw [h2s] at this
    exact absurd this (by decide)
  refine ⟨h1, fun q hq => ?_, fun q hq => ?_, fun q hq => ?_, fun q hq j hj => ?_, fun q hq i j hij hj => ?_⟩
  · rw [gN_rel]
    show upd g.2.1 s 0 q = _ ∧ _
    unfold upd
    by_cases h : q = s
    · rw [if_pos h, if_pos h]; exact ⟨rfl, by omega⟩
    · rw [if_neg h, if_neg h]; exact h2 q hq
  · rw [gN_rel]
    show (upd g.2.2.2.1 s 0 q = 1 ↔ q = gO g) ∧ (upd g.2.2.2.1 s 0 q = 0 ∨ upd g.2.2.2.1 s 0 q = 1 ∨ upd g.2.2.2.1 s 0 q = 2) ∧ (upd g.2.2.2.1 s 0 q = 0 → _)
    unfold upd
    by_cases h : q = s
    · rw [if_pos h, if_pos h]
      exact ⟨⟨fun e => absurd e (by decide), fun e => absurd (h.symm.trans e) hso⟩, Or.inl rfl, fun _ => rfl⟩
    · rw [if_neg h, if_neg h]; exact h3 q hq
  · rw [gN_rel, gB_rel]
    show upd g.2.2.1 s 0 q = _ ∧ _
    unfold upd
    by_cases h : q = s
    · rw [if_pos h, if_pos h]; exact ⟨rfl, Nat.zero_le _⟩
    · rw [if_neg h, if_neg h]; exact h4 q hq
  · rw [gN_rel] at hj
    by_cases h : q = s
    · rw [if_pos h] at hj; omega
    · rw [if_neg h] at hj; rw [gB_rel]; exact h5 q hq j hj
  · rw [gN_rel] at hj
    by_cases h : q = s
    · rw [if_pos h] at hj; omega
    · rw [if_neg h] at hj; exact h6 q hq i j hij hj
theorem zPr.endC {ρ β mo lm L S M B s : Nat} {u : zState} (h : zP ρ β mo lm L S M B u) (hs : s < 12) (hseg : u.2.2.2.2.1.2.1 = nI s) (hx : xN u.2.2.2.2.1 = wN u.2.2.2.2.1) : zP ρ β mo lm L L L B (uEndC u s) := by
  have hf := zPr.flush h
  obtain ⟨b1, b2, b3, b4, b5, b6⟩ := uFlush_same u
  obtain ⟨h1, h2, h3, h4, h5, hg, ht, hR, hL, hC, hD, hT⟩ := hf
  have hC0 := h.2.2.2.2.2.2.2.2.2.1
  obtain ⟨-, -, hc3⟩ := hC0
  rcases hc3 with hc3 | ⟨s', a1, a2, a3, a4, a5⟩
  · rw [hseg] at hc3
    exact absurd hc3 (n_neg (by omega))
  · have hss : s' = s := by
      rw [hseg] at a2
      exact ((nI_eq (by omega) (by omega)).mp a2).symm
    subst hss
    have hdead : ∀ j, j < gN u.2.2.1 s' → ¬ tLiv u.1.2.1 u.2.2.2.1 (u.2.2.1.1 (50 * s' + j)) = true := fun j hj hl => by
      obtain ⟨i, i1, i2, -⟩ := a5 j hj hl
      omega
    have hk2 : (uFlush u).2.2.1.2.2.2.1 s' = 2 := by rw [b2]; exact a3
    refine ⟨h1, h2, h3, h4, h5, hg.rel a1 hk2, ht, hR, ⟨fun k hk hn => absurd (flush_tab h hk) hn, fun k hk hl => ?_⟩, ⟨⟨rfl, by show (0 : Int32).toNatClampNeg ≤ 50; decide⟩, ⟨rfl, Nat.le_refl _⟩, Or.inl rfl⟩, hD.tell _ _ _, hT⟩
    have hl2 : (uFlush u).1.2.1 < cLen (runCur (uFlush u).2.2.2.1.1 (tR (uFlush u).2.2.2.1) k) := hl
    obtain ⟨q, j, hq, hj, e⟩ := hL.2 k hk hl2
    by_cases hqs : q = s'
    · rw [hqs] at hj e
      have ec : tCur (uFlush u).2.2.2.1 k = runCur (uFlush u).2.2.2.1.1 (tR (uFlush u).2.2.2.1) k := by
        rw [tCur_eq, flush_tab h hk, if_pos rfl]
      have hne : ¬ runCur (uFlush u).2.2.2.1.1 (tR (uFlush u).2.2.2.1) k = 0 := fun q0 => by
        rw [q0, cLen_0, h2.1] at hl2
        exact absurd (n_b0 h2.2) (fun z => (fa_of_lt hl2).2.1 z)
      have hkk : kN (runCur (uFlush u).2.2.2.1.1 (tR (uFlush u).2.2.2.1) k) = k := by
        rcases runCur_in (uFlush u).2.2.2.1.1 k (tR (uFlush u).2.2.2.1) with z | ⟨l, l1, l2, l3⟩
        · exact absurd z hne
        · rcases ht.2.2.1 l k l1 l2 hk with z | z
          · rw [l3] at hne; exact absurd z hne
          · rw [l3]; unfold kN; rw [z.1, nI_clamp (by omega)]
      have hlive : tLiv u.1.2.1 (uFlush u).2.2.2.1 (runCur (uFlush u).2.2.2.1.1 (tR (uFlush u).2.2.2.1) k) = true := by
        unfold tLiv
        rw [hkk, ec]
        rw [b1] at hl2
        exact decide_eq_true ⟨hl2, rfl⟩
      rw [tLiv_flush h, ← e] at hlive
      rw [b2] at hj hlive
      exact absurd hlive (hdead j hj)
    · exact ⟨q, j, hq, by show j < gN (zRel (uFlush u).2.2.1 s') q; rw [gN_rel, if_neg hqs]; exact hj, e⟩
def s_X5_endCollection (u : zState) (Q : zState → Prop) : Prop := ∃ ρ β mo lm L S M B s : Nat, zP ρ β mo lm L S M B u ∧ s < 12 ∧ u.2.2.2.2.1.2.1 = nI s ∧ Q (uEndC u s)

def t_X5_endCollection (u : zState) (Q : zState → Prop) : Prop := ∀ x_1 : Int32, x_1 = u.2.2.2.2.1.2.1 → s_X5_flushTable u (fun (u_3 : zState) => s_X4_release u_3.2.2.1 x_1 (fun (u_5 : zSegs) => s_X1_stop u_3.2.2.2.2.1 (fun (u_7 : zColl) => s_X2_tellOf u_3.2.2.2.2.2.1 (2 : Int32) x_1 u_3.2.2.2.2.2.2.1 (fun (u_9 : zDiary) => Q (u_3.1, u_3.2.1, u_5, u_3.2.2.2.1, u_7, u_9, u_3.2.2.2.2.2.2.1, u_3.2.2.2.2.2.2.2.1, u_3.2.2.2.2.2.2.2.2)))))
theorem zc_X5_endCollection : zCalV RX5 yX5_endCollection cX5_endCollection 2 none 0 := ⟨q_im_X5_endCollection, q_se_X5_endCollection, q_in_X5, q_cd_X5_endCollection, ⟨by decide, by decide, by decide +kernel⟩, rfl⟩
abbrev rm_X5_endCollection : Room := { frames := 4, cells := 0, slots := 0, locals := 116 }
set_option maxHeartbeats 4000000 in
set_option maxRecDepth 100000 in
theorem L_X5_endCollection (l : Launch) (dC : Nat → ClassId) (dI : Nat → Nat → Nat) (cI cJ cS : ClassId) (a : Nat → Nat) (u : zState) (Q : zState → Prop) (hf : t_X5_endCollection u Q) : ∀ sz : Nat, Met l yX5_endCollection (Cond.code yX5_endCollection cX5_endCollection 2 none :: zT) rm_X5_endCollection (zPm dC dI cI cJ cS (cl_X5 cI cJ a u) [.ref (a 0)] sz) (va_Qv Q (zB dC dI cI cJ cS (va_A (cl_X5 cI cJ a u) sz) (fun z => cl_X5 cI cJ a z)) (va_A (cl_X5 cI cJ a u) sz)) 0 0 (va_A (cl_X5 cI cJ a u) sz) := by
  intro sz
  refine z_enterM (Qc := fun A => va_Qv Q (zB dC dI cI cJ cS A (fun z => cl_X5 cI cJ a z)) A) (cc := cX5_endCollection) (maxL := 2) (ret := none) (by decide) (Nat.le_of_ble_eq_true rfl) ?_
  intro p e s m below meth c ls A X hP hD hS hA hl
  obtain ⟨⟨hx, hb, hml, hown, hts⟩, hr, hlk, hK⟩ := id X
  have hl : lv_has ls 2 [(0, .ref (a 0))] := hl
  unfold t_X5_endCollection at hf
  refine lv_aload_n hx hb dX5_endCollection_0 rfl (lv_at hl 0 rfl) ?_
  refine va_get (D := (dC, dI)) (ci := 4) (v := .ref (a 11)) (C := RX5) (T := TX5) (N := 9) hx hb hts inX5 hown hK hP 0 rfl rfl 4 (by decide) (hts _ q_fl_X5_42) (fun _ h9 => h9) rfl dX5_endCollection_1 ?_
  refine va_get (D := (dC, dI)) (ci := 0) (v := .int u.2.2.2.2.1.2.1) (C := RX1) (T := TX1) (N := 4) hx hb hts inX1 hown hK hP 11 rfl rfl 1 (by decide) (hts _ q_fl_X5_287) (fun _ h9 => h9) rfl dX5_endCollection_4 ?_
  refine lv_topi (fun x_1 ex_1 => ?_)
  have hf := hf x_1 ex_1
  refine lv_istore_n (lv' := [(1, .int x_1), (0, .ref (a 0))]) hx hb dX5_endCollection_7 rfl hl (by decide) rfl (fun ls hl => ?_)
  refine lv_aload_n hx hb dX5_endCollection_8 rfl (lv_at hl 1 rfl) ?_
  refine z_mVv (Wn := (fun u_3 => cl_X5 cI cJ a u_3)) (As := []) (rest := []) (wr := []) X (c_X5_flushTable l dC dI cI cJ cS a u  _ hf _) zc_X5_flushTable q_ml_X5_164 ⟨rfl, rfl⟩ ⟨Nat.le_of_ble_eq_true rfl, Nat.le_of_ble_eq_true rfl⟩ hP hD hS hA [0, 1, 2, 3, 4, 5, 6, 7, 8, 9, 10, 11, 12, 13, 14] [] rfl (by decide) rfl (by decide) (by decide) [0, 1, 2, 3, 4, 5, 6, 7, 8, 9, 10, 11, 12, 13, 14] (by decide) (fun _ => rfl) 4 rfl rfl hl.1 rfl rfl (Nat.le_of_ble_eq_true rfl) ⟨Nat.zero_le _, Nat.zero_le _⟩ dX5_endCollection_9 (fun u_3 H locs hf hP hD hS => ?_)
  refine lv_aload_n hx hb dX5_endCollection_12 rfl (lv_at hl 1 rfl) ?_
  refine va_get (D := (dC, dI)) (ci := 4) (v := .ref (a 3)) (C := RX5) (T := TX5) (N := 9) hx hb hts inX5 hown hK hP 0 rfl rfl 2 (by decide) (hts _ q_fl_X5_28) (fun _ h9 => h9) rfl dX5_endCollection_13 ?_
  refine lv_iload_n hx hb dX5_endCollection_16 rfl (lv_at hl 0 rfl) ?_
  refine z_mVv (Wn := (fun u_5 => cl_X5 cI cJ a (u_3.1, u_3.2.1, u_5, u_3.2.2.2.1, u_3.2.2.2.2.1, u_3.2.2.2.2.2.1, u_3.2.2.2.2.2.2.1, u_3.2.2.2.2.2.2.2.1, u_3.2.2.2.2.2.2.2.2))) (As := [.int x_1]) (rest := []) (wr := [0, 1, 2, 8, 9, 10, 11, 12, 13, 14].filterMap (fun i => (cl_X5 cI cJ a u_3)[i]?)) X (c_X4_release l dC dI cI cJ cS (fun i => a (3 + i)) u_3.2.2.1 x_1 _ hf _) zc_X4_release q_ml_X5_290 ⟨rfl, rfl⟩ ⟨Nat.le_of_ble_eq_true rfl, Nat.le_of_ble_eq_true rfl⟩ hP hD hS hA [3, 4, 5, 6, 7] [0, 1, 2, 8, 9, 10, 11, 12, 13, 14] rfl (by decide) rfl (by decide) (by decide) [0, 1, 2, 10, 11, 12, 13, 14, 3, 4, 5, 6, 7, 8, 9] (by decide) (fun _ => rfl) 3 rfl rfl hl.1 rfl rfl (Nat.le_of_ble_eq_true rfl) ⟨Nat.zero_le _, Nat.zero_le _⟩ dX5_endCollection_17 (fun u_5 H locs hf hP hD hS => ?_)
  refine lv_aload_n hx hb dX5_endCollection_20 rfl (lv_at hl 1 rfl) ?_
  refine va_get (D := (dC, dI)) (ci := 4) (v := .ref (a 11)) (C := RX5) (T := TX5) (N := 9) hx hb hts inX5 hown hK hP 0 rfl rfl 4 (by decide) (hts _ q_fl_X5_42) (fun _ h9 => h9) rfl dX5_endCollection_21 ?_
  refine z_mVv (Wn := (fun u_7 => cl_X5 cI cJ a (u_3.1, u_3.2.1, u_5, u_3.2.2.2.1, u_7, u_3.2.2.2.2.2.1, u_3.2.2.2.2.2.2.1, u_3.2.2.2.2.2.2.2.1, u_3.2.2.2.2.2.2.2.2))) (As := []) (rest := []) (wr := [0, 1, 2, 3, 4, 5, 6, 7, 8, 9, 10, 13, 14].filterMap (fun i => (cl_X5 cI cJ a (u_3.1, u_3.2.1, u_5, u_3.2.2.2.1, u_3.2.2.2.2.1, u_3.2.2.2.2.2.1, u_3.2.2.2.2.2.2.1, u_3.2.2.2.2.2.2.2.1, u_3.2.2.2.2.2.2.2.2))[i]?)) X (c_X1_stop l dC dI cI cJ cS (fun i => a (11 + i)) u_3.2.2.2.2.1  _ hf _) zc_X1_stop q_ml_X5_75 ⟨rfl, rfl⟩ ⟨Nat.le_of_ble_eq_true rfl, Nat.le_of_ble_eq_true rfl⟩ hP hD hS hA [11, 12] [0, 1, 2, 3, 4, 5, 6, 7, 8, 9, 10, 13, 14] rfl (by decide) rfl (by decide) (by decide) [0, 1, 2, 3, 4, 5, 6, 7, 8, 9, 10, 13, 14, 11, 12] (by decide) (fun _ => rfl) 0 rfl rfl hl.1 rfl rfl (Nat.le_of_ble_eq_true rfl) ⟨Nat.zero_le _, Nat.zero_le _⟩ dX5_endCollection_24 (fun u_7 H locs hf hP hD hS => ?_)
  refine lv_aload_n hx hb dX5_endCollection_27 rfl (lv_at hl 1 rfl) ?_
  refine va_get (D := (dC, dI)) (ci := 4) (v := .ref (a 13)) (C := RX5) (T := TX5) (N := 9) hx hb hts inX5 hown hK hP 0 rfl rfl 5 (by decide) (hts _ q_fl_X5_49) (fun _ h9 => h9) rfl dX5_endCollection_28 ?_
  refine lv_iconst (v := 2) hx hb dX5_endCollection_31 (by decide) ?_
  refine lv_iload_n hx hb dX5_endCollection_32 rfl (lv_at hl 0 rfl) ?_
  refine lv_aload_n hx hb dX5_endCollection_33 rfl (lv_at hl 1 rfl) ?_
  refine va_get (D := (dC, dI)) (ci := 4) (v := .int u_3.2.2.2.2.2.2.1) (C := RX5) (T := TX5) (N := 9) hx hb hts inX5 hown hK hP 0 rfl rfl 6 (by decide) (hts _ q_fl_X5_81) (fun _ h9 => h9) rfl dX5_endCollection_34 ?_
  refine z_mVv (Wn := (fun u_9 => cl_X5 cI cJ a (u_3.1, u_3.2.1, u_5, u_3.2.2.2.1, u_7, u_9, u_3.2.2.2.2.2.2.1, u_3.2.2.2.2.2.2.2.1, u_3.2.2.2.2.2.2.2.2))) (As := [.int (2 : Int32), .int x_1, .int u_3.2.2.2.2.2.2.1]) (rest := []) (wr := [0, 1, 2, 3, 4, 5, 6, 7, 8, 9, 10, 11, 12].filterMap (fun i => (cl_X5 cI cJ a (u_3.1, u_3.2.1, u_5, u_3.2.2.2.1, u_7, u_3.2.2.2.2.2.1, u_3.2.2.2.2.2.2.1, u_3.2.2.2.2.2.2.2.1, u_3.2.2.2.2.2.2.2.2))[i]?)) X (c_X2_tellOf l dC dI cI cJ cS (fun i => a (13 + i)) u_3.2.2.2.2.2.1 (2 : Int32) x_1 u_3.2.2.2.2.2.2.1 _ hf _) zc_X2_tellOf q_ml_X5_195 ⟨rfl, rfl⟩ ⟨Nat.le_of_ble_eq_true rfl, Nat.le_of_ble_eq_true rfl⟩ hP hD hS hA [13, 14] [0, 1, 2, 3, 4, 5, 6, 7, 8, 9, 10, 11, 12] rfl (by decide) rfl (by decide) (by decide) [0, 1, 2, 3, 4, 5, 6, 7, 8, 9, 10, 11, 12, 13, 14] (by decide) (fun _ => rfl) 1 rfl rfl hl.1 rfl rfl (Nat.le_of_ble_eq_true rfl) ⟨Nat.zero_le _, Nat.zero_le _⟩ dX5_endCollection_37 (fun u_9 H locs hf hP hD hS => ?_)
  exact z_retMv (Wf := (fun z => cl_X5 cI cJ a z)) (u := (u_3.1, u_3.2.1, u_5, u_3.2.2.2.1, u_7, u_9, u_3.2.2.2.2.2.2.1, u_3.2.2.2.2.2.2.2.1, u_3.2.2.2.2.2.2.2.2)) X hf hP hD hS dX5_endCollection_40
theorem st_X5_endCollection {u : zState} {Q : zState → Prop} (h : s_X5_endCollection u Q) : t_X5_endCollection u Q := by
  obtain ⟨ρ, β, mo, lm, L, S, M, B, s, h, hs, hseg, hQ⟩ := h
  have hr5 : tR u.2.2.2.1 < 5 := by have := h.2.2.2.2.2.2.2.1; have := h.2.2.2.1; omega
  have hd := (zPr.flush h).2.2.2.2.2.2.2.2.2.2.1
  intro x e
  rw [hseg] at e
  subst e
  exact ⟨⟨h.ok, h.2.2.2.2.2.2.2.2.2.2.1, hr5⟩, s, hs, rfl, hd, hQ⟩
theorem c_X5_endCollection (l : Launch) (dC : Nat → ClassId) (dI : Nat → Nat → Nat) (cI cJ cS : ClassId) (a : Nat → Nat) (u : zState) (Q : zState → Prop) (hf : s_X5_endCollection u Q) : ∀ sz : Nat, Met l yX5_endCollection (Cond.code yX5_endCollection cX5_endCollection 2 none :: zT) rm_X5_endCollection (zPm dC dI cI cJ cS (cl_X5 cI cJ a u) [.ref (a 0)] sz) (va_Qv Q (zB dC dI cI cJ cS (va_A (cl_X5 cI cJ a u) sz) (fun z => cl_X5 cI cJ a z)) (va_A (cl_X5 cI cJ a u) sz)) 0 0 (va_A (cl_X5 cI cJ a u) sz) := L_X5_endCollection l dC dI cI cJ cS a u Q (st_X5_endCollection hf)

def t_X5_noteLive_e (u : zState) (x1 : Int32) (K10 : Int32 → zState → Prop) (Q : Int32 → zState → Prop) : Prop := s_X1_start u.2.2.2.2.1 x1 (fun (u_2 : zColl) => K10 (0 : Int32) (u.1, u.2.1, u.2.2.1, u.2.2.2.1, u_2, u.2.2.2.2.2.1, u.2.2.2.2.2.2.1, u.2.2.2.2.2.2.2.1, u.2.2.2.2.2.2.2.2))
def t_X5_noteLive_10 (x1 : Int32) (y2 : Int32) (z : zState) (K10 : Int32 → zState → Prop) (Q : Int32 → zState → Prop) : Prop := s_X4_countOf z.2.2.1 x1 (fun r_4 : Int32 => ((r_4 ≤ y2 → Q z.2.2.2.2.1.2.2.1 z) ∧ (¬ r_4 ≤ y2 → s_X4_cardAt z.2.2.1 x1 y2 (fun r_6 : Int64 => s_X5_isLive z r_6 (fun r_7 : Int32 => ((r_7 = 0 → ∀ x_9 : Int32, x_9 = y2 + (1 : Int32) → K10 x_9 z) ∧ (¬ r_7 = 0 → s_X1_note z.2.2.2.2.1 r_6 (fun (u_12 : zColl) => ∀ x_13 : Int32, x_13 = y2 + (1 : Int32) → K10 x_13 (z.1, z.2.1, z.2.2.1, z.2.2.2.1, u_12, z.2.2.2.2.2.1, z.2.2.2.2.2.2.1, z.2.2.2.2.2.2.2.1, z.2.2.2.2.2.2.2.2)))))))))
theorem zc_X5_noteLive : zCalV RX5 yX5_noteLive cX5_noteLive 5 (some .int) 1 := ⟨q_im_X5_noteLive, q_se_X5_noteLive, q_in_X5, q_cd_X5_noteLive, ⟨by decide, by decide, by decide +kernel⟩, rfl⟩
abbrev rm_X5_noteLive : Room := { frames := 3, cells := 0, slots := 0, locals := 66 }
def v_X5_noteLive (u : zState) (x1 : Int32) (Q : Int32 → zState → Prop) : Prop := ∃ I10 : Nat → Int32 → zState → Prop, (∀ (n : Nat) (y2 : Int32) (z : zState), I10 n y2 z → t_X5_noteLive_10 x1 y2 z (fun q0 q1 => ∃ k : Nat, k < n ∧ I10 k q0 q1) Q) ∧ t_X5_noteLive_e u x1 (fun q0 q1 => ∃ k : Nat, I10 k q0 q1) Q
set_option maxHeartbeats 4000000 in
set_option maxRecDepth 100000 in
theorem L_X5_noteLive (l : Launch) (dC : Nat → ClassId) (dI : Nat → Nat → Nat) (cI cJ cS : ClassId) (a : Nat → Nat) (u : zState) (x1 : Int32) (Q : Int32 → zState → Prop) (I10 : Nat → Int32 → zState → Prop) (h10 : ∀ (n : Nat) (y2 : Int32) (z : zState), I10 n y2 z → t_X5_noteLive_10 x1 y2 z (fun q0 q1 => ∃ k : Nat, k < n ∧ I10 k q0 q1) Q) (hf : t_X5_noteLive_e u x1 (fun q0 q1 => ∃ k : Nat, I10 k q0 q1) Q) : ∀ sz : Nat, Met l yX5_noteLive (Cond.code yX5_noteLive cX5_noteLive 5 (some .int) :: zT) rm_X5_noteLive (zPm dC dI cI cJ cS (cl_X5 cI cJ a u) [.ref (a 0), .int x1] sz) (va_Qi Q (zB dC dI cI cJ cS (va_A (cl_X5 cI cJ a u) sz) (fun z => cl_X5 cI cJ a z)) (va_A (cl_X5 cI cJ a u) sz)) 0 0 (va_A (cl_X5 cI cJ a u) sz) := by
  intro sz
  refine z_enterM (Qc := fun A => va_Qi Q (zB dC dI cI cJ cS A (fun z => cl_X5 cI cJ a z)) A) (cc := cX5_noteLive) (maxL := 5) (ret := (some .int)) (by decide) (Nat.le_of_ble_eq_true rfl) ?_
  intro p e s m below meth c ls A X hP hD hS hA hl
  obtain ⟨⟨hx, hb, hml, hown, hts⟩, hr, hlk, hK⟩ := id X
  have hl : lv_has ls 5 [(0, .ref (a 0)), (1, .int x1)] := hl
  have LP : ∀ n : Nat, (∀ (y2 : Int32) (z : zState) (H : Heap) (locs : List Loc) (ls : Array Slot), I10 n y2 z → va_P (dC, dI) vwCl (cl_X5 cI cJ a z) H → va_D A (cl_X5 cI cJ a z) → va_S A s.heap H locs → lv_has ls 5 [(0, .ref (a 0)), (1, .int x1), (2, .int y2)] → W p l e rm_X5_noteLive s m [.ref (a 0), .int x1].toArray below meth c H locs 0 0 (MQ below (va_Qi Q (zB dC dI cI cJ cS A (fun z => cl_X5 cI cJ a z)) A) [.ref (a 0), .int x1].toArray s 0 0 A) (F0 m 10 ls [])) := by
    intro n
    induction n using Nat.strongRecOn with
    | _ n ih =>
      intro y2 z H locs ls hI hP hD hS hl
      have hf := h10 n y2 z hI
      unfold t_X5_noteLive_10 at hf
      refine lv_iload_n hx hb dX5_noteLive_10 rfl (lv_at hl 2 rfl) ?_
      refine lv_aload_n hx hb dX5_noteLive_11 rfl (lv_at hl 0 rfl) ?_
      refine va_get (D := (dC, dI)) (ci := 4) (v := .ref (a 3)) (C := RX5) (T := TX5) (N := 9) hx hb hts inX5 hown hK hP 0 rfl rfl 2 (by decide) (hts _ q_fl_X5_28) (fun _ h9 => h9) rfl dX5_noteLive_12 ?_
      refine lv_iload_n hx hb dX5_noteLive_15 rfl (lv_at hl 1 rfl) ?_
      refine z_cVi (As := [.int x1]) (rest := [.int y2]) X (c_X4_countOf l dC dI cI cJ cS (fun i => a (3 + i)) z.2.2.1 x1 _ hf) zc_X4_countOf q_ml_X5_246 ⟨rfl, rfl⟩ ⟨Nat.le_of_ble_eq_true rfl, Nat.le_of_ble_eq_true rfl⟩ hP [3, 4, 5, 6, 7] rfl 3 rfl rfl hl.1 rfl rfl (Nat.le_of_ble_eq_true rfl) ⟨Nat.zero_le _, Nat.zero_le _⟩ dX5_noteLive_16 (fun r_4 hf => ?_)
      refine lv_icmp_ge (tgt := 54) hx hb dX5_noteLive_19 (by decide) (fun c_5 => ?_) (fun c_5 => ?_)
      · have hf := hf.1 c_5
        refine lv_aload_n hx hb dX5_noteLive_54 rfl (lv_at hl 0 rfl) ?_
        refine va_get (D := (dC, dI)) (ci := 4) (v := .ref (a 11)) (C := RX5) (T := TX5) (N := 9) hx hb hts inX5 hown hK hP 0 rfl rfl 4 (by decide) (hts _ q_fl_X5_42) (fun _ h9 => h9) rfl dX5_noteLive_55 ?_
        refine va_get (D := (dC, dI)) (ci := 0) (v := .int z.2.2.2.2.1.2.2.1) (C := RX1) (T := TX1) (N := 4) hx hb hts inX1 hown hK hP 11 rfl rfl 2 (by decide) (hts _ q_fl_X5_268) (fun _ h9 => h9) rfl dX5_noteLive_58 ?_
        exact z_retMi (Wf := (fun z => cl_X5 cI cJ a z)) (u := z) X hf hP hD hS dX5_noteLive_61
      · have hf := hf.2 c_5
        refine lv_aload_n hx hb dX5_noteLive_22 rfl (lv_at hl 0 rfl) ?_
        refine va_get (D := (dC, dI)) (ci := 4) (v := .ref (a 3)) (C := RX5) (T := TX5) (N := 9) hx hb hts inX5 hown hK hP 0 rfl rfl 2 (by decide) (hts _ q_fl_X5_28) (fun _ h9 => h9) rfl dX5_noteLive_23 ?_
        refine lv_iload_n hx hb dX5_noteLive_26 rfl (lv_at hl 1 rfl) ?_
        refine lv_iload_n hx hb dX5_noteLive_27 rfl (lv_at hl 2 rfl) ?_
        refine z_cVl (As := [.int x1, .int y2]) (rest := []) X (c_X4_cardAt l dC dI cI cJ cS (fun i => a (3 + i)) z.2.2.1 x1 y2 _ hf) zc_X4_cardAt q_ml_X5_249 ⟨rfl, rfl⟩ ⟨Nat.le_of_ble_eq_true rfl, Nat.le_of_ble_eq_true rfl⟩ hP [3, 4, 5, 6, 7] rfl 3 rfl rfl hl.1 rfl rfl (Nat.le_of_ble_eq_true rfl) ⟨Nat.zero_le _, Nat.zero_le _⟩ dX5_noteLive_28 (fun r_6 hf => ?_)
        refine lv_lstore_n (lv' := [(3, .long r_6), (0, .ref (a 0)), (1, .int x1), (2, .int y2)]) hx hb dX5_noteLive_31 rfl hl (by decide) rfl (fun ls hl => ?_)
        refine lv_aload_n hx hb dX5_noteLive_32 rfl (lv_at hl 1 rfl) ?_
        refine lv_lload_n hx hb dX5_noteLive_33 rfl (lv_at hl 0 rfl) ?_
        refine z_cVi (As := [.long r_6]) (rest := []) X (c_X5_isLive l dC dI cI cJ cS a z r_6 _ hf) zc_X5_isLive q_ml_X5_141 ⟨rfl, rfl⟩ ⟨Nat.le_of_ble_eq_true rfl, Nat.le_of_ble_eq_true rfl⟩ hP [0, 1, 2, 3, 4, 5, 6, 7, 8, 9, 10, 11, 12, 13, 14] rfl 4 rfl rfl hl.1 rfl rfl (Nat.le_of_ble_eq_true rfl) ⟨Nat.zero_le _, Nat.zero_le _⟩ dX5_noteLive_34 (fun r_7 hf => ?_)
        obtain ⟨hbr_7, hf⟩ := hf
        refine lv_if_eq (tgt := 48) hx hb dX5_noteLive_37 (by decide) (fun c_8 => ?_) (fun c_8 => ?_)
        · have hf := hf.1 c_8
          obtain ⟨x_9, ex_9⟩ : ∃ y : Int32, y = y2 + (1 : Int32) := ⟨_, rfl⟩
          have hf := hf x_9 ex_9
          refine lv_iinc (v := x_9) (lv' := [(2, .int x_9), (3, .long r_6), (0, .ref (a 0)), (1, .int x1)]) hx hb dX5_noteLive_48 hl (k := 3) rfl (by rw [ex_9]; rfl) (by decide) rfl (fun ls hl => ?_)
          refine lv_goto (tgt := 10) hx hb dX5_noteLive_51 (by decide) ?_
          obtain ⟨k_10, hk_10, hf⟩ := hf
          exact (ih k_10 hk_10) _ z _ _ ls hf hP hD hS (lv_sub hl [2, 3, 0] rfl)
        · have hf := hf.2 c_8
          refine lv_aload_n hx hb dX5_noteLive_40 rfl (lv_at hl 1 rfl) ?_
          refine va_get (D := (dC, dI)) (ci := 4) (v := .ref (a 11)) (C := RX5) (T := TX5) (N := 9) hx hb hts inX5 hown hK hP 0 rfl rfl 4 (by decide) (hts _ q_fl_X5_42) (fun _ h9 => h9) rfl dX5_noteLive_41 ?_
          refine lv_lload_n hx hb dX5_noteLive_44 rfl (lv_at hl 0 rfl) ?_
          refine z_mVv (Wn := (fun u_12 => cl_X5 cI cJ a (z.1, z.2.1, z.2.2.1, z.2.2.2.1, u_12, z.2.2.2.2.2.1, z.2.2.2.2.2.2.1, z.2.2.2.2.2.2.2.1, z.2.2.2.2.2.2.2.2))) (As := [.long r_6]) (rest := []) (wr := [0, 1, 2, 3, 4, 5, 6, 7, 8, 9, 10, 13, 14].filterMap (fun i => (cl_X5 cI cJ a z)[i]?)) X (c_X1_note l dC dI cI cJ cS (fun i => a (11 + i)) z.2.2.2.2.1 r_6 _ hf _) zc_X1_note q_ml_X5_265 ⟨rfl, rfl⟩ ⟨Nat.le_of_ble_eq_true rfl, Nat.le_of_ble_eq_true rfl⟩ hP hD hS hA [11, 12] [0, 1, 2, 3, 4, 5, 6, 7, 8, 9, 10, 13, 14] rfl (by decide) rfl (by decide) (by decide) [0, 1, 2, 3, 4, 5, 6, 7, 8, 9, 10, 13, 14, 11, 12] (by decide) (fun _ => rfl) 0 rfl rfl hl.1 rfl rfl (Nat.le_of_ble_eq_true rfl) ⟨Nat.zero_le _, Nat.zero_le _⟩ dX5_noteLive_45 (fun u_12 H locs hf hP hD hS => ?_)
          obtain ⟨x_13, ex_13⟩ : ∃ y : Int32, y = y2 + (1 : Int32) := ⟨_, rfl⟩
          have hf := hf x_13 ex_13
          refine lv_iinc (v := x_13) (lv' := [(2, .int x_13), (3, .long r_6), (0, .ref (a 0)), (1, .int x1)]) hx hb dX5_noteLive_48 hl (k := 3) rfl (by rw [ex_13]; rfl) (by decide) rfl (fun ls hl => ?_)
          refine lv_goto (tgt := 10) hx hb dX5_noteLive_51 (by decide) ?_
          obtain ⟨k_14, hk_14, hf⟩ := hf
          exact (ih k_14 hk_14) _ (z.1, z.2.1, z.2.2.1, z.2.2.2.1, u_12, z.2.2.2.2.2.1, z.2.2.2.2.2.2.1, z.2.2.2.2.2.2.2.1, z.2.2.2.2.2.2.2.2) _ _ ls hf hP hD hS (lv_sub hl [2, 3, 0] rfl)
  unfold t_X5_noteLive_e at hf
  refine lv_aload_n hx hb dX5_noteLive_0 rfl (lv_at hl 0 rfl) ?_
  refine va_get (D := (dC, dI)) (ci := 4) (v := .ref (a 11)) (C := RX5) (T := TX5) (N := 9) hx hb hts inX5 hown hK hP 0 rfl rfl 4 (by decide) (hts _ q_fl_X5_42) (fun _ h9 => h9) rfl dX5_noteLive_1 ?_
  refine lv_iload_n hx hb dX5_noteLive_4 rfl (lv_at hl 1 rfl) ?_
  refine z_mVv (Wn := (fun u_2 => cl_X5 cI cJ a (u.1, u.2.1, u.2.2.1, u.2.2.2.1, u_2, u.2.2.2.2.2.1, u.2.2.2.2.2.2.1, u.2.2.2.2.2.2.2.1, u.2.2.2.2.2.2.2.2))) (As := [.int x1]) (rest := []) (wr := [0, 1, 2, 3, 4, 5, 6, 7, 8, 9, 10, 13, 14].filterMap (fun i => (cl_X5 cI cJ a u)[i]?)) X (c_X1_start l dC dI cI cJ cS (fun i => a (11 + i)) u.2.2.2.2.1 x1 _ hf _) zc_X1_start q_ml_X5_262 ⟨rfl, rfl⟩ ⟨Nat.le_of_ble_eq_true rfl, Nat.le_of_ble_eq_true rfl⟩ hP hD hS hA [11, 12] [0, 1, 2, 3, 4, 5, 6, 7, 8, 9, 10, 13, 14] rfl (by decide) rfl (by decide) (by decide) [0, 1, 2, 3, 4, 5, 6, 7, 8, 9, 10, 13, 14, 11, 12] (by decide) (fun _ => rfl) 0 rfl rfl hl.1 rfl rfl (Nat.le_of_ble_eq_true rfl) ⟨Nat.zero_le _, Nat.zero_le _⟩ dX5_noteLive_5 (fun u_2 H locs hf hP hD hS => ?_)
  refine lv_iconst (v := 0) hx hb dX5_noteLive_8 (by decide) ?_
  refine lv_istore_n (lv' := [(2, .int (0 : Int32)), (0, .ref (a 0)), (1, .int x1)]) hx hb dX5_noteLive_9 rfl hl (by decide) rfl (fun ls hl => ?_)
  obtain ⟨k_3, hf⟩ := hf
  exact (LP k_3) _ (u.1, u.2.1, u.2.2.1, u.2.2.2.1, u_2, u.2.2.2.2.2.1, u.2.2.2.2.2.2.1, u.2.2.2.2.2.2.2.1, u.2.2.2.2.2.2.2.2) _ _ ls hf hP hD hS (lv_sub hl [1, 2, 0] rfl)
/-- the live records of the first j of a segment, one behind the other -/
def uNt (u : zState) (s : Nat) : Nat → (Nat → Int64) × Nat
  | 0 => (u.2.2.2.2.1.1, 0)
  | j + 1 => if uLiv u (uRec u s j) then (vp_updL (uNt u s j).1 (uNt u s j).2 (uRec u s j), (uNt u s j).2 + 1) else uNt u s j
theorem uNt_le (u : zState) (s : Nat) : ∀ j, (uNt u s j).2 ≤ j
  | 0 => Nat.le_refl 0
  | j + 1 => by
    have := uNt_le u s j
    unfold uNt
    split
    · show (uNt u s j).2 + 1 ≤ j + 1; omega
    · omega
def uCl (u : zState) (c : zColl) : zState := (u.1, u.2.1, u.2.2.1, u.2.2.2.1, c, u.2.2.2.2.2.1, u.2.2.2.2.2.2.1, u.2.2.2.2.2.2.2.1, u.2.2.2.2.2.2.2.2)
def uNote (u : zState) (s : Nat) : zState := uCl u ((uNt u s (cN u s)).1, nI s, nI (uNt u s (cN u s)).2, 0)
def s_X5_noteLive (u : zState) (x1 : Int32) (Q : Int32 → zState → Prop) : Prop := zOk u ∧ ∃ s : Nat, s < 12 ∧ x1 = nI s ∧ Q (nI (uNt u s (cN u s)).2) (uNote u s)
theorem st_X5_noteLive {u : zState} {x1 : Int32} {Q : Int32 → zState → Prop} (h : s_X5_noteLive u x1 Q) : v_X5_noteLive u x1 Q := by
  obtain ⟨ho, s, hs, rfl, h⟩ := h
  have hc := ho.cl hs
  refine zlp2 (T := fun y z K => t_X5_noteLive_10 (nI s) y z K Q) (E := fun K => t_X5_noteLive_e u (nI s) K Q) (cN u s) (fun i => nI i) (fun i => uCl u ((uNt u s i).1, nI s, nI (uNt u s i).2, 0)) (fun K hK => hK) ?_ ?_
  · intro i hi K hK
    have hu : uNt u s (i + 1) = if uLiv u (uRec u s i) then (vp_updL (uNt u s i).1 (uNt u s i).2 (uRec u s i), (uNt u s i).2 + 1) else uNt u s i := rfl
    have hK : K (nI (i + 1)) (uCl u ((uNt u s (i + 1)).1, nI s, nI (uNt u s (i + 1)).2, 0)) := hK
    rw [hu] at hK
    have hle := uNt_le u s i
    refine ⟨s, hs, rfl, ?_⟩
    show ((u.2.2.1.2.1 s ≤ nI i → _) ∧ _)
    rw [ho.c hs]
    refine ⟨fun c => absurd c (nI_ge hi (by omega)), fun _ => ⟨s, cN u s, hs, hc, rfl, ho.c hs, Or.inl ⟨i, hi, rfl, ho, fun hl => ⟨fun q => absurd q (by decide), fun _ => ⟨(uNt u s i).2, by omega, rfl, fun x e => ?_⟩⟩, fun hl => ⟨fun _ x e => ?_, fun q => absurd rfl q⟩⟩⟩⟩
    · rw [if_pos (show uLiv u (uRec u s i) = true from hl)] at hK
      rw [e, nI_1]; exact hK
    · rw [if_neg (by rw [show uLiv u (uRec u s i) = false from hl]; decide)] at hK
      rw [e, nI_1]; exact hK
  · intro K
    refine ⟨s, hs, rfl, ?_⟩
    show ((u.2.2.1.2.1 s ≤ nI (cN u s) → _) ∧ _)
    rw [ho.c hs]
    exact ⟨fun _ => h, fun c => absurd (show u.2.2.1.2.1 s ≤ nI (cN u s) by rw [ho.c hs]; exact nI_le (Nat.le_refl _) (by omega)) c⟩
theorem uNt_in (u : zState) (s : Nat) : ∀ j i, i < (uNt u s j).2 → ∃ q, q < j ∧ (uNt u s j).1 i = uRec u s q
  | 0, i, h => absurd h (Nat.not_lt_zero _)
  | j + 1, i, h => by
    unfold uNt at h ⊢
    split at h
    · rename_i hl
      rw [if_pos hl]
      by_cases hi : i = (uNt u s j).2
      · exact ⟨j, by omega, if_pos hi⟩
      · have h : i < (uNt u s j).2 + 1 := h
        obtain ⟨q, q1, q2⟩ := uNt_in u s j i (by omega)
        exact ⟨q, by omega, (if_neg hi).trans q2⟩
    · rename_i hl
      rw [if_neg hl]
      obtain ⟨q, q1, q2⟩ := uNt_in u s j i h
      exact ⟨q, by omega, q2⟩
theorem uNt_all (u : zState) (s : Nat) : ∀ j q, q < j → uLiv u (uRec u s q) = true → ∃ i, i < (uNt u s j).2 ∧ (uNt u s j).1 i = uRec u s q
  | 0, q, h, _ => absurd h (Nat.not_lt_zero _)
  | j + 1, q, h, hl => by
    unfold uNt
    by_cases hq : q = j
    · subst hq
      rw [if_pos hl]
      exact ⟨(uNt u s q).2, Nat.lt_succ_self _, if_pos rfl⟩
    · obtain ⟨i, i1, i2⟩ := uNt_all u s j q (by omega) hl
      split
      · exact ⟨i, Nat.lt_succ_of_lt i1, (if_neg (Nat.ne_of_lt i1)).trans i2⟩
      · exact ⟨i, i1, i2⟩
theorem zPr.note {ρ β mo lm L S M B s : Nat} {u : zState} (h : zP ρ β mo lm L S M B u) (hs : s < 12) (hk : u.2.2.1.2.2.2.1 s = 2) : zP ρ β mo lm L S M B (uNote u s) := by
  obtain ⟨h1, h2, h3, h4, h5, hg, ht, hR, hL, hC, hD, hT⟩ := h
  have h50 := (hg.2.1 s hs).2
  have hle : (uNt u s (cN u s)).2 ≤ gN u.2.2.1 s := uNt_le u s _
  have ew : wN ((uNt u s (cN u s)).1, nI s, nI (uNt u s (cN u s)).2, 0) = (uNt u s (cN u s)).2 := nI_clamp (by omega)
  have ex : xN ((uNt u s (cN u s)).1, nI s, nI (uNt u s (cN u s)).2, 0) = 0 := n_c0
  refine ⟨h1, h2, h3, h4, h5, hg, ht, hR, hL, ⟨⟨by show nI (uNt u s (cN u s)).2 = nI (wN ((uNt u s (cN u s)).1, nI s, nI (uNt u s (cN u s)).2, 0)); rw [ew], by show wN ((uNt u s (cN u s)).1, nI s, nI (uNt u s (cN u s)).2, 0) ≤ 50; rw [ew]; omega⟩, ⟨by show (0 : Int32) = nI (xN ((uNt u s (cN u s)).1, nI s, nI (uNt u s (cN u s)).2, 0)); rw [ex]; rfl, by show xN ((uNt u s (cN u s)).1, nI s, nI (uNt u s (cN u s)).2, 0) ≤ wN ((uNt u s (cN u s)).1, nI s, nI (uNt u s (cN u s)).2, 0); rw [ex]; omega⟩, Or.inr ⟨s, hs, rfl, hk, fun i hi => ?_, fun j hj hl => ?_⟩⟩, hD, hT⟩
  · have hi : i < wN ((uNt u s (cN u s)).1, nI s, nI (uNt u s (cN u s)).2, 0) := hi
    rw [ew] at hi
    exact uNt_in u s _ i hi
  · obtain ⟨i, i1, i2⟩ := uNt_all u s (cN u s) j hj hl
    exact ⟨i, by show xN ((uNt u s (cN u s)).1, nI s, nI (uNt u s (cN u s)).2, 0) ≤ i; rw [ex]; omega, by show i < wN ((uNt u s (cN u s)).1, nI s, nI (uNt u s (cN u s)).2, 0); rw [ew]; exact i1, i2⟩
theorem c_X5_noteLive (l : Launch) (dC : Nat → ClassId) (dI : Nat → Nat → Nat) (cI cJ cS : ClassId) (a : Nat → Nat) (u : zState) (x1 : Int32) (Q : Int32 → zState → Prop) (hf : s_X5_noteLive u x1 Q) : ∀ sz : Nat, Met l yX5_noteLive (Cond.code yX5_noteLive cX5_noteLive 5 (some .int) :: zT) rm_X5_noteLive (zPm dC dI cI cJ cS (cl_X5 cI cJ a u) [.ref (a 0), .int x1] sz) (va_Qi Q (zB dC dI cI cJ cS (va_A (cl_X5 cI cJ a u) sz) (fun z => cl_X5 cI cJ a z)) (va_A (cl_X5 cI cJ a u) sz)) 0 0 (va_A (cl_X5 cI cJ a u) sz) := by
  obtain ⟨I10, h10, hf⟩ := st_X5_noteLive hf
  exact L_X5_noteLive l dC dI cI cJ cS a u x1 Q I10 h10 hf

def s_X5_leaveCollection (u : zState) (Q : Int32 → zState → Prop) : Prop := s_X1_left u.2.2.2.2.1 (fun r_1 : Int32 => s_X1_stop u.2.2.2.2.1 (fun (u_3 : zColl) => Q r_1 (u.1, u.2.1, u.2.2.1, u.2.2.2.1, u_3, u.2.2.2.2.2.1, u.2.2.2.2.2.2.1, u.2.2.2.2.2.2.2.1, u.2.2.2.2.2.2.2.2)))
theorem zc_X5_leaveCollection : zCalV RX5 yX5_leaveCollection cX5_leaveCollection 2 (some .int) 0 := ⟨q_im_X5_leaveCollection, q_se_X5_leaveCollection, q_in_X5, q_cd_X5_leaveCollection, ⟨by decide, by decide, by decide +kernel⟩, rfl⟩
abbrev rm_X5_leaveCollection : Room := { frames := 2, cells := 0, slots := 0, locals := 41 }
set_option maxHeartbeats 4000000 in
set_option maxRecDepth 100000 in
theorem c_X5_leaveCollection (l : Launch) (dC : Nat → ClassId) (dI : Nat → Nat → Nat) (cI cJ cS : ClassId) (a : Nat → Nat) (u : zState) (Q : Int32 → zState → Prop) (hf : s_X5_leaveCollection u Q) : ∀ sz : Nat, Met l yX5_leaveCollection (Cond.code yX5_leaveCollection cX5_leaveCollection 2 (some .int) :: zT) rm_X5_leaveCollection (zPm dC dI cI cJ cS (cl_X5 cI cJ a u) [.ref (a 0)] sz) (va_Qi Q (zB dC dI cI cJ cS (va_A (cl_X5 cI cJ a u) sz) (fun z => cl_X5 cI cJ a z)) (va_A (cl_X5 cI cJ a u) sz)) 0 0 (va_A (cl_X5 cI cJ a u) sz) := by
  intro sz
  refine z_enterM (Qc := fun A => va_Qi Q (zB dC dI cI cJ cS A (fun z => cl_X5 cI cJ a z)) A) (cc := cX5_leaveCollection) (maxL := 2) (ret := (some .int)) (by decide) (Nat.le_of_ble_eq_true rfl) ?_
  intro p e s m below meth c ls A X hP hD hS hA hl
  obtain ⟨⟨hx, hb, hml, hown, hts⟩, hr, hlk, hK⟩ := id X
  have hl : lv_has ls 2 [(0, .ref (a 0))] := hl
  unfold s_X5_leaveCollection at hf
  refine lv_aload_n hx hb dX5_leaveCollection_0 rfl (lv_at hl 0 rfl) ?_
  refine va_get (D := (dC, dI)) (ci := 4) (v := .ref (a 11)) (C := RX5) (T := TX5) (N := 9) hx hb hts inX5 hown hK hP 0 rfl rfl 4 (by decide) (hts _ q_fl_X5_42) (fun _ h9 => h9) rfl dX5_leaveCollection_1 ?_
  refine z_cVi (As := []) (rest := []) X (c_X1_left l dC dI cI cJ cS (fun i => a (11 + i)) u.2.2.2.2.1  _ hf) zc_X1_left q_ml_X5_134 ⟨rfl, rfl⟩ ⟨Nat.le_of_ble_eq_true rfl, Nat.le_of_ble_eq_true rfl⟩ hP [11, 12] rfl 0 rfl rfl hl.1 rfl rfl (Nat.le_of_ble_eq_true rfl) ⟨Nat.zero_le _, Nat.zero_le _⟩ dX5_leaveCollection_4 (fun r_1 hf => ?_)
  refine lv_istore_n (lv' := [(1, .int r_1), (0, .ref (a 0))]) hx hb dX5_leaveCollection_7 rfl hl (by decide) rfl (fun ls hl => ?_)
  refine lv_aload_n hx hb dX5_leaveCollection_8 rfl (lv_at hl 1 rfl) ?_
  refine va_get (D := (dC, dI)) (ci := 4) (v := .ref (a 11)) (C := RX5) (T := TX5) (N := 9) hx hb hts inX5 hown hK hP 0 rfl rfl 4 (by decide) (hts _ q_fl_X5_42) (fun _ h9 => h9) rfl dX5_leaveCollection_9 ?_
  refine z_mVv (Wn := (fun u_3 => cl_X5 cI cJ a (u.1, u.2.1, u.2.2.1, u.2.2.2.1, u_3, u.2.2.2.2.2.1, u.2.2.2.2.2.2.1, u.2.2.2.2.2.2.2.1, u.2.2.2.2.2.2.2.2))) (As := []) (rest := []) (wr := [0, 1, 2, 3, 4, 5, 6, 7, 8, 9, 10, 13, 14].filterMap (fun i => (cl_X5 cI cJ a u)[i]?)) X (c_X1_stop l dC dI cI cJ cS (fun i => a (11 + i)) u.2.2.2.2.1  _ hf _) zc_X1_stop q_ml_X5_75 ⟨rfl, rfl⟩ ⟨Nat.le_of_ble_eq_true rfl, Nat.le_of_ble_eq_true rfl⟩ hP hD hS hA [11, 12] [0, 1, 2, 3, 4, 5, 6, 7, 8, 9, 10, 13, 14] rfl (by decide) rfl (by decide) (by decide) [0, 1, 2, 3, 4, 5, 6, 7, 8, 9, 10, 13, 14, 11, 12] (by decide) (fun _ => rfl) 0 rfl rfl hl.1 rfl rfl (Nat.le_of_ble_eq_true rfl) ⟨Nat.zero_le _, Nat.zero_le _⟩ dX5_leaveCollection_12 (fun u_3 H locs hf hP hD hS => ?_)
  refine lv_iload_n hx hb dX5_leaveCollection_15 rfl (lv_at hl 0 rfl) ?_
  exact z_retMi (Wf := (fun z => cl_X5 cI cJ a z)) (u := (u.1, u.2.1, u.2.2.1, u.2.2.2.1, u_3, u.2.2.2.2.2.1, u.2.2.2.2.2.2.1, u.2.2.2.2.2.2.2.1, u.2.2.2.2.2.2.2.2)) X hf hP hD hS dX5_leaveCollection_16
