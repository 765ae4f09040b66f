theorem lw_ex {L i : Nat} (hL : L ≤ 3072) (hi : i ≤ 3100) : (nI L - 6 < nI i) ↔ L < i + 6 := by
  by_cases h : L < 6
  · have h6 : ∀ L, L < 6 → nI L - 6 < 0 := by decide
    exact ⟨fun _ => by omega, fun _ => fa_trans (h6 L h) (nI_pos' (by omega))⟩
  · obtain ⟨k, rfl⟩ : ∃ k, L = k + 6 := ⟨L - 6, by omega⟩
    have e : nI (k + 6) - 6 = nI k := by
      rw [← nI_add]
      exact Int32.add_sub_cancel _ _
    rw [e]
    refine ⟨fun q => ?_, fun q => nI_lt (by omega) (by omega)⟩
    by_cases hk : i ≤ k
    · exact absurd q (Int32.not_lt.mpr (nI_le hk (by omega)))
    · omega
theorem px_s (x y z : va_W) : ((x ++ y) ++ z).Perm ((z ++ x) ++ y) := by
  rw [List.append_assoc z x y]
  exact List.perm_append_comm
set_option maxHeartbeats 4000000 in
set_option maxRecDepth 100000 in
theorem law_loop {p : Program} {l : Launch} {e : Env} {s : State} {m : MethodId} {below : List Frame} {meth : Method} {c : Code} {dC : Nat → ClassId} {dI : Nat → Nat → Nat} {cI cJ cS : ClassId} {b L o : Nat} {xs : Nat → Int32} {a am : Nat → Nat} (X : zX p s m #[Value.ref b] meth c cL_law 7 ret RL dC dI cI cJ cS) (hFw : zFw (fun q : Nat => s.heap.size ≤ q) s s.heap) (hlt : l.stackTraces = false) (hX : va_X b L xs s s.heap) (hbl : b < s.heap.size) (hbA : ¬ (fun q : Nat => s.heap.size ≤ q) b) (hA : ∀ q : Nat, s.heap.size ≤ q → (fun q : Nat => s.heap.size ≤ q) q) (hL : L ≤ 3072) :
    ∀ (n i B cells slots : Nat) (G : zG) (u : zCls) (v : zModel) (f : Nat → Int64) (H : Heap) (locs : List Loc) (ls : Array Slot), L ≤ i + 6 * n → i ≤ 3080 → B + 400 + 280 * n ≤ 400000 → cells + 3 * n ≤ 601024 → slots + 18 * n ≤ 7293034 → okG B G → cG G u → mG G v → va_P (dC, dI) vwCl (lwW cI cJ cS o f a u am v) H → va_D (fun q : Nat => s.heap.size ≤ q) (lwW cI cJ cS o f a u am v) → va_S (fun q : Nat => s.heap.size ≤ q) s.heap H locs → lv_has ls 7 [(0, .ref b), (1, .ref (a 0)), (2, .ref (am 0)), (3, .ref o), (4, .int (nI i))] → W p l e room_1 s m #[Value.ref b] below meth c H locs cells slots (lw_Z below #[Value.ref b] s) (F0 m 23 ls []) := by
  obtain ⟨⟨hx, hb, hml, hown, hts⟩, hr, hlk, hK⟩ := id X
  intro n
  induction n with
  | zero =>
    intro i B cells slots G u v f H locs ls h1 h2 h3 h4 h5 hok hc hm hP hD hS hl
    refine lv_iload hx hb dL_law_23 (lv_at hl 4 rfl) ?_
    refine lv_aload_n hx hb dL_law_25 rfl (lv_at hl 0 rfl) ?_
    refine va_slen hx hb hX hbl hbA hS dL_law_26 ?_
    refine lv_bipush (v := 6) hx hb dL_law_27 (by decide) ?_
    refine lv_isub hx hb dL_law_29 ?_
    refine lv_icmp_gt (tgt := 1948) hx hb dL_law_30 (by decide) (fun _ => ?_) (fun h => absurd ((lw_ex hL (by omega)).mpr (by omega)) h)
    refine lv_iconst (v := 1) hx hb dL_law_1948 (by decide) ?_
    refine va_forget (fun q hq => hS.2.2 q hq) ?_
    refine W.widen (k := 601024) (n := 7293034) (by omega) (by omega) ?_
    exact lw_ret hx hb hr hlk dL_law_1949
  | succ n ih =>
    intro i B cells slots G u v f H locs ls h1 h2 h3 h4 h5 hok hc hm hP hD hS hl
    refine lv_iload hx hb dL_law_23 (lv_at hl 4 rfl) ?_
    refine lv_aload_n hx hb dL_law_25 rfl (lv_at hl 0 rfl) ?_
    refine va_slen hx hb hX hbl hbA hS dL_law_26 ?_
    refine lv_bipush (v := 6) hx hb dL_law_27 (by decide) ?_
    refine lv_isub hx hb dL_law_29 ?_
    refine lv_icmp_gt (tgt := 1948) hx hb dL_law_30 (by decide) (fun _ => ?_) (fun h => ?_)
    · refine lv_iconst (v := 1) hx hb dL_law_1948 (by decide) ?_
      refine va_forget (fun q hq => hS.2.2 q hq) ?_
      refine W.widen (k := 601024) (n := 7293034) (by omega) (by omega) ?_
      exact lw_ret hx hb hr hlk dL_law_1949
    · have hi : i + 6 ≤ L := Nat.not_lt.mp (fun q => h ((lw_ex hL (by omega)).mpr q))
      have hB : B + 400 ≤ 400000 := by omega
      have hcs : cells + 3 ≤ 601024 ∧ slots + 18 ≤ 7293034 := ⟨by omega, by omega⟩
      have kk : ∀ (G' : zG) (u' : zCls) (v' : zModel) (f' : Nat → Int64) (H' : Heap) (locs' : List Loc) (ls' : Array Slot), okG (B + 280) G' → cG G' u' → mG G' v' → va_P (dC, dI) vwCl (lwW cI cJ cS o f' a u' am v') H' → va_D (fun q : Nat => s.heap.size ≤ q) (lwW cI cJ cS o f' a u' am v') → va_S (fun q : Nat => s.heap.size ≤ q) s.heap H' locs' → lv_has ls' 7 [(0, .ref b), (1, .ref (a 0)), (2, .ref (am 0)), (3, .ref o), (4, .int (nI i))] → W p l e room_1 s m #[Value.ref b] below meth c H' locs' (cells + 3) (slots + 18) (lw_Z below #[Value.ref b] s) (F0 m 1942 ls' []) := by
        intro G' u' v' f' H' locs' ls' hok' hc' hm' hP' hD' hS' hl'
        refine lv_iinc (v := nI (i + 6)) (lv' := [(4, .int (nI (i + 6))), (0, .ref b), (1, .ref (a 0)), (2, .ref (am 0)), (3, .ref o)]) hx hb dL_law_1942 hl' (k := 4) rfl (nI_add i 6) (by decide) rfl (fun ls hl => ?_)
        refine lv_goto (tgt := 23) hx hb dL_law_1945 (by decide) ?_
        exact ih (i + 6) (B + 280) (cells + 3) (slots + 18) G' u' v' f' H' locs' ls (by omega) (by omega) (by omega) (by omega) (by omega) hok' hc' hm' hP' hD' hS' (lv_sub hl [1, 2, 3, 4, 0] rfl)
      refine lv_aload_n hx hb dL_law_33 rfl (lv_at hl 0 rfl) ?_
      refine lv_iload hx hb dL_law_34 (lv_at hl 4 rfl) ?_
      refine va_sld hx hb hX hbl hbA hS (vp_in_nI (n := i) (by omega) (by omega)) dL_law_36 ?_
      refine lv_bipush (v := 63) hx hb dL_law_37 (by decide) ?_
      refine lv_iand hx hb dL_law_39 ?_
      obtain ⟨x, ex⟩ : ∃ x : Int32, x = xs (nI i).toNatClampNeg &&& 63 := ⟨_, rfl⟩
      rw [← ex]
      by_cases c0 : x = (0 : Int32)
      · refine lv_tableIn (off := 156) (tgt := 196) hx hb dL_law_40 (by rw [c0]; decide) (by rw [c0]; decide) (by rw [c0]; decide) (by decide) ?_
        exact lawc_0 (xs := xs) X hFw hlt hX hbl hbA hA hi hL hok hB hc hm hP hD hS hl hcs kk
      by_cases c1 : x = (1 : Int32)
      · refine lv_tableIn (off := 229) (tgt := 269) hx hb dL_law_40 (by rw [c1]; decide) (by rw [c1]; decide) (by rw [c1]; decide) (by decide) ?_
        exact lawc_1 (xs := xs) X hFw hlt hX hbl hbA hA hi hL hok hB hc hm hP hD hS hl hcs kk
      by_cases c2 : x = (2 : Int32)
      · refine lv_tableIn (off := 254) (tgt := 294) hx hb dL_law_40 (by rw [c2]; decide) (by rw [c2]; decide) (by rw [c2]; decide) (by decide) ?_
        exact lawc_2 (xs := xs) X hFw hlt hX hbl hbA hA hi hL hok hB hc hm hP hD hS hl hcs kk
      by_cases c3 : x = (3 : Int32)
      · refine lv_tableIn (off := 298) (tgt := 338) hx hb dL_law_40 (by rw [c3]; decide) (by rw [c3]; decide) (by rw [c3]; decide) (by decide) ?_
        exact lawc_3 (xs := xs) X hFw hlt hX hbl hbA hA hi hL hok hB hc hm hP hD hS hl hcs kk
      by_cases c4 : x = (4 : Int32)
      · refine lv_tableIn (off := 311) (tgt := 351) hx hb dL_law_40 (by rw [c4]; decide) (by rw [c4]; decide) (by rw [c4]; decide) (by decide) ?_
        exact lawc_4 (xs := xs) X hFw hlt hX hbl hbA hA hi hL hok hB hc hm hP hD hS hl hcs kk
      by_cases c5 : x = (5 : Int32)
      · refine lv_tableIn (off := 324) (tgt := 364) hx hb dL_law_40 (by rw [c5]; decide) (by rw [c5]; decide) (by rw [c5]; decide) (by decide) ?_
        exact lawc_5 (xs := xs) X hFw hlt hX hbl hbA hA hi hL hok hB hc hm hP hD hS hl hcs kk
      by_cases c6 : x = (6 : Int32)
      · refine lv_tableIn (off := 416) (tgt := 456) hx hb dL_law_40 (by rw [c6]; decide) (by rw [c6]; decide) (by rw [c6]; decide) (by decide) ?_
        exact lawc_6 (xs := xs) X hFw hlt hX hbl hbA hA hi hL hok hB hc hm hP hD hS hl hcs kk
      by_cases c7 : x = (7 : Int32)
      · refine lv_tableIn (off := 496) (tgt := 536) hx hb dL_law_40 (by rw [c7]; decide) (by rw [c7]; decide) (by rw [c7]; decide) (by decide) ?_
        exact lawc_7 (xs := xs) X hFw hlt hX hbl hbA hA hi hL hok hB hc hm hP hD hS hl hcs kk
      by_cases c8 : x = (8 : Int32)
      · refine lv_tableIn (off := 552) (tgt := 592) hx hb dL_law_40 (by rw [c8]; decide) (by rw [c8]; decide) (by rw [c8]; decide) (by decide) ?_
        exact lawc_8 (xs := xs) X hFw hlt hX hbl hbA hA hi hL hok hB hc hm hP hD hS hl hcs kk
      by_cases c9 : x = (9 : Int32)
      · refine lv_tableIn (off := 565) (tgt := 605) hx hb dL_law_40 (by rw [c9]; decide) (by rw [c9]; decide) (by rw [c9]; decide) (by decide) ?_
        exact lawc_9 (xs := xs) X hFw hlt hX hbl hbA hA hi hL hok hB hc hm hP hD hS hl hcs kk
      by_cases c10 : x = (10 : Int32)
      · refine lv_tableIn (off := 578) (tgt := 618) hx hb dL_law_40 (by rw [c10]; decide) (by rw [c10]; decide) (by rw [c10]; decide) (by decide) ?_
        exact lawc_10 (xs := xs) X hFw hlt hX hbl hbA hA hi hL hok hB hc hm hP hD hS hl hcs kk
      by_cases c11 : x = (11 : Int32)
      · refine lv_tableIn (off := 591) (tgt := 631) hx hb dL_law_40 (by rw [c11]; decide) (by rw [c11]; decide) (by rw [c11]; decide) (by decide) ?_
        exact lawc_11 (xs := xs) X hFw hlt hX hbl hbA hA hi hL hok hB hc hm hP hD hS hl hcs kk
      by_cases c12 : x = (12 : Int32)
      · refine lv_tableIn (off := 604) (tgt := 644) hx hb dL_law_40 (by rw [c12]; decide) (by rw [c12]; decide) (by rw [c12]; decide) (by decide) ?_
        exact lawc_12 (xs := xs) X hFw hlt hX hbl hbA hA hi hL hok hB hc hm hP hD hS hl hcs kk
      by_cases c13 : x = (13 : Int32)
      · refine lv_tableIn (off := 660) (tgt := 700) hx hb dL_law_40 (by rw [c13]; decide) (by rw [c13]; decide) (by rw [c13]; decide) (by decide) ?_
        exact lawc_13 (xs := xs) X hFw hlt hX hbl hbA hA hi hL hok hB hc hm hP hD hS hl hcs kk
      by_cases c14 : x = (14 : Int32)
      · refine lv_tableIn (off := 716) (tgt := 756) hx hb dL_law_40 (by rw [c14]; decide) (by rw [c14]; decide) (by rw [c14]; decide) (by decide) ?_
        exact lawc_14 (xs := xs) X hFw hlt hX hbl hbA hA hi hL hok hB hc hm hP hD hS hl hcs kk
      by_cases c15 : x = (15 : Int32)
      · refine lv_tableIn (off := 760) (tgt := 800) hx hb dL_law_40 (by rw [c15]; decide) (by rw [c15]; decide) (by rw [c15]; decide) (by decide) ?_
        exact lawc_15 (xs := xs) X hFw hlt hX hbl hbA hA hi hL hok hB hc hm hP hD hS hl hcs kk
      by_cases c16 : x = (16 : Int32)
      · refine lv_tableIn (off := 804) (tgt := 844) hx hb dL_law_40 (by rw [c16]; decide) (by rw [c16]; decide) (by rw [c16]; decide) (by decide) ?_
        exact lawc_16 (xs := xs) X hFw hlt hX hbl hbA hA hi hL hok hB hc hm hP hD hS hl hcs kk
      by_cases c17 : x = (17 : Int32)
      · refine lv_tableIn (off := 872) (tgt := 912) hx hb dL_law_40 (by rw [c17]; decide) (by rw [c17]; decide) (by rw [c17]; decide) (by decide) ?_
        exact lawc_17 (xs := xs) X hFw hlt hX hbl hbA hA hi hL hok hB hc hm hP hD hS hl hcs kk
      by_cases c18 : x = (18 : Int32)
      · refine lv_tableIn (off := 940) (tgt := 980) hx hb dL_law_40 (by rw [c18]; decide) (by rw [c18]; decide) (by rw [c18]; decide) (by decide) ?_
        exact lawc_18 (xs := xs) X hFw hlt hX hbl hbA hA hi hL hok hB hc hm hP hD hS hl hcs kk
      by_cases c19 : x = (19 : Int32)
      · refine lv_tableIn (off := 1008) (tgt := 1048) hx hb dL_law_40 (by rw [c19]; decide) (by rw [c19]; decide) (by rw [c19]; decide) (by decide) ?_
        exact lawc_19 (xs := xs) X hFw hlt hX hbl hbA hA hi hL hok hB hc hm hP hD hS hl hcs kk
      by_cases c20 : x = (20 : Int32)
      · refine lv_tableIn (off := 1064) (tgt := 1104) hx hb dL_law_40 (by rw [c20]; decide) (by rw [c20]; decide) (by rw [c20]; decide) (by decide) ?_
        exact lawc_20 (xs := xs) X hFw hlt hX hbl hbA hA hi hL hok hB hc hm hP hD hS hl hcs kk
      by_cases c21 : x = (21 : Int32)
      · refine lv_tableIn (off := 1132) (tgt := 1172) hx hb dL_law_40 (by rw [c21]; decide) (by rw [c21]; decide) (by rw [c21]; decide) (by decide) ?_
        exact lawc_21 (xs := xs) X hFw hlt hX hbl hbA hA hi hL hok hB hc hm hP hD hS hl hcs kk
      by_cases c22 : x = (22 : Int32)
      · refine lv_tableIn (off := 1212) (tgt := 1252) hx hb dL_law_40 (by rw [c22]; decide) (by rw [c22]; decide) (by rw [c22]; decide) (by decide) ?_
        exact lawc_22 (xs := xs) X hFw hlt hX hbl hbA hA hi hL hok hB hc hm hP hD hS hl hcs kk
      by_cases c23 : x = (23 : Int32)
      · refine lv_tableIn (off := 1280) (tgt := 1320) hx hb dL_law_40 (by rw [c23]; decide) (by rw [c23]; decide) (by rw [c23]; decide) (by decide) ?_
        exact lawc_23 (xs := xs) X hFw hlt hX hbl hbA hA hi hL hok hB hc hm hP hD hS hl hcs kk
      by_cases c24 : x = (24 : Int32)
      · refine lv_tableIn (off := 1348) (tgt := 1388) hx hb dL_law_40 (by rw [c24]; decide) (by rw [c24]; decide) (by rw [c24]; decide) (by decide) ?_
        exact lawc_24 (xs := xs) X hFw hlt hX hbl hbA hA hi hL hok hB hc hm hP hD hS hl hcs kk
      by_cases c25 : x = (25 : Int32)
      · refine lv_tableIn (off := 1416) (tgt := 1456) hx hb dL_law_40 (by rw [c25]; decide) (by rw [c25]; decide) (by rw [c25]; decide) (by decide) ?_
        exact lawc_25 (xs := xs) X hFw hlt hX hbl hbA hA hi hL hok hB hc hm hP hD hS hl hcs kk
      by_cases c26 : x = (26 : Int32)
      · refine lv_tableIn (off := 1500) (tgt := 1540) hx hb dL_law_40 (by rw [c26]; decide) (by rw [c26]; decide) (by rw [c26]; decide) (by decide) ?_
        exact lawc_26 (xs := xs) X hFw hlt hX hbl hbA hA hi hL hok hB hc hm hP hD hS hl hcs kk
      by_cases c27 : x = (27 : Int32)
      · refine lv_tableIn (off := 1525) (tgt := 1565) hx hb dL_law_40 (by rw [c27]; decide) (by rw [c27]; decide) (by rw [c27]; decide) (by decide) ?_
        exact lawc_27 (xs := xs) X hFw hlt hX hbl hbA hA hi hL hok hB hc hm hP hD hS hl hcs kk
      by_cases c28 : x = (28 : Int32)
      · refine lv_tableIn (off := 1581) (tgt := 1621) hx hb dL_law_40 (by rw [c28]; decide) (by rw [c28]; decide) (by rw [c28]; decide) (by decide) ?_
        exact lawc_28 (xs := xs) X hFw hlt hX hbl hbA hA hi hL hok hB hc hm hP hD hS hl hcs kk
      by_cases c29 : x = (29 : Int32)
      · refine lv_tableIn (off := 1649) (tgt := 1689) hx hb dL_law_40 (by rw [c29]; decide) (by rw [c29]; decide) (by rw [c29]; decide) (by decide) ?_
        exact lawc_29 (xs := xs) X hFw hlt hX hbl hbA hA hi hL hok hB hc hm hP hD hS hl hcs kk
      by_cases c30 : x = (30 : Int32)
      · refine lv_tableIn (off := 1717) (tgt := 1757) hx hb dL_law_40 (by rw [c30]; decide) (by rw [c30]; decide) (by rw [c30]; decide) (by decide) ?_
        exact lawc_30 (xs := xs) X hFw hlt hX hbl hbA hA hi hL hok hB hc hm hP hD hS hl hcs kk
      by_cases c31 : x = (31 : Int32)
      · refine lv_tableIn (off := 1785) (tgt := 1825) hx hb dL_law_40 (by rw [c31]; decide) (by rw [c31]; decide) (by rw [c31]; decide) (by decide) ?_
        exact lawc_31 (xs := xs) X hFw hlt hX hbl hbA hA hi hL hok hB hc hm hP hD hS hl hcs kk
      by_cases c32 : x = (32 : Int32)
      · refine lv_tableIn (off := 1853) (tgt := 1893) hx hb dL_law_40 (by rw [c32]; decide) (by rw [c32]; decide) (by rw [c32]; decide) (by decide) ?_
        exact lawc_32 (xs := xs) X hFw hlt hX hbl hbA hA hi hL hok hB hc hm hP hD hS hl hcs kk
      by_cases c33 : x = (33 : Int32)
      · refine lv_tableIn (off := 1864) (tgt := 1904) hx hb dL_law_40 (by rw [c33]; decide) (by rw [c33]; decide) (by rw [c33]; decide) (by decide) ?_
        exact lawc_33 (xs := xs) X hFw hlt hX hbl hbA hA hi hL hok hB hc hm hP hD hS hl hcs kk
      by_cases c34 : x = (34 : Int32)
      · refine lv_tableIn (off := 1877) (tgt := 1917) hx hb dL_law_40 (by rw [c34]; decide) (by rw [c34]; decide) (by rw [c34]; decide) (by decide) ?_
        exact lawc_34 (xs := xs) X hFw hlt hX hbl hbA hA hi hL hok hB hc hm hP hD hS hl hcs kk
      refine lv_tableOut (tgt := 1942) hx hb dL_law_40 (by have q0 : ¬ x.toInt = (0 : Int) := fun h => c0 (Int32.toInt_inj.mp (show x.toInt = (0 : Int32).toInt from h)); have q1 : ¬ x.toInt = (1 : Int) := fun h => c1 (Int32.toInt_inj.mp (show x.toInt = (1 : Int32).toInt from h)); have q2 : ¬ x.toInt = (2 : Int) := fun h => c2 (Int32.toInt_inj.mp (show x.toInt = (2 : Int32).toInt from h)); have q3 : ¬ x.toInt = (3 : Int) := fun h => c3 (Int32.toInt_inj.mp (show x.toInt = (3 : Int32).toInt from h)); have q4 : ¬ x.toInt = (4 : Int) := fun h => c4 (Int32.toInt_inj.mp (show x.toInt = (4 : Int32).toInt from h)); have q5 : ¬ x.toInt = (5 : Int) := fun h => c5 (Int32.toInt_inj.mp (show x.toInt = (5 : Int32).toInt from h)); have q6 : ¬ x.toInt = (6 : Int) := fun h => c6 (Int32.toInt_inj.mp (show x.toInt = (6 : Int32).toInt from h)); have q7 : ¬ x.toInt = (7 : Int) := fun h => c7 (Int32.toInt_inj.mp (show x.toInt = (7 : Int32).toInt from h)); have q8 : ¬ x.toInt = (8 : Int) := fun h => c8 (Int32.toInt_inj.mp (show x.toInt = (8 : Int32).toInt from h)); have q9 : ¬ x.toInt = (9 : Int) := fun h => c9 (Int32.toInt_inj.mp (show x.toInt = (9 : Int32).toInt from h)); have q10 : ¬ x.toInt = (10 : Int) := fun h => c10 (Int32.toInt_inj.mp (show x.toInt = (10 : Int32).toInt from h)); have q11 : ¬ x.toInt = (11 : Int) := fun h => c11 (Int32.toInt_inj.mp (show x.toInt = (11 : Int32).toInt from h)); have q12 : ¬ x.toInt = (12 : Int) := fun h => c12 (Int32.toInt_inj.mp (show x.toInt = (12 : Int32).toInt from h)); have q13 : ¬ x.toInt = (13 : Int) := fun h => c13 (Int32.toInt_inj.mp (show x.toInt = (13 : Int32).toInt from h)); have q14 : ¬ x.toInt = (14 : Int) := fun h => c14 (Int32.toInt_inj.mp (show x.toInt = (14 : Int32).toInt from h)); have q15 : ¬ x.toInt = (15 : Int) := fun h => c15 (Int32.toInt_inj.mp (show x.toInt = (15 : Int32).toInt from h)); have q16 : ¬ x.toInt = (16 : Int) := fun h => c16 (Int32.toInt_inj.mp (show x.toInt = (16 : Int32).toInt from h)); have q17 : ¬ x.toInt = (17 : Int) := fun h => c17 (Int32.toInt_inj.mp (show x.toInt = (17 : Int32).toInt from h)); have q18 : ¬ x.toInt = (18 : Int) := fun h => c18 (Int32.toInt_inj.mp (show x.toInt = (18 : Int32).toInt from h)); have q19 : ¬ x.toInt = (19 : Int) := fun h => c19 (Int32.toInt_inj.mp (show x.toInt = (19 : Int32).toInt from h)); have q20 : ¬ x.toInt = (20 : Int) := fun h => c20 (Int32.toInt_inj.mp (show x.toInt = (20 : Int32).toInt from h)); have q21 : ¬ x.toInt = (21 : Int) := fun h => c21 (Int32.toInt_inj.mp (show x.toInt = (21 : Int32).toInt from h)); have q22 : ¬ x.toInt = (22 : Int) := fun h => c22 (Int32.toInt_inj.mp (show x.toInt = (22 : Int32).toInt from h)); have q23 : ¬ x.toInt = (23 : Int) := fun h => c23 (Int32.toInt_inj.mp (show x.toInt = (23 : Int32).toInt from h)); have q24 : ¬ x.toInt = (24 : Int) := fun h => c24 (Int32.toInt_inj.mp (show x.toInt = (24 : Int32).toInt from h)); have q25 : ¬ x.toInt = (25 : Int) := fun h => c25 (Int32.toInt_inj.mp (show x.toInt = (25 : Int32).toInt from h)); have q26 : ¬ x.toInt = (26 : Int) := fun h => c26 (Int32.toInt_inj.mp (show x.toInt = (26 : Int32).toInt from h)); have q27 : ¬ x.toInt = (27 : Int) := fun h => c27 (Int32.toInt_inj.mp (show x.toInt = (27 : Int32).toInt from h)); have q28 : ¬ x.toInt = (28 : Int) := fun h => c28 (Int32.toInt_inj.mp (show x.toInt = (28 : Int32).toInt from h)); have q29 : ¬ x.toInt = (29 : Int) := fun h => c29 (Int32.toInt_inj.mp (show x.toInt = (29 : Int32).toInt from h)); have q30 : ¬ x.toInt = (30 : Int) := fun h => c30 (Int32.toInt_inj.mp (show x.toInt = (30 : Int32).toInt from h)); have q31 : ¬ x.toInt = (31 : Int) := fun h => c31 (Int32.toInt_inj.mp (show x.toInt = (31 : Int32).toInt from h)); have q32 : ¬ x.toInt = (32 : Int) := fun h => c32 (Int32.toInt_inj.mp (show x.toInt = (32 : Int32).toInt from h)); have q33 : ¬ x.toInt = (33 : Int) := fun h => c33 (Int32.toInt_inj.mp (show x.toInt = (33 : Int32).toInt from h)); have q34 : ¬ x.toInt = (34 : Int) := fun h => c34 (Int32.toInt_inj.mp (show x.toInt = (34 : Int32).toInt from h)); omega) (by decide) ?_
      exact W.widen (by omega) (by omega) (kk G u v f H locs ls (og_ask hok (by omega)) hc hm hP hD hS hl)
set_option maxHeartbeats 4000000 in
set_option maxRecDepth 100000 in
theorem whole_start {p : Program} {e : Env} {s : State} {m : MethodId} {below : List Frame} {meth : Method} {c : Code} (l : Launch) (hflags : l.flags = flags0) {b L : Nat} {xs : Nat → Int32} (hL : L ≤ 3072) (C0 : lw_At p s m meth c b L xs) : W p l e room_1 s m #[Value.ref b] below meth c s.heap [] 0 0 (lw_Z below #[Value.ref b] s) (entryFrame m ([Value.ref b] : List Value).toArray 7) := by
  obtain ⟨hx, hb, hr, hml, hown, hts, hX, hbl, hlocks, hgv⟩ := id C0
  have hs := flat_of_before _ hgv
  have hA : ∀ q : Nat, s.heap.size ≤ q → (fun q : Nat => s.heap.size ≤ q) q := fun _ h => h
  have hnA : ∀ q : Nat, q < s.heap.size → ¬ (fun q : Nat => s.heap.size ≤ q) q := fun q h => Nat.not_le.mpr h
  have hbA : ¬ (fun q : Nat => s.heap.size ≤ q) b := hnA b hbl
  obtain ⟨dC, dI, cI, cJ, cS, hK⟩ := fw_K hts
  have hFw : zFw (fun q : Nat => s.heap.size ≤ q) s s.heap := fw_Fw hts hs hnA
  have hFc : zFc (fun q : Nat => s.heap.size ≤ q) s s.heap := fw_Fc hts
  have hlt : l.stackTraces = false := by
    unfold Launch.stackTraces
    rw [hflags]
    decide
  have X : zX p s m #[Value.ref b] meth c cL_law 7 ret RL dC dI cI cJ cS := ⟨⟨hx, hb, hml, hown, fw_T0 hts⟩, hr, hlocks, hK⟩
  have hS : va_S (fun q : Nat => s.heap.size ≤ q) s.heap s.heap [] := va_S.rf
  have hP : va_P (dC, dI) vwCl [] s.heap := fun k q h => by simp at h
  have hD : va_D (fun q : Nat => s.heap.size ≤ q) [] := ⟨fun i j p q h => by simp at h, fun k q h => by simp at h⟩
  have hl := lv_entry ([.ref b]) (n := 7) (Nat.le_of_ble_eq_true rfl)
  rw [lg_entry_eq]
  generalize (lg_sl ([.ref b]) ++ List.replicate (7 - (lg_sl ([.ref b])).length) Slot.unset).toArray = ls at hl ⊢
  have hl : lv_has ls 7 [(0, .ref b)] := hl
  refine z_newO (C := RX10) (T := TX10) (N := 9) (ci := 9) (fs := [.null, .null, .null, .int 0, .null, .null, .null, .int 0, .int 0]) X inX10 tyX10 tyX10_ok q_cl_L_8 q_ib_X10 q_in_X10 hP hD hS hA rfl (by decide) ⟨Nat.le_of_ble_eq_true rfl, Nat.le_of_ble_eq_true rfl⟩ dL_law_0 (fun q H hP hD hS => ?_)
  refine lv_dup hx hb dL_law_3 rfl ?_
  refine z_cI (w := []) X fro_Fc hFc (c_X10_init l dC dI cI cJ cS q _) zi_X10 rfl q_ml_L_92 ⟨rfl, rfl⟩ ⟨Nat.le_of_ble_eq_true rfl, Nat.le_of_ble_eq_true rfl⟩ hP hD hS hA hl.1 (Nat.le_of_ble_eq_true rfl) ⟨Nat.le_of_ble_eq_true rfl, Nat.le_of_ble_eq_true rfl⟩ dL_law_4 (fun z H1 locs1 hz hP1 hD1 hS1 => ?_)
  obtain ⟨a, u⟩ := z
  obtain ⟨ea, hc⟩ := hz
  have ea : a 0 = q := ea
  subst ea
  have hP : va_P (dC, dI) vwCl (cl_X10 cI cJ cS a u) H1 := hP1
  have hD : va_D (fun q : Nat => s.heap.size ≤ q) (cl_X10 cI cJ cS a u) := hD1
  have hS := hS1
  refine lv_astore_n (lv' := [(1, .ref (a 0)), (0, .ref b)]) hx hb dL_law_7 rfl hl (by decide) rfl (fun ls hl => ?_)
  refine z_newO (C := RX11) (T := TX11) (N := 17) (ci := 10) (fs := [.int 0, .null, .null, .null, .null, .null, .int 0, .int 0, .int 0, .null, .int 0, .int 0, .int 0, .int 0, .null, .null, .int 0]) X inX11 tyX11 tyX11_ok q_cl_L_93 q_ib_X11 q_in_X11 hP hD hS hA rfl (by decide) ⟨Nat.le_of_ble_eq_true rfl, Nat.le_of_ble_eq_true rfl⟩ dL_law_8 (fun q H hP hD hS => ?_)
  refine lv_dup hx hb dL_law_11 rfl ?_
  refine z_cI (w := cl_X10 cI cJ cS a u) X fro_Fc hFc (c_X11_init l dC dI cI cJ cS q _) zi_X11 rfl q_ml_L_95 ⟨rfl, rfl⟩ ⟨Nat.le_of_ble_eq_true rfl, Nat.le_of_ble_eq_true rfl⟩ hP hD hS hA hl.1 (Nat.le_of_ble_eq_true rfl) ⟨Nat.le_of_ble_eq_true rfl, Nat.le_of_ble_eq_true rfl⟩ dL_law_12 (fun z H2 locs2 hz hP2 hD2 hS2 => ?_)
  obtain ⟨am, v⟩ := z
  obtain ⟨ea, hm⟩ := hz
  have ea : am 0 = q := ea
  subst ea
  have hP : va_P (dC, dI) vwCl (cl_X10 cI cJ cS a u ++ cl_X11 cI cJ am v) H2 := hP2
  have hD : va_D (fun q : Nat => s.heap.size ≤ q) (cl_X10 cI cJ cS a u ++ cl_X11 cI cJ am v) := hD2
  have hS := hS2
  refine lv_astore_n (lv' := [(2, .ref (am 0)), (1, .ref (a 0)), (0, .ref b)]) hx hb dL_law_15 rfl hl (by decide) rfl (fun ls hl => ?_)
  refine lv_iconst (v := 1) hx hb dL_law_16 (by decide) ?_
  refine z_newJ (N := 1) X hP hD hS hA (by decide) (by decide) (Nat.le_of_ble_eq_true rfl) ⟨Nat.le_of_ble_eq_true rfl, Nat.le_of_ble_eq_true rfl⟩ dL_law_17 (fun o H hP hD hS => ?_)
  have hP : va_P (dC, dI) vwCl (lwW cI cJ cS o (fun _ => 0) a u am v) H := hP.perm (px_s _ _ _)
  have hD : va_D (fun q : Nat => s.heap.size ≤ q) (lwW cI cJ cS o (fun _ => 0) a u am v) := hD.perm (px_s _ _ _)
  refine lv_astore_n (lv' := [(3, .ref o), (2, .ref (am 0)), (1, .ref (a 0)), (0, .ref b)]) hx hb dL_law_19 rfl hl (by decide) rfl (fun ls hl => ?_)
  refine lv_iconst (v := nI 0) hx hb dL_law_20 rfl ?_
  refine lv_istore (lv' := [(4, .int (nI 0)), (3, .ref o), (2, .ref (am 0)), (1, .ref (a 0)), (0, .ref b)]) hx hb dL_law_21 hl (by decide) rfl (fun ls hl => ?_)
  exact law_loop X hFw hlt hX hbl hbA hA hL 512 0 0 _ _ zG0 u v (fun _ => 0) H _ ls (by omega) (by decide) (by decide) (Nat.le_of_ble_eq_true rfl) (Nat.le_of_ble_eq_true rfl) og_0 hc hm hP hD hS (lv_sub hl [4, 3, 2, 1, 0] rfl)

