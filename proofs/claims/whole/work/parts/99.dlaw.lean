theorem lm_old {B : Nat} {G : zG} {v : zModel} (hok : okG B G) (hm : mG G v) (x w : Int32) (ew : w = fOld (gNow G) x) : s_X11_old v x (fun q z => q = w ∧ mG G z) := by
  unfold s_X11_old mAsk
  refine ⟨B, G, hok, hm, fun v1 q1 _ => ?_⟩
  have e2 : ((fun z => ((0 : Int32), fOld z x)) (gNow G)).2 = w := by rw [ew]
  exact ⟨e2, q1⟩
section ZL2
variable {p : Program} {l : Launch} {e : Env} {s : State} {m : MethodId} {args : Array Value} {below : List Frame} {meth : Method} {c : Code} {H : Heap} {locs : List Loc} {cells slots : Nat} {Q : State → Prop} {dC : Nat → ClassId} {dI : Nat → Nat → Nat} {cI cJ cS : ClassId}
  {pc : Nat} {ls : Array Slot} {A : Nat → Prop} {b L i B o : Nat} {xs : Nat → Int32} {G : zG} {u : zCls} {v : zModel} {f : Nat → Int64} {a am : Nat → Nat}
set_option maxHeartbeats 4000000 in
set_option maxRecDepth 100000 in
theorem lawc_26 (X : zX p s m args meth c cL_law 7 ret RL dC dI cI cJ cS) (hFw : zFw A s s.heap) (hlt : l.stackTraces = false) (hX : va_X b L xs s s.heap) (hbl : b < s.heap.size) (hbA : ¬ A b) (hA : ∀ q : Nat, s.heap.size ≤ q → A q) (hi : i + 6 ≤ L) (hL : L ≤ 3072) (hok : okG B G) (hB : B + 400 ≤ 400000) (hc : cG G u) (hm : mG G v) (hP : va_P (dC, dI) vwCl (lwW cI cJ cS o f a u am v) H) (hD : va_D A (lwW cI cJ cS o f a u am v)) (hS : va_S A s.heap H locs) (hl : lv_has ls 7 [(0, .ref b), (1, .ref (a 0)), (2, .ref (am 0)), (3, .ref o), (4, .int (nI i))]) (hcs : cells + 3 ≤ 601024 ∧ slots + 18 ≤ 7293034)
    (kk : ∀ (G' : zG) (u' : zCls) (v' : zModel) (f' : Nat → Int64) (H' : Heap) (locs' : List Loc) (ls' : Array Slot), okG (B + 280) G' → cG G' u' → mG G' v' → va_P (dC, dI) vwCl (lwW cI cJ cS o f' a u' am v') H' → va_D A (lwW cI cJ cS o f' a u' am v') → va_S A s.heap H' locs' → lv_has ls' 7 [(0, .ref b), (1, .ref (a 0)), (2, .ref (am 0)), (3, .ref o), (4, .int (nI i))] → W p l e room_1 s m args below meth c H' locs' (cells + 3) (slots + 18) Q (F0 m 1942 ls' [])) : W p l e room_1 s m args below meth c H locs cells slots Q (F0 m 1540 ls []) := by
  obtain ⟨⟨hx, hb, hml, hown, hts⟩, hr, hlk, hK⟩ := id X
  obtain ⟨w9, ew⟩ : ∃ q, q = fOld (gNow G) (xs (i + 1)) := ⟨_, rfl⟩
  refine lv_aload_n hx hb dL_law_1540 rfl (lv_at hl 1 rfl) ?_
  refine law_arg X hX hbl hbA hi hL hS hl (k0 := 0) (k4 := 4) rfl rfl (k := 1) (by decide) rfl dL_law_1541 dL_law_1542 dL_law_1544 dL_law_1545 dL_law_1546 ?_
  refine z_pVi (Wn := fun z => lwW cI cJ cS o f a z am v) (wr := wO cJ o f ++ cl_X11 cI cJ am v) (As := [.int (xs (i + 1))]) (rest := []) X (c_X10_old l dC dI cI cJ cS a u (xs (i + 1)) (fun q z => q = w9 ∧ cG G z) (⟨B, G, hok, hc, fun u1 q1 => ⟨ew.symm, q1⟩⟩) _) zc_X10_old q_ml_L_195 ⟨rfl, rfl⟩ ⟨Nat.le_of_ble_eq_true rfl, Nat.le_of_ble_eq_true rfl⟩ hP hD hS hA (px_l _ _ _) (fun _ => px_l _ _ _) 9 rfl rfl hl.1 rfl rfl (Nat.le_of_ble_eq_true rfl) ⟨by show cells ≤ 601024; omega, by show slots ≤ 7293034; omega⟩ dL_law_1547 (fun r5 u1 H locs hq hP hD hS => ?_)
  obtain ⟨e5, hc1⟩ := hq
  refine lv_aload_n hx hb dL_law_1550 rfl (lv_at hl 2 rfl) ?_
  refine law_arg X hX hbl hbA hi hL hS hl (k0 := 0) (k4 := 4) rfl rfl (k := 1) (by decide) rfl dL_law_1551 dL_law_1552 dL_law_1554 dL_law_1555 dL_law_1556 ?_
  refine z_pVi (Wn := fun z => lwW cI cJ cS o f a u1 am z) (wr := wO cJ o f ++ cl_X10 cI cJ cS a u1) (As := [.int (xs (i + 1))]) (rest := [.int r5]) X (c_X11_old l dC dI cI cJ cS am v (xs (i + 1)) (fun q z => q = w9 ∧ mG G z) (lm_old hok hm (xs (i + 1)) w9 ew) _) zc_X11_old q_ml_L_198 ⟨rfl, rfl⟩ ⟨Nat.le_of_ble_eq_true rfl, Nat.le_of_ble_eq_true rfl⟩ hP hD hS hA (List.Perm.refl _) (fun _ => List.Perm.refl _) 10 rfl rfl hl.1 rfl rfl (Nat.le_of_ble_eq_true rfl) ⟨by show cells ≤ 601024; omega, by show slots ≤ 7293034; omega⟩ dL_law_1557 (fun r6 v1 H locs hq hP hD hS => ?_)
  obtain ⟨e6, hm1⟩ := hq
  refine lv_icmp_eq (tgt := 1942) hx hb dL_law_1560 (by decide) (fun _ => ?_) (fun h => absurd (e5.trans e6.symm) h)
  exact W.widen (by omega) (by omega) (kk G u1 v1 f H locs ls (og_ask hok (by omega)) hc1 hm1 hP hD hS hl)
end ZL2
