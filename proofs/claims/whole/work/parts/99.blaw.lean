/-! the law: its world, its arguments, the end of a case -/
abbrev lwW (cI cJ cS : ClassId) (o : Nat) (f : Nat → Int64) (a : Nat → Nat) (u : zCls) (am : Nat → Nat) (v : zModel) : va_W := (wO cJ o f ++ cl_X10 cI cJ cS a u) ++ cl_X11 cI cJ am v
theorem px_l (x y z : va_W) : ((x ++ y) ++ z).Perm ((x ++ z) ++ y) := by
  rw [List.append_assoc, List.append_assoc]
  exact List.Perm.append_left x List.perm_append_comm
theorem lw_cmp0 (x : Int64) : lg_cmp x x = 0 := by
  unfold lg_cmp
  rw [if_neg Int64.lt_irrefl, if_pos rfl]
section ZL1
variable {p : Program} {l : Launch} {e : Env} {s : State} {m : MethodId} {args : Array Value} {below : List Frame} {meth : Method} {c : Code} {H : Heap} {locs : List Loc} {cells slots : Nat} {Q : State → Prop} {dC : Nat → ClassId} {dI : Nat → Nat → Nat} {cI cJ cS : ClassId}
  {pc : Nat} {ls : Array Slot} {A : Nat → Prop} {b L i B o : Nat} {xs : Nat → Int32} {G : zG} {u : zCls} {v : zModel} {f : Nat → Int64} {a am : Nat → Nat}
theorem law_arg (X : zX p s m args meth c cL_law 7 ret RL dC dI cI cJ cS) (hX : va_X b L xs s s.heap) (hbl : b < s.heap.size) (hbA : ¬ A b) (hi : i + 6 ≤ L) (hL : L ≤ 3072) (hS : va_S A s.heap H locs) {lv : List (Nat × Value)} {st : List Value} {k0 k4 : Nat} (hl : lv_has ls 7 lv) (h0 : lv[k0]? = some (0, .ref b)) (h4 : lv[k4]? = some (4, .int (nI i))) {k : Nat} {n : Int} (hk : k < 6) (hn : Int32.ofInt n = nI k)
    (d0 : decode cL_law pc = .ok (.aload_n 0, 1)) (d1 : decode cL_law (pc + 1) = .ok (.iload 4, 2)) (d3 : decode cL_law (pc + 3) = .ok (.iconst n, 1)) (d4 : decode cL_law (pc + 4) = .ok (.iadd, 1)) (d5 : decode cL_law (pc + 5) = .ok (.iaload, 1))
    (kk : W p l e room_1 s m args below meth c H locs cells slots Q (F0 m (pc + 6) ls (.int (xs (i + k)) :: st))) : W p l e room_1 s m args below meth c H locs cells slots Q (F0 m pc ls st) := by
  obtain ⟨⟨hx, hb, hml, hown, hts⟩, hr, hlk, hK⟩ := id X
  refine lv_aload_n hx hb d0 rfl (lv_at hl k0 h0) ?_
  refine lv_iload hx hb d1 (lv_at hl k4 h4) ?_
  refine lv_iconst (v := nI k) hx hb d3 hn ?_
  refine lv_iadd hx hb d4 ?_
  rw [nI_add]
  refine va_sld hx hb hX hbl hbA hS (vp_in_nI (n := i + k) (by omega) (by omega)) d5 ?_
  rw [nI_clamp (show i + k < 2 ^ 31 by omega)]
  exact kk
theorem law_bool (X : zX p s m args meth c cL_law 7 ret RL dC dI cI cJ cS) {x : Int32} {st : List Value} (d0 : decode cL_law pc = .ok (.ifCond .eq 7, 3)) (d3 : decode cL_law (pc + 3) = .ok (.iconst 1, 1)) (d4 : decode cL_law (pc + 4) = .ok (.goto 4, 3)) (d7 : decode cL_law (pc + 7) = .ok (.iconst 0, 1))
    (kk : W p l e room_1 s m args below meth c H locs cells slots Q (F0 m (pc + 8) ls (.int (if x = 0 then 0 else 1) :: st))) : W p l e room_1 s m args below meth c H locs cells slots Q (F0 m pc ls (.int x :: st)) := by
  obtain ⟨⟨hx, hb, hml, hown, hts⟩, hr, hlk, hK⟩ := id X
  refine lv_if_eq (tgt := pc + 7) hx hb d0 (by omega) (fun h => ?_) (fun h => ?_)
  · rw [if_pos h] at kk
    exact lv_iconst (v := 0) hx hb d7 (by decide) kk
  · rw [if_neg h] at kk
    refine lv_iconst (v := 1) hx hb d3 (by decide) ?_
    exact lv_goto (tgt := pc + 8) hx hb d4 (by omega) kk
/-- the end of a case with a wrapper: the codes and, if nothing was thrown, the answers are held side by side -/
theorem law_tail {c1 s1 : Nat} {r : Int32 × Int32 × zG} {x5 x6 : Int32} {off : Int} (X : zX p s m args meth c cL_law 7 ret RL dC dI cI cJ cS) (hc1 : c1 ≤ cells + 3) (hs1 : s1 ≤ slots + 18) (hcs : cells + 3 ≤ 601024 ∧ slots + 18 ≤ 7293034) (h5 : x5 = r.1) (h0 : r.1 = 0 → f 0 = r.2.1.toInt64) (h6 : x6 = r.2.1) (hv : v.1 = r.1) (hok : okG (B + 280) r.2.2) (hc : cG r.2.2 u) (hm : mG r.2.2 v) (hP : va_P (dC, dI) vwCl (lwW cI cJ cS o f a u am v) H) (hD : va_D A (lwW cI cJ cS o f a u am v)) (hS : va_S A s.heap H locs) (hl : lv_has ls 7 [(6, .int x6), (5, .int x5), (0, .ref b), (1, .ref (a 0)), (2, .ref (am 0)), (3, .ref o), (4, .int (nI i))])
    (d0 : decode cL_law pc = .ok (.aload_n 2, 1)) (d1 : decode cL_law (pc + 1) = .ok (.invokevirtual 112, 3)) (d4 : decode cL_law (pc + 4) = .ok (.iload 5, 2)) (d6 : decode cL_law (pc + 6) = .ok (.if_icmp .eq 5, 3)) (d11 : decode cL_law (pc + 11) = .ok (.iload 5, 2)) (d13 : decode cL_law (pc + 13) = .ok (.ifCond .ne 15, 3)) (d16 : decode cL_law (pc + 16) = .ok (.aload_n 3, 1)) (d17 : decode cL_law (pc + 17) = .ok (.iconst 0, 1)) (d18 : decode cL_law (pc + 18) = .ok (.laload, 1)) (d19 : decode cL_law (pc + 19) = .ok (.iload 6, 2)) (d21 : decode cL_law (pc + 21) = .ok (.i2l, 1)) (d22 : decode cL_law (pc + 22) = .ok (.lcmp, 1)) (d23 : decode cL_law (pc + 23) = .ok (.ifCond .eq 5, 3)) (d28 : decode cL_law (pc + 28) = .ok (.goto off, 3)) (ht : ((pc + 28 : Nat) : Int) + off = ((1942 : Nat) : Int))
    (kk : ∀ (G' : zG) (u' : zCls) (v' : zModel) (f' : Nat → Int64) (H' : Heap) (locs' : List Loc) (ls' : Array Slot), okG (B + 280) G' → cG G' u' → mG G' v' → va_P (dC, dI) vwCl (lwW cI cJ cS o f' a u' am v') H' → va_D A (lwW cI cJ cS o f' a u' am v') → va_S A s.heap H' locs' → lv_has ls' 7 [(0, .ref b), (1, .ref (a 0)), (2, .ref (am 0)), (3, .ref o), (4, .int (nI i))] → W p l e room_1 s m args below meth c H' locs' (cells + 3) (slots + 18) Q (F0 m 1942 ls' [])) : W p l e room_1 s m args below meth c H locs c1 s1 Q (F0 m pc ls []) := by
  obtain ⟨⟨hx, hb, hml, hown, hts⟩, hr, hlk, hK⟩ := id X
  have fin : W p l e room_1 s m args below meth c H locs c1 s1 Q (F0 m (pc + 28) ls []) := by
    refine lv_goto (tgt := 1942) hx hb d28 ht ?_
    exact W.widen hc1 hs1 (kk r.2.2 u v f H locs ls hok hc hm hP hD hS (lv_sub hl [2, 3, 4, 5, 6] rfl))
  refine lv_aload_n hx hb d0 rfl (lv_at hl 4 rfl) ?_
  refine z_wVi (wc := cl_X11 cI cJ am v) (As := []) (rest := []) (R := room_1) X (c_X11_thrown l dC dI cI cJ cS am v (fun q => q = v.1) rfl) zc_X11_thrown q_ml_L_112 ⟨rfl, rfl⟩ ⟨Nat.le_of_ble_eq_true rfl, Nat.le_of_ble_eq_true rfl⟩ hP.r 10 rfl rfl hl.1 rfl rfl (Nat.le_of_ble_eq_true rfl) ⟨by show c1 ≤ 601024; omega, by show s1 ≤ 7293034; omega⟩ d1 (fun q hq => ?_)
  subst hq
  refine lv_iload hx hb d4 (lv_at hl 1 rfl) ?_
  refine lv_icmp_eq (tgt := pc + 11) hx hb d6 (by omega) (fun _ => ?_) (fun h => absurd (hv.trans h5.symm) h)
  refine lv_iload hx hb d11 (lv_at hl 1 rfl) ?_
  refine lv_if_ne (tgt := pc + 28) hx hb d13 (by omega) (fun _ => fin) (fun h => ?_)
  refine lv_aload_n hx hb d16 rfl (lv_at hl 5 rfl) ?_
  refine lv_iconst (v := nI 0) hx hb d17 rfl ?_
  refine va_lald hx hb hK hP 0 1 rfl rfl (vp_in_nI (n := 0) (N := 1) (by decide) (by decide)) d18 ?_
  refine lv_iload hx hb d19 (lv_at hl 0 rfl) ?_
  refine lv_i2l (v := x6.toInt64) hx hb d21 rfl ?_
  refine W.lcmp hx hb d22 ?_
  have ef : f (nI 0).toNatClampNeg = x6.toInt64 := by
    rw [h6, ← h0 (h5.symm.trans h)]; rfl
  rw [ef, lw_cmp0]
  exact lv_if_eq (tgt := pc + 28) hx hb d23 (by omega) (fun _ => fin) (fun q => absurd rfl q)
end ZL1
/-! what the class's small ones say -/
theorem lx_fault {G : zG} {u : zCls} (h : cG G u) : s_X10_fault u (fun r => r = gWr G) := h.2.1.2.2.2.2
theorem lx_why {G : zG} {u : zCls} (h : cG G u) : s_X10_why u (fun r => r = gWy G) := h.2.2
theorem lm_fault {G : zG} {v : zModel} (h : mG G v) : s_X11_fault v (fun r v' => r = gWr G ∧ mG G v') := ⟨h.2.2.2.2.2.1, h⟩
theorem lm_why {G : zG} {v : zModel} (h : mG G v) : s_X11_why v (fun r v' => r = gWy G ∧ mG G v') := ⟨h.2.2.2.2.2.2, h⟩
theorem lx_image {G : zG} {u : zCls} (h : cG G u) : s_X10_image u (fun u' => cG (fImage G) u') := by
  obtain ⟨h1, ⟨h2, h3, h4, h5, h6⟩, h7⟩ := h
  show cG (fImage G) (u.1, u.2.1, u.1, (1 : Int32), u.2.2.2.2)
  exact ⟨h1, ⟨rfl, fun _ => h1, h4, h5, h6⟩, h7⟩
theorem lx_back {B : Nat} {G : zG} {u : zCls} (hG : okG B G) (h : cG G u) : s_X10_back u (fun r u' => r = (fBack G).1 ∧ cG (fBack G).2 u') := by
  obtain ⟨h1, ⟨h2, h3, h4, h5, h6⟩, h7⟩ := h
  unfold s_X10_back fBack
  rw [h2]
  refine ⟨fun h0 => ?_, fun h0 => ?_⟩
  · rw [if_neg h0]
    have hg : gIs G = 1 := by
      rcases hG.2.1 with e | e
      · exact absurd e h0
      · exact e.1
    have hk : u.2.2.1 = gKept G := h3 hg
    obtain ⟨f0, hf, e1, e2, e3⟩ := h4
    refine ⟨rfl, hk, ⟨rfl, fun _ => hk, ⟨f0, hf, e1, rfl, fun i hi => absurd hi (Nat.not_lt_zero i)⟩, h5, h6⟩, h7⟩
  · rw [if_pos h0]
    exact ⟨rfl, h1, ⟨h2, h3, h4, h5, h6⟩, h7⟩
theorem lx_end {B : Nat} {G : zG} {u : zCls} (hG : okG B G) (x : Int32) (h : cG G u) : s_X10_end u x (fun r u' => r = (fEnd G x).1 ∧ cG (fEnd G x).2 u') := by
  have h9 : gTpN G ≤ 400 := hG.2.2.2
  obtain ⟨h1, ⟨h2, h3, h4, ⟨h5, h5b⟩, h6⟩, h7⟩ := id h
  unfold s_X10_end fEnd
  rw [h5]
  refine ⟨fun c1 => ?_, fun c1 => ⟨fun c2 => ?_, fun c2 => ?_⟩⟩
  · rw [if_neg (fun q => q.1 c1)]
    exact ⟨rfl, h⟩
  · have cc : inR x 0 (nI (gTpN G)) := ⟨c1, Int32.not_lt.mpr c2⟩
    rw [if_pos cc]
    obtain ⟨k, -, hk, e0, e1⟩ := inR_n (a := 0) (b := gTpN G) (by omega) (by decide) cc
    refine ⟨rfl, h1, ⟨h2, h3, h4, ⟨?_, fun j hj => h5b j ?_⟩, h6⟩, h7⟩
    · show x = nI x.toNatClampNeg
      rw [e1]; exact e0
    · have hj : j < x.toNatClampNeg := hj
      omega
  · rw [if_neg (fun q => q.2 (Int32.not_le.mp c2))]
    exact ⟨rfl, h⟩
