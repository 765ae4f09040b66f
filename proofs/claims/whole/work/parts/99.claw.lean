section ZL2
variable {p : Program} {l : Launch} {e : Env} {s : State} {m : MethodId} {args : Array Value} {below : List Frame} {meth : Method} {c : Code} {H : Heap} {locs : List Loc} {cells slots : Nat} {Q : State → Prop} {dC : Nat → ClassId} {dI : Nat → Nat → Nat} {cI cJ cS : ClassId}
  {pc : Nat} {ls : Array Slot} {A : Nat → Prop} {b L i B o : Nat} {xs : Nat → Int32} {G : zG} {u : zCls} {v : zModel} {f : Nat → Int64} {a am : Nat → Nat}
set_option maxHeartbeats 4000000 in
set_option maxRecDepth 100000 in
theorem lawc_0 (X : zX p s m args meth c cL_law 7 ret RL dC dI cI cJ cS) (hFw : zFw A s s.heap) (hlt : l.stackTraces = false) (hX : va_X b L xs s s.heap) (hbl : b < s.heap.size) (hbA : ¬ A b) (hA : ∀ q : Nat, s.heap.size ≤ q → A q) (hi : i + 6 ≤ L) (hL : L ≤ 3072) (hok : okG B G) (hB : B + 400 ≤ 400000) (hc : cG G u) (hm : mG G v) (hP : va_P (dC, dI) vwCl (lwW cI cJ cS o f a u am v) H) (hD : va_D A (lwW cI cJ cS o f a u am v)) (hS : va_S A s.heap H locs) (hl : lv_has ls 7 [(0, .ref b), (1, .ref (a 0)), (2, .ref (am 0)), (3, .ref o), (4, .int (nI i))]) (hcs : cells + 3 ≤ 601024 ∧ slots + 18 ≤ 7293034)
    (kk : ∀ (G' : zG) (u' : zCls) (v' : zModel) (f' : Nat → Int64) (H' : Heap) (locs' : List Loc) (ls' : Array Slot), okG (B + 280) G' → cG G' u' → mG G' v' → va_P (dC, dI) vwCl (lwW cI cJ cS o f' a u' am v') H' → va_D A (lwW cI cJ cS o f' a u' am v') → va_S A s.heap H' locs' → lv_has ls' 7 [(0, .ref b), (1, .ref (a 0)), (2, .ref (am 0)), (3, .ref o), (4, .int (nI i))] → W p l e room_1 s m args below meth c H' locs' (cells + 3) (slots + 18) Q (F0 m 1942 ls' [])) : W p l e room_1 s m args below meth c H locs cells slots Q (F0 m 196 ls []) := by
  obtain ⟨⟨hx, hb, hml, hown, hts⟩, hr, hlk, hK⟩ := id X
  refine lv_aload_n hx hb dL_law_196 rfl (lv_at hl 1 rfl) ?_
  refine law_arg X hX hbl hbA hi hL hS hl (k0 := 0) (k4 := 4) rfl rfl (k := 1) (by decide) rfl dL_law_197 dL_law_198 dL_law_200 dL_law_201 dL_law_202 ?_
  refine law_arg X hX hbl hbA hi hL hS hl (k0 := 0) (k4 := 4) rfl rfl (k := 2) (by decide) rfl dL_law_203 dL_law_204 dL_law_206 dL_law_207 dL_law_208 ?_
  refine law_arg X hX hbl hbA hi hL hS hl (k0 := 0) (k4 := 4) rfl rfl (k := 3) (by decide) rfl dL_law_209 dL_law_210 dL_law_212 dL_law_213 dL_law_214 ?_
  refine law_arg X hX hbl hbA hi hL hS hl (k0 := 0) (k4 := 4) rfl rfl (k := 4) (by decide) rfl dL_law_215 dL_law_216 dL_law_218 dL_law_219 dL_law_220 ?_
  refine law_arg X hX hbl hbA hi hL hS hl (k0 := 0) (k4 := 4) rfl rfl (k := 5) (by decide) rfl dL_law_221 dL_law_222 dL_law_224 dL_law_225 dL_law_226 ?_
  refine z_pVi (Wn := fun z => lwW cI cJ cS o f a z am v) (wr := wO cJ o f ++ cl_X11 cI cJ am v) (As := [.int (xs (i + 1)), .int (xs (i + 2)), .int (xs (i + 3)), .int (xs (i + 4)), .int (xs (i + 5))]) (rest := []) X (c_X10_feed l dC dI cI cJ cS a u (xs (i + 1)) (xs (i + 2)) (xs (i + 3)) (xs (i + 4)) (xs (i + 5)) (fun q z => q = (fFeed G (xs (i + 1)) (xs (i + 2)) (xs (i + 3)) (xs (i + 4)) (xs (i + 5))).1 ∧ cG (fFeed G (xs (i + 1)) (xs (i + 2)) (xs (i + 3)) (xs (i + 4)) (xs (i + 5))).2 z) (⟨B, G, hok, hc, fun u1 q1 => ⟨rfl, q1⟩⟩) _) zc_X10_feed q_ml_L_96 ⟨rfl, rfl⟩ ⟨Nat.le_of_ble_eq_true rfl, Nat.le_of_ble_eq_true rfl⟩ hP hD hS hA (px_l _ _ _) (fun _ => px_l _ _ _) 9 rfl rfl hl.1 rfl rfl (Nat.le_of_ble_eq_true rfl) ⟨by show cells ≤ 601024; omega, by show slots ≤ 7293034; omega⟩ dL_law_227 (fun r5 u1 H locs hq hP hD hS => ?_)
  obtain ⟨e5, hc1⟩ := hq
  refine lv_aload_n hx hb dL_law_230 rfl (lv_at hl 2 rfl) ?_
  refine law_arg X hX hbl hbA hi hL hS hl (k0 := 0) (k4 := 4) rfl rfl (k := 1) (by decide) rfl dL_law_231 dL_law_232 dL_law_234 dL_law_235 dL_law_236 ?_
  refine law_arg X hX hbl hbA hi hL hS hl (k0 := 0) (k4 := 4) rfl rfl (k := 2) (by decide) rfl dL_law_237 dL_law_238 dL_law_240 dL_law_241 dL_law_242 ?_
  refine law_arg X hX hbl hbA hi hL hS hl (k0 := 0) (k4 := 4) rfl rfl (k := 3) (by decide) rfl dL_law_243 dL_law_244 dL_law_246 dL_law_247 dL_law_248 ?_
  refine law_arg X hX hbl hbA hi hL hS hl (k0 := 0) (k4 := 4) rfl rfl (k := 4) (by decide) rfl dL_law_249 dL_law_250 dL_law_252 dL_law_253 dL_law_254 ?_
  refine law_arg X hX hbl hbA hi hL hS hl (k0 := 0) (k4 := 4) rfl rfl (k := 5) (by decide) rfl dL_law_255 dL_law_256 dL_law_258 dL_law_259 dL_law_260 ?_
  refine z_pVi (Wn := fun z => lwW cI cJ cS o f a u1 am z) (wr := wO cJ o f ++ cl_X10 cI cJ cS a u1) (As := [.int (xs (i + 1)), .int (xs (i + 2)), .int (xs (i + 3)), .int (xs (i + 4)), .int (xs (i + 5))]) (rest := [.int r5]) X (c_X11_feed l dC dI cI cJ cS am v (xs (i + 1)) (xs (i + 2)) (xs (i + 3)) (xs (i + 4)) (xs (i + 5)) (fun q z => q = (fFeed G (xs (i + 1)) (xs (i + 2)) (xs (i + 3)) (xs (i + 4)) (xs (i + 5))).1 ∧ mG (fFeed G (xs (i + 1)) (xs (i + 2)) (xs (i + 3)) (xs (i + 4)) (xs (i + 5))).2 z) (⟨B, G, hok, hm, fun v1 q1 => ⟨rfl, q1⟩⟩) _) zc_X11_feed q_ml_L_100 ⟨rfl, rfl⟩ ⟨Nat.le_of_ble_eq_true rfl, Nat.le_of_ble_eq_true rfl⟩ hP hD hS hA (List.Perm.refl _) (fun _ => List.Perm.refl _) 10 rfl rfl hl.1 rfl rfl (Nat.le_of_ble_eq_true rfl) ⟨by show cells ≤ 601024; omega, by show slots ≤ 7293034; omega⟩ dL_law_261 (fun r6 v1 H locs hq hP hD hS => ?_)
  obtain ⟨e6, hm1⟩ := hq
  refine lv_icmp_eq (tgt := 1942) hx hb dL_law_264 (by decide) (fun _ => ?_) (fun h => absurd (e5.trans e6.symm) h)
  exact W.widen (by omega) (by omega) (kk (fFeed G (xs (i + 1)) (xs (i + 2)) (xs (i + 3)) (xs (i + 4)) (xs (i + 5))).2 u1 v1 f H locs ls (og_feed hok (by omega) (xs (i + 1)) (xs (i + 2)) (xs (i + 3)) (xs (i + 4)) (xs (i + 5))) hc1 hm1 hP hD hS hl)
set_option maxHeartbeats 4000000 in
set_option maxRecDepth 100000 in
theorem lawc_1 (X : zX p s m args meth c cL_law 7 ret RL dC dI cI cJ cS) (hFw : zFw A s s.heap) (hlt : l.stackTraces = false) (hX : va_X b L xs s s.heap) (hbl : b < s.heap.size) (hbA : ¬ A b) (hA : ∀ q : Nat, s.heap.size ≤ q → A q) (hi : i + 6 ≤ L) (hL : L ≤ 3072) (hok : okG B G) (hB : B + 400 ≤ 400000) (hc : cG G u) (hm : mG G v) (hP : va_P (dC, dI) vwCl (lwW cI cJ cS o f a u am v) H) (hD : va_D A (lwW cI cJ cS o f a u am v)) (hS : va_S A s.heap H locs) (hl : lv_has ls 7 [(0, .ref b), (1, .ref (a 0)), (2, .ref (am 0)), (3, .ref o), (4, .int (nI i))]) (hcs : cells + 3 ≤ 601024 ∧ slots + 18 ≤ 7293034)
    (kk : ∀ (G' : zG) (u' : zCls) (v' : zModel) (f' : Nat → Int64) (H' : Heap) (locs' : List Loc) (ls' : Array Slot), okG (B + 280) G' → cG G' u' → mG G' v' → va_P (dC, dI) vwCl (lwW cI cJ cS o f' a u' am v') H' → va_D A (lwW cI cJ cS o f' a u' am v') → va_S A s.heap H' locs' → lv_has ls' 7 [(0, .ref b), (1, .ref (a 0)), (2, .ref (am 0)), (3, .ref o), (4, .int (nI i))] → W p l e room_1 s m args below meth c H' locs' (cells + 3) (slots + 18) Q (F0 m 1942 ls' [])) : W p l e room_1 s m args below meth c H locs cells slots Q (F0 m 269 ls []) := by
  obtain ⟨⟨hx, hb, hml, hown, hts⟩, hr, hlk, hK⟩ := id X
  refine lv_aload_n hx hb dL_law_269 rfl (lv_at hl 1 rfl) ?_
  refine law_arg X hX hbl hbA hi hL hS hl (k0 := 0) (k4 := 4) rfl rfl (k := 1) (by decide) rfl dL_law_270 dL_law_271 dL_law_273 dL_law_274 dL_law_275 ?_
  refine z_pVi (Wn := fun z => lwW cI cJ cS o f a z am v) (wr := wO cJ o f ++ cl_X11 cI cJ am v) (As := [.int (xs (i + 1))]) (rest := []) X (c_X10_end l dC dI cI cJ cS a u (xs (i + 1)) (fun q z => q = (fEnd G (xs (i + 1))).1 ∧ cG (fEnd G (xs (i + 1))).2 z) (lx_end hok (xs (i + 1)) hc) _) zc_X10_end q_ml_L_101 ⟨rfl, rfl⟩ ⟨Nat.le_of_ble_eq_true rfl, Nat.le_of_ble_eq_true rfl⟩ hP hD hS hA (px_l _ _ _) (fun _ => px_l _ _ _) 9 rfl rfl hl.1 rfl rfl (Nat.le_of_ble_eq_true rfl) ⟨by show cells ≤ 601024; omega, by show slots ≤ 7293034; omega⟩ dL_law_276 (fun r5 u1 H locs hq hP hD hS => ?_)
  obtain ⟨e5, hc1⟩ := hq.2
  refine lv_aload_n hx hb dL_law_279 rfl (lv_at hl 2 rfl) ?_
  refine law_arg X hX hbl hbA hi hL hS hl (k0 := 0) (k4 := 4) rfl rfl (k := 1) (by decide) rfl dL_law_280 dL_law_281 dL_law_283 dL_law_284 dL_law_285 ?_
  refine z_pVi (Wn := fun z => lwW cI cJ cS o f a u1 am z) (wr := wO cJ o f ++ cl_X10 cI cJ cS a u1) (As := [.int (xs (i + 1))]) (rest := [.int r5]) X (c_X11_end l dC dI cI cJ cS am v (xs (i + 1)) (fun q z => q = (fEnd G (xs (i + 1))).1 ∧ mG (fEnd G (xs (i + 1))).2 z) (⟨B, G, hok, hm, fun v1 q1 => ⟨rfl, q1⟩⟩) _) zc_X11_end q_ml_L_105 ⟨rfl, rfl⟩ ⟨Nat.le_of_ble_eq_true rfl, Nat.le_of_ble_eq_true rfl⟩ hP hD hS hA (List.Perm.refl _) (fun _ => List.Perm.refl _) 10 rfl rfl hl.1 rfl rfl (Nat.le_of_ble_eq_true rfl) ⟨by show cells ≤ 601024; omega, by show slots ≤ 7293034; omega⟩ dL_law_286 (fun r6 v1 H locs hq hP hD hS => ?_)
  obtain ⟨e6, hm1⟩ := hq.2
  refine lv_icmp_eq (tgt := 1942) hx hb dL_law_289 (by decide) (fun _ => ?_) (fun h => absurd (e5.trans e6.symm) h)
  exact W.widen (by omega) (by omega) (kk (fEnd G (xs (i + 1))).2 u1 v1 f H locs ls (og_end hok (by omega) (xs (i + 1))) hc1 hm1 hP hD hS hl)
set_option maxHeartbeats 4000000 in
set_option maxRecDepth 100000 in
theorem lawc_2 (X : zX p s m args meth c cL_law 7 ret RL dC dI cI cJ cS) (hFw : zFw A s s.heap) (hlt : l.stackTraces = false) (hX : va_X b L xs s s.heap) (hbl : b < s.heap.size) (hbA : ¬ A b) (hA : ∀ q : Nat, s.heap.size ≤ q → A q) (hi : i + 6 ≤ L) (hL : L ≤ 3072) (hok : okG B G) (hB : B + 400 ≤ 400000) (hc : cG G u) (hm : mG G v) (hP : va_P (dC, dI) vwCl (lwW cI cJ cS o f a u am v) H) (hD : va_D A (lwW cI cJ cS o f a u am v)) (hS : va_S A s.heap H locs) (hl : lv_has ls 7 [(0, .ref b), (1, .ref (a 0)), (2, .ref (am 0)), (3, .ref o), (4, .int (nI i))]) (hcs : cells + 3 ≤ 601024 ∧ slots + 18 ≤ 7293034)
    (kk : ∀ (G' : zG) (u' : zCls) (v' : zModel) (f' : Nat → Int64) (H' : Heap) (locs' : List Loc) (ls' : Array Slot), okG (B + 280) G' → cG G' u' → mG G' v' → va_P (dC, dI) vwCl (lwW cI cJ cS o f' a u' am v') H' → va_D A (lwW cI cJ cS o f' a u' am v') → va_S A s.heap H' locs' → lv_has ls' 7 [(0, .ref b), (1, .ref (a 0)), (2, .ref (am 0)), (3, .ref o), (4, .int (nI i))] → W p l e room_1 s m args below meth c H' locs' (cells + 3) (slots + 18) Q (F0 m 1942 ls' [])) : W p l e room_1 s m args below meth c H locs cells slots Q (F0 m 294 ls []) := by
  obtain ⟨⟨hx, hb, hml, hown, hts⟩, hr, hlk, hK⟩ := id X
  refine lv_aload_n hx hb dL_law_294 rfl (lv_at hl 1 rfl) ?_
  refine lv_aload_n hx hb dL_law_295 rfl (lv_at hl 3 rfl) ?_
  obtain ⟨r, er⟩ : ∃ r : Int32 × Int32 × zG, r = (fActs G ) := ⟨_, rfl⟩
  refine z_wL (Wf := fun z : zCls × (Nat → Int64) => wO cJ o z.2 ++ cl_X10 cI cJ cS a z.1) (Wn := fun z : zCls × (Nat → Int64) => lwW cI cJ cS o z.2 a z.1 am v) (wr := cl_X11 cI cJ am v) (As := [.ref (a 0), .ref o]) (rest := []) X fro_Fw hFw (c_L_acts l hlt dC dI cI cJ cS a u o f  (lQ r) (by rw [er]; exact ⟨B, G, hok, by omega, hc, co1 (r := (fActs G )) (fc_acts G )⟩) _) w_cw_acts q_ml_L_106 ⟨rfl, rfl⟩ ⟨Nat.le_of_ble_eq_true rfl, Nat.le_of_ble_eq_true rfl⟩ hP hD hS hA List.perm_append_comm (fun _ => List.perm_append_comm) hl.1 rfl rfl (Nat.le_of_ble_eq_true rfl) ⟨by show cells + 1 ≤ 601024; omega, by show slots + 6 ≤ 7293034; omega⟩ dL_law_296 (fun r5 z H locs hq hP hD hS => ?_)
  obtain ⟨f1, ef1⟩ : ∃ q, q = z.2 := ⟨_, rfl⟩
  obtain ⟨u1, eu1⟩ : ∃ q, q = z.1 := ⟨_, rfl⟩
  obtain ⟨e5, hc1, h0⟩ := hq
  rw [← ef1] at hP hD h0
  rw [← eu1] at hP hD hc1
  refine lv_istore (lv' := [(5, .int r5), (0, .ref b), (1, .ref (a 0)), (2, .ref (am 0)), (3, .ref o), (4, .int (nI i))]) hx hb dL_law_299 hl (by decide) rfl (fun ls hl => ?_)
  refine lv_aload_n hx hb dL_law_301 rfl (lv_at hl 3 rfl) ?_
  refine z_pViF (Wn := fun z => lwW cI cJ cS o f1 a u1 am z) (wr := wO cJ o f1 ++ cl_X10 cI cJ cS a u1) (As := []) (rest := []) X fro_Fz hFw.1.1 (c_X11_acts l dC dI cI cJ cS am v  (fun q z => q = r.2.1 ∧ mG r.2.2 z ∧ z.1 = r.1) (by rw [er]; exact ⟨B, G, hok, by omega, hm, fun v1 q1 q2 => ⟨rfl, q1, q2⟩⟩) _) zc_X11_acts q_ml_L_111 ⟨rfl, rfl⟩ ⟨Nat.le_of_ble_eq_true rfl, Nat.le_of_ble_eq_true rfl⟩ hP hD hS hA (List.Perm.refl _) (fun _ => List.Perm.refl _) 10 rfl rfl hl.1 rfl rfl (Nat.le_of_ble_eq_true rfl) ⟨by show cells + 1 ≤ 601024; omega, by show slots + 6 ≤ 7293034; omega⟩ dL_law_302 (fun r6 v1 H locs hq hP hD hS => ?_)
  obtain ⟨e6, hm1, hv1⟩ := hq
  refine lv_istore (lv' := [(6, .int r6), (5, .int r5), (0, .ref b), (1, .ref (a 0)), (2, .ref (am 0)), (3, .ref o), (4, .int (nI i))]) hx hb dL_law_305 hl (by decide) rfl (fun ls hl => ?_)
  exact law_tail (r := r) X (by omega) (by omega) hcs e5 h0 e6 hv1 (by rw [er]; exact og_acts hok (by omega) ) hc1 hm1 hP hD hS hl dL_law_307 dL_law_308 dL_law_311 dL_law_313 dL_law_318 dL_law_320 dL_law_323 dL_law_324 dL_law_325 dL_law_326 dL_law_328 dL_law_329 dL_law_330 dL_law_335 (by decide) kk
set_option maxHeartbeats 4000000 in
set_option maxRecDepth 100000 in
theorem lawc_3 (X : zX p s m args meth c cL_law 7 ret RL dC dI cI cJ cS) (hFw : zFw A s s.heap) (hlt : l.stackTraces = false) (hX : va_X b L xs s s.heap) (hbl : b < s.heap.size) (hbA : ¬ A b) (hA : ∀ q : Nat, s.heap.size ≤ q → A q) (hi : i + 6 ≤ L) (hL : L ≤ 3072) (hok : okG B G) (hB : B + 400 ≤ 400000) (hc : cG G u) (hm : mG G v) (hP : va_P (dC, dI) vwCl (lwW cI cJ cS o f a u am v) H) (hD : va_D A (lwW cI cJ cS o f a u am v)) (hS : va_S A s.heap H locs) (hl : lv_has ls 7 [(0, .ref b), (1, .ref (a 0)), (2, .ref (am 0)), (3, .ref o), (4, .int (nI i))]) (hcs : cells + 3 ≤ 601024 ∧ slots + 18 ≤ 7293034)
    (kk : ∀ (G' : zG) (u' : zCls) (v' : zModel) (f' : Nat → Int64) (H' : Heap) (locs' : List Loc) (ls' : Array Slot), okG (B + 280) G' → cG G' u' → mG G' v' → va_P (dC, dI) vwCl (lwW cI cJ cS o f' a u' am v') H' → va_D A (lwW cI cJ cS o f' a u' am v') → va_S A s.heap H' locs' → lv_has ls' 7 [(0, .ref b), (1, .ref (a 0)), (2, .ref (am 0)), (3, .ref o), (4, .int (nI i))] → W p l e room_1 s m args below meth c H' locs' (cells + 3) (slots + 18) Q (F0 m 1942 ls' [])) : W p l e room_1 s m args below meth c H locs cells slots Q (F0 m 338 ls []) := by
  obtain ⟨⟨hx, hb, hml, hown, hts⟩, hr, hlk, hK⟩ := id X
  refine lv_aload_n hx hb dL_law_338 rfl (lv_at hl 1 rfl) ?_
  refine z_wVi (wc := cl_X10 cI cJ cS a u) (As := []) (rest := []) (R := room_1) X (c_X10_fault l dC dI cI cJ cS a u (fun q => q = gWr G) (lx_fault hc)) zc_X10_fault q_ml_L_115 ⟨rfl, rfl⟩ ⟨Nat.le_of_ble_eq_true rfl, Nat.le_of_ble_eq_true rfl⟩ (hP.perm (px_l _ _ _)).r 9 rfl rfl hl.1 rfl rfl (Nat.le_of_ble_eq_true rfl) ⟨by show cells ≤ 601024; omega, by show slots ≤ 7293034; omega⟩ dL_law_339 (fun r5 e5 => ?_)
  have hc1 := hc
  refine lv_aload_n hx hb dL_law_342 rfl (lv_at hl 2 rfl) ?_
  refine z_pVi (Wn := fun z => lwW cI cJ cS o f a u am z) (wr := wO cJ o f ++ cl_X10 cI cJ cS a u) (As := []) (rest := [.int r5]) X (c_X11_fault l dC dI cI cJ cS am v  (fun q z => q = gWr G ∧ mG G z) (lm_fault hm) _) zc_X11_fault q_ml_L_118 ⟨rfl, rfl⟩ ⟨Nat.le_of_ble_eq_true rfl, Nat.le_of_ble_eq_true rfl⟩ hP hD hS hA (List.Perm.refl _) (fun _ => List.Perm.refl _) 10 rfl rfl hl.1 rfl rfl (Nat.le_of_ble_eq_true rfl) ⟨by show cells ≤ 601024; omega, by show slots ≤ 7293034; omega⟩ dL_law_343 (fun r6 v1 H locs hq hP hD hS => ?_)
  obtain ⟨e6, hm1⟩ := hq
  refine lv_icmp_eq (tgt := 1942) hx hb dL_law_346 (by decide) (fun _ => ?_) (fun h => absurd (e5.trans e6.symm) h)
  exact W.widen (by omega) (by omega) (kk G u v1 f H locs ls (og_ask hok (by omega)) hc1 hm1 hP hD hS hl)
set_option maxHeartbeats 4000000 in
set_option maxRecDepth 100000 in
theorem lawc_4 (X : zX p s m args meth c cL_law 7 ret RL dC dI cI cJ cS) (hFw : zFw A s s.heap) (hlt : l.stackTraces = false) (hX : va_X b L xs s s.heap) (hbl : b < s.heap.size) (hbA : ¬ A b) (hA : ∀ q : Nat, s.heap.size ≤ q → A q) (hi : i + 6 ≤ L) (hL : L ≤ 3072) (hok : okG B G) (hB : B + 400 ≤ 400000) (hc : cG G u) (hm : mG G v) (hP : va_P (dC, dI) vwCl (lwW cI cJ cS o f a u am v) H) (hD : va_D A (lwW cI cJ cS o f a u am v)) (hS : va_S A s.heap H locs) (hl : lv_has ls 7 [(0, .ref b), (1, .ref (a 0)), (2, .ref (am 0)), (3, .ref o), (4, .int (nI i))]) (hcs : cells + 3 ≤ 601024 ∧ slots + 18 ≤ 7293034)
    (kk : ∀ (G' : zG) (u' : zCls) (v' : zModel) (f' : Nat → Int64) (H' : Heap) (locs' : List Loc) (ls' : Array Slot), okG (B + 280) G' → cG G' u' → mG G' v' → va_P (dC, dI) vwCl (lwW cI cJ cS o f' a u' am v') H' → va_D A (lwW cI cJ cS o f' a u' am v') → va_S A s.heap H' locs' → lv_has ls' 7 [(0, .ref b), (1, .ref (a 0)), (2, .ref (am 0)), (3, .ref o), (4, .int (nI i))] → W p l e room_1 s m args below meth c H' locs' (cells + 3) (slots + 18) Q (F0 m 1942 ls' [])) : W p l e room_1 s m args below meth c H locs cells slots Q (F0 m 351 ls []) := by
  obtain ⟨⟨hx, hb, hml, hown, hts⟩, hr, hlk, hK⟩ := id X
  refine lv_aload_n hx hb dL_law_351 rfl (lv_at hl 1 rfl) ?_
  refine z_wVi (wc := cl_X10 cI cJ cS a u) (As := []) (rest := []) (R := room_1) X (c_X10_why l dC dI cI cJ cS a u (fun q => q = gWy G) (lx_why hc)) zc_X10_why q_ml_L_119 ⟨rfl, rfl⟩ ⟨Nat.le_of_ble_eq_true rfl, Nat.le_of_ble_eq_true rfl⟩ (hP.perm (px_l _ _ _)).r 9 rfl rfl hl.1 rfl rfl (Nat.le_of_ble_eq_true rfl) ⟨by show cells ≤ 601024; omega, by show slots ≤ 7293034; omega⟩ dL_law_352 (fun r5 e5 => ?_)
  have hc1 := hc
  refine lv_aload_n hx hb dL_law_355 rfl (lv_at hl 2 rfl) ?_
  refine z_pVi (Wn := fun z => lwW cI cJ cS o f a u am z) (wr := wO cJ o f ++ cl_X10 cI cJ cS a u) (As := []) (rest := [.int r5]) X (c_X11_why l dC dI cI cJ cS am v  (fun q z => q = gWy G ∧ mG G z) (lm_why hm) _) zc_X11_why q_ml_L_122 ⟨rfl, rfl⟩ ⟨Nat.le_of_ble_eq_true rfl, Nat.le_of_ble_eq_true rfl⟩ hP hD hS hA (List.Perm.refl _) (fun _ => List.Perm.refl _) 10 rfl rfl hl.1 rfl rfl (Nat.le_of_ble_eq_true rfl) ⟨by show cells ≤ 601024; omega, by show slots ≤ 7293034; omega⟩ dL_law_356 (fun r6 v1 H locs hq hP hD hS => ?_)
  obtain ⟨e6, hm1⟩ := hq
  refine lv_icmp_eq (tgt := 1942) hx hb dL_law_359 (by decide) (fun _ => ?_) (fun h => absurd (e5.trans e6.symm) h)
  exact W.widen (by omega) (by omega) (kk G u v1 f H locs ls (og_ask hok (by omega)) hc1 hm1 hP hD hS hl)
set_option maxHeartbeats 4000000 in
set_option maxRecDepth 100000 in
theorem lawc_5 (X : zX p s m args meth c cL_law 7 ret RL dC dI cI cJ cS) (hFw : zFw A s s.heap) (hlt : l.stackTraces = false) (hX : va_X b L xs s s.heap) (hbl : b < s.heap.size) (hbA : ¬ A b) (hA : ∀ q : Nat, s.heap.size ≤ q → A q) (hi : i + 6 ≤ L) (hL : L ≤ 3072) (hok : okG B G) (hB : B + 400 ≤ 400000) (hc : cG G u) (hm : mG G v) (hP : va_P (dC, dI) vwCl (lwW cI cJ cS o f a u am v) H) (hD : va_D A (lwW cI cJ cS o f a u am v)) (hS : va_S A s.heap H locs) (hl : lv_has ls 7 [(0, .ref b), (1, .ref (a 0)), (2, .ref (am 0)), (3, .ref o), (4, .int (nI i))]) (hcs : cells + 3 ≤ 601024 ∧ slots + 18 ≤ 7293034)
    (kk : ∀ (G' : zG) (u' : zCls) (v' : zModel) (f' : Nat → Int64) (H' : Heap) (locs' : List Loc) (ls' : Array Slot), okG (B + 280) G' → cG G' u' → mG G' v' → va_P (dC, dI) vwCl (lwW cI cJ cS o f' a u' am v') H' → va_D A (lwW cI cJ cS o f' a u' am v') → va_S A s.heap H' locs' → lv_has ls' 7 [(0, .ref b), (1, .ref (a 0)), (2, .ref (am 0)), (3, .ref o), (4, .int (nI i))] → W p l e room_1 s m args below meth c H' locs' (cells + 3) (slots + 18) Q (F0 m 1942 ls' [])) : W p l e room_1 s m args below meth c H locs cells slots Q (F0 m 364 ls []) := by
  obtain ⟨⟨hx, hb, hml, hown, hts⟩, hr, hlk, hK⟩ := id X
  refine lv_aload_n hx hb dL_law_364 rfl (lv_at hl 1 rfl) ?_
  refine law_arg X hX hbl hbA hi hL hS hl (k0 := 0) (k4 := 4) rfl rfl (k := 1) (by decide) rfl dL_law_365 dL_law_366 dL_law_368 dL_law_369 dL_law_370 ?_
  refine law_arg X hX hbl hbA hi hL hS hl (k0 := 0) (k4 := 4) rfl rfl (k := 2) (by decide) rfl dL_law_371 dL_law_372 dL_law_374 dL_law_375 dL_law_376 ?_
  refine law_arg X hX hbl hbA hi hL hS hl (k0 := 0) (k4 := 4) rfl rfl (k := 3) (by decide) rfl dL_law_377 dL_law_378 dL_law_380 dL_law_381 dL_law_382 ?_
  refine law_arg X hX hbl hbA hi hL hS hl (k0 := 0) (k4 := 4) rfl rfl (k := 4) (by decide) rfl dL_law_383 dL_law_384 dL_law_386 dL_law_387 dL_law_388 ?_
  refine lv_aload_n hx hb dL_law_389 rfl (lv_at hl 3 rfl) ?_
  obtain ⟨r, er⟩ : ∃ r : Int32 × Int32 × zG, r = (fStore G (xs (i + 1)) (xs (i + 2)) (xs (i + 3)) (xs (i + 4))) := ⟨_, rfl⟩
  refine z_wL (Wf := fun z : zCls × (Nat → Int64) => wO cJ o z.2 ++ cl_X10 cI cJ cS a z.1) (Wn := fun z : zCls × (Nat → Int64) => lwW cI cJ cS o z.2 a z.1 am v) (wr := cl_X11 cI cJ am v) (As := [.ref (a 0), .int (xs (i + 1)), .int (xs (i + 2)), .int (xs (i + 3)), .int (xs (i + 4)), .ref o]) (rest := []) X fro_Fw hFw (c_L_store l hlt dC dI cI cJ cS a u o f (xs (i + 1)) (xs (i + 2)) (xs (i + 3)) (xs (i + 4)) (lQ r) (by rw [er]; exact ⟨B, G, hok, by omega, hc, co1 (r := (fStore G (xs (i + 1)) (xs (i + 2)) (xs (i + 3)) (xs (i + 4)))) (fc_store G (xs (i + 1)) (xs (i + 2)) (xs (i + 3)) (xs (i + 4)))⟩) _) w_cw_store q_ml_L_123 ⟨rfl, rfl⟩ ⟨Nat.le_of_ble_eq_true rfl, Nat.le_of_ble_eq_true rfl⟩ hP hD hS hA List.perm_append_comm (fun _ => List.perm_append_comm) hl.1 rfl rfl (Nat.le_of_ble_eq_true rfl) ⟨by show cells + 1 ≤ 601024; omega, by show slots + 6 ≤ 7293034; omega⟩ dL_law_390 (fun r5 z H locs hq hP hD hS => ?_)
  obtain ⟨f1, ef1⟩ : ∃ q, q = z.2 := ⟨_, rfl⟩
  obtain ⟨u1, eu1⟩ : ∃ q, q = z.1 := ⟨_, rfl⟩
  obtain ⟨e5, hc1, h0⟩ := hq
  rw [← ef1] at hP hD h0
  rw [← eu1] at hP hD hc1
  refine lv_istore (lv' := [(5, .int r5), (0, .ref b), (1, .ref (a 0)), (2, .ref (am 0)), (3, .ref o), (4, .int (nI i))]) hx hb dL_law_393 hl (by decide) rfl (fun ls hl => ?_)
  refine lv_aload_n hx hb dL_law_395 rfl (lv_at hl 3 rfl) ?_
  refine law_arg X hX hbl hbA hi hL hS hl (k0 := 1) (k4 := 5) rfl rfl (k := 1) (by decide) rfl dL_law_396 dL_law_397 dL_law_399 dL_law_400 dL_law_401 ?_
  refine law_arg X hX hbl hbA hi hL hS hl (k0 := 1) (k4 := 5) rfl rfl (k := 2) (by decide) rfl dL_law_402 dL_law_403 dL_law_405 dL_law_406 dL_law_407 ?_
  refine law_arg X hX hbl hbA hi hL hS hl (k0 := 1) (k4 := 5) rfl rfl (k := 3) (by decide) rfl dL_law_408 dL_law_409 dL_law_411 dL_law_412 dL_law_413 ?_
  refine law_arg X hX hbl hbA hi hL hS hl (k0 := 1) (k4 := 5) rfl rfl (k := 4) (by decide) rfl dL_law_414 dL_law_415 dL_law_417 dL_law_418 dL_law_419 ?_
  refine z_pVi (Wn := fun z => lwW cI cJ cS o f1 a u1 am z) (wr := wO cJ o f1 ++ cl_X10 cI cJ cS a u1) (As := [.int (xs (i + 1)), .int (xs (i + 2)), .int (xs (i + 3)), .int (xs (i + 4))]) (rest := []) X (c_X11_store l dC dI cI cJ cS am v (xs (i + 1)) (xs (i + 2)) (xs (i + 3)) (xs (i + 4)) (fun q z => q = r.2.1 ∧ mG r.2.2 z ∧ z.1 = r.1) (by rw [er]; exact ⟨B, G, hok, hm, fun v1 q1 q2 => ⟨rfl, q1, q2⟩⟩) _) zc_X11_store q_ml_L_126 ⟨rfl, rfl⟩ ⟨Nat.le_of_ble_eq_true rfl, Nat.le_of_ble_eq_true rfl⟩ hP hD hS hA (List.Perm.refl _) (fun _ => List.Perm.refl _) 10 rfl rfl hl.1 rfl rfl (Nat.le_of_ble_eq_true rfl) ⟨by show cells + 1 ≤ 601024; omega, by show slots + 6 ≤ 7293034; omega⟩ dL_law_420 (fun r6 v1 H locs hq hP hD hS => ?_)
  obtain ⟨e6, hm1, hv1⟩ := hq
  refine lv_istore (lv' := [(6, .int r6), (5, .int r5), (0, .ref b), (1, .ref (a 0)), (2, .ref (am 0)), (3, .ref o), (4, .int (nI i))]) hx hb dL_law_423 hl (by decide) rfl (fun ls hl => ?_)
  exact law_tail (r := r) X (by omega) (by omega) hcs e5 h0 e6 hv1 (by rw [er]; exact og_store hok (by omega) (xs (i + 1)) (xs (i + 2)) (xs (i + 3)) (xs (i + 4))) hc1 hm1 hP hD hS hl dL_law_425 dL_law_426 dL_law_429 dL_law_431 dL_law_436 dL_law_438 dL_law_441 dL_law_442 dL_law_443 dL_law_444 dL_law_446 dL_law_447 dL_law_448 dL_law_453 (by decide) kk
set_option maxHeartbeats 4000000 in
set_option maxRecDepth 100000 in
theorem lawc_6 (X : zX p s m args meth c cL_law 7 ret RL dC dI cI cJ cS) (hFw : zFw A s s.heap) (hlt : l.stackTraces = false) (hX : va_X b L xs s s.heap) (hbl : b < s.heap.size) (hbA : ¬ A b) (hA : ∀ q : Nat, s.heap.size ≤ q → A q) (hi : i + 6 ≤ L) (hL : L ≤ 3072) (hok : okG B G) (hB : B + 400 ≤ 400000) (hc : cG G u) (hm : mG G v) (hP : va_P (dC, dI) vwCl (lwW cI cJ cS o f a u am v) H) (hD : va_D A (lwW cI cJ cS o f a u am v)) (hS : va_S A s.heap H locs) (hl : lv_has ls 7 [(0, .ref b), (1, .ref (a 0)), (2, .ref (am 0)), (3, .ref o), (4, .int (nI i))]) (hcs : cells + 3 ≤ 601024 ∧ slots + 18 ≤ 7293034)
    (kk : ∀ (G' : zG) (u' : zCls) (v' : zModel) (f' : Nat → Int64) (H' : Heap) (locs' : List Loc) (ls' : Array Slot), okG (B + 280) G' → cG G' u' → mG G' v' → va_P (dC, dI) vwCl (lwW cI cJ cS o f' a u' am v') H' → va_D A (lwW cI cJ cS o f' a u' am v') → va_S A s.heap H' locs' → lv_has ls' 7 [(0, .ref b), (1, .ref (a 0)), (2, .ref (am 0)), (3, .ref o), (4, .int (nI i))] → W p l e room_1 s m args below meth c H' locs' (cells + 3) (slots + 18) Q (F0 m 1942 ls' [])) : W p l e room_1 s m args below meth c H locs cells slots Q (F0 m 456 ls []) := by
  obtain ⟨⟨hx, hb, hml, hown, hts⟩, hr, hlk, hK⟩ := id X
  refine lv_aload_n hx hb dL_law_456 rfl (lv_at hl 1 rfl) ?_
  refine law_arg X hX hbl hbA hi hL hS hl (k0 := 0) (k4 := 4) rfl rfl (k := 1) (by decide) rfl dL_law_457 dL_law_458 dL_law_460 dL_law_461 dL_law_462 ?_
  refine law_arg X hX hbl hbA hi hL hS hl (k0 := 0) (k4 := 4) rfl rfl (k := 2) (by decide) rfl dL_law_463 dL_law_464 dL_law_466 dL_law_467 dL_law_468 ?_
  refine law_arg X hX hbl hbA hi hL hS hl (k0 := 0) (k4 := 4) rfl rfl (k := 3) (by decide) rfl dL_law_469 dL_law_470 dL_law_472 dL_law_473 dL_law_474 ?_
  refine lv_aload_n hx hb dL_law_475 rfl (lv_at hl 3 rfl) ?_
  obtain ⟨r, er⟩ : ∃ r : Int32 × Int32 × zG, r = (fPut G (xs (i + 1)) (xs (i + 2)) (xs (i + 3))) := ⟨_, rfl⟩
  refine z_wL (Wf := fun z : zCls × (Nat → Int64) => wO cJ o z.2 ++ cl_X10 cI cJ cS a z.1) (Wn := fun z : zCls × (Nat → Int64) => lwW cI cJ cS o z.2 a z.1 am v) (wr := cl_X11 cI cJ am v) (As := [.ref (a 0), .int (xs (i + 1)), .int (xs (i + 2)), .int (xs (i + 3)), .ref o]) (rest := []) X fro_Fw hFw (c_L_put l hlt dC dI cI cJ cS a u o f (xs (i + 1)) (xs (i + 2)) (xs (i + 3)) (lQ r) (by rw [er]; exact ⟨B, G, hok, by omega, hc, co3 (r := (fPut G (xs (i + 1)) (xs (i + 2)) (xs (i + 3)))) (fc_put G (xs (i + 1)) (xs (i + 2)) (xs (i + 3)))⟩) _) w_cw_put q_ml_L_127 ⟨rfl, rfl⟩ ⟨Nat.le_of_ble_eq_true rfl, Nat.le_of_ble_eq_true rfl⟩ hP hD hS hA List.perm_append_comm (fun _ => List.perm_append_comm) hl.1 rfl rfl (Nat.le_of_ble_eq_true rfl) ⟨by show cells + 2 ≤ 601024; omega, by show slots + 12 ≤ 7293034; omega⟩ dL_law_476 (fun r5 z H locs hq hP hD hS => ?_)
  obtain ⟨f1, ef1⟩ : ∃ q, q = z.2 := ⟨_, rfl⟩
  obtain ⟨u1, eu1⟩ : ∃ q, q = z.1 := ⟨_, rfl⟩
  obtain ⟨e5, hc1, h0⟩ := hq
  rw [← ef1] at hP hD h0
  rw [← eu1] at hP hD hc1
  refine lv_istore (lv' := [(5, .int r5), (0, .ref b), (1, .ref (a 0)), (2, .ref (am 0)), (3, .ref o), (4, .int (nI i))]) hx hb dL_law_479 hl (by decide) rfl (fun ls hl => ?_)
  refine lv_aload_n hx hb dL_law_481 rfl (lv_at hl 3 rfl) ?_
  refine law_arg X hX hbl hbA hi hL hS hl (k0 := 1) (k4 := 5) rfl rfl (k := 1) (by decide) rfl dL_law_482 dL_law_483 dL_law_485 dL_law_486 dL_law_487 ?_
  refine law_arg X hX hbl hbA hi hL hS hl (k0 := 1) (k4 := 5) rfl rfl (k := 2) (by decide) rfl dL_law_488 dL_law_489 dL_law_491 dL_law_492 dL_law_493 ?_
  refine law_arg X hX hbl hbA hi hL hS hl (k0 := 1) (k4 := 5) rfl rfl (k := 3) (by decide) rfl dL_law_494 dL_law_495 dL_law_497 dL_law_498 dL_law_499 ?_
  refine z_pVi (Wn := fun z => lwW cI cJ cS o f1 a u1 am z) (wr := wO cJ o f1 ++ cl_X10 cI cJ cS a u1) (As := [.int (xs (i + 1)), .int (xs (i + 2)), .int (xs (i + 3))]) (rest := []) X (c_X11_put l dC dI cI cJ cS am v (xs (i + 1)) (xs (i + 2)) (xs (i + 3)) (fun q z => q = r.2.1 ∧ mG r.2.2 z ∧ z.1 = r.1) (by rw [er]; exact ⟨B, G, hok, by omega, hm, fun v1 q1 q2 => ⟨rfl, q1, q2⟩⟩) _) zc_X11_put q_ml_L_130 ⟨rfl, rfl⟩ ⟨Nat.le_of_ble_eq_true rfl, Nat.le_of_ble_eq_true rfl⟩ hP hD hS hA (List.Perm.refl _) (fun _ => List.Perm.refl _) 10 rfl rfl hl.1 rfl rfl (Nat.le_of_ble_eq_true rfl) ⟨by show cells + 2 ≤ 601024; omega, by show slots + 12 ≤ 7293034; omega⟩ dL_law_500 (fun r6 v1 H locs hq hP hD hS => ?_)
  obtain ⟨e6, hm1, hv1⟩ := hq
  refine lv_istore (lv' := [(6, .int r6), (5, .int r5), (0, .ref b), (1, .ref (a 0)), (2, .ref (am 0)), (3, .ref o), (4, .int (nI i))]) hx hb dL_law_503 hl (by decide) rfl (fun ls hl => ?_)
  exact law_tail (r := r) X (by omega) (by omega) hcs e5 h0 e6 hv1 (by rw [er]; exact og_put hok (by omega) (xs (i + 1)) (xs (i + 2)) (xs (i + 3))) hc1 hm1 hP hD hS hl dL_law_505 dL_law_506 dL_law_509 dL_law_511 dL_law_516 dL_law_518 dL_law_521 dL_law_522 dL_law_523 dL_law_524 dL_law_526 dL_law_527 dL_law_528 dL_law_533 (by decide) kk
set_option maxHeartbeats 4000000 in
set_option maxRecDepth 100000 in
theorem lawc_7 (X : zX p s m args meth c cL_law 7 ret RL dC dI cI cJ cS) (hFw : zFw A s s.heap) (hlt : l.stackTraces = false) (hX : va_X b L xs s s.heap) (hbl : b < s.heap.size) (hbA : ¬ A b) (hA : ∀ q : Nat, s.heap.size ≤ q → A q) (hi : i + 6 ≤ L) (hL : L ≤ 3072) (hok : okG B G) (hB : B + 400 ≤ 400000) (hc : cG G u) (hm : mG G v) (hP : va_P (dC, dI) vwCl (lwW cI cJ cS o f a u am v) H) (hD : va_D A (lwW cI cJ cS o f a u am v)) (hS : va_S A s.heap H locs) (hl : lv_has ls 7 [(0, .ref b), (1, .ref (a 0)), (2, .ref (am 0)), (3, .ref o), (4, .int (nI i))]) (hcs : cells + 3 ≤ 601024 ∧ slots + 18 ≤ 7293034)
    (kk : ∀ (G' : zG) (u' : zCls) (v' : zModel) (f' : Nat → Int64) (H' : Heap) (locs' : List Loc) (ls' : Array Slot), okG (B + 280) G' → cG G' u' → mG G' v' → va_P (dC, dI) vwCl (lwW cI cJ cS o f' a u' am v') H' → va_D A (lwW cI cJ cS o f' a u' am v') → va_S A s.heap H' locs' → lv_has ls' 7 [(0, .ref b), (1, .ref (a 0)), (2, .ref (am 0)), (3, .ref o), (4, .int (nI i))] → W p l e room_1 s m args below meth c H' locs' (cells + 3) (slots + 18) Q (F0 m 1942 ls' [])) : W p l e room_1 s m args below meth c H locs cells slots Q (F0 m 536 ls []) := by
  obtain ⟨⟨hx, hb, hml, hown, hts⟩, hr, hlk, hK⟩ := id X
  refine lv_aload_n hx hb dL_law_536 rfl (lv_at hl 1 rfl) ?_
  refine law_arg X hX hbl hbA hi hL hS hl (k0 := 0) (k4 := 4) rfl rfl (k := 1) (by decide) rfl dL_law_537 dL_law_538 dL_law_540 dL_law_541 dL_law_542 ?_
  refine lv_aload_n hx hb dL_law_543 rfl (lv_at hl 3 rfl) ?_
  obtain ⟨r, er⟩ : ∃ r : Int32 × Int32 × zG, r = (fDrop G (xs (i + 1))) := ⟨_, rfl⟩
  refine z_wL (Wf := fun z : zCls × (Nat → Int64) => wO cJ o z.2 ++ cl_X10 cI cJ cS a z.1) (Wn := fun z : zCls × (Nat → Int64) => lwW cI cJ cS o z.2 a z.1 am v) (wr := cl_X11 cI cJ am v) (As := [.ref (a 0), .int (xs (i + 1)), .ref o]) (rest := []) X fro_Fw hFw (c_L_drop l hlt dC dI cI cJ cS a u o f (xs (i + 1)) (lQ r) (by rw [er]; exact ⟨B, G, hok, by omega, hc, co2 (r := (fDrop G (xs (i + 1)))) (fc_drop G (xs (i + 1)))⟩) _) w_cw_drop q_ml_L_131 ⟨rfl, rfl⟩ ⟨Nat.le_of_ble_eq_true rfl, Nat.le_of_ble_eq_true rfl⟩ hP hD hS hA List.perm_append_comm (fun _ => List.perm_append_comm) hl.1 rfl rfl (Nat.le_of_ble_eq_true rfl) ⟨by show cells + 2 ≤ 601024; omega, by show slots + 12 ≤ 7293034; omega⟩ dL_law_544 (fun r5 z H locs hq hP hD hS => ?_)
  obtain ⟨f1, ef1⟩ : ∃ q, q = z.2 := ⟨_, rfl⟩
  obtain ⟨u1, eu1⟩ : ∃ q, q = z.1 := ⟨_, rfl⟩
  obtain ⟨e5, hc1, h0⟩ := hq
  rw [← ef1] at hP hD h0
  rw [← eu1] at hP hD hc1
  refine lv_istore (lv' := [(5, .int r5), (0, .ref b), (1, .ref (a 0)), (2, .ref (am 0)), (3, .ref o), (4, .int (nI i))]) hx hb dL_law_547 hl (by decide) rfl (fun ls hl => ?_)
  refine lv_aload_n hx hb dL_law_549 rfl (lv_at hl 3 rfl) ?_
  refine law_arg X hX hbl hbA hi hL hS hl (k0 := 1) (k4 := 5) rfl rfl (k := 1) (by decide) rfl dL_law_550 dL_law_551 dL_law_553 dL_law_554 dL_law_555 ?_
  refine z_pVi (Wn := fun z => lwW cI cJ cS o f1 a u1 am z) (wr := wO cJ o f1 ++ cl_X10 cI cJ cS a u1) (As := [.int (xs (i + 1))]) (rest := []) X (c_X11_drop l dC dI cI cJ cS am v (xs (i + 1)) (fun q z => q = r.2.1 ∧ mG r.2.2 z ∧ z.1 = r.1) (by rw [er]; exact ⟨B, G, hok, by omega, hm, fun v1 q1 q2 => ⟨rfl, q1, q2⟩⟩) _) zc_X11_drop q_ml_L_134 ⟨rfl, rfl⟩ ⟨Nat.le_of_ble_eq_true rfl, Nat.le_of_ble_eq_true rfl⟩ hP hD hS hA (List.Perm.refl _) (fun _ => List.Perm.refl _) 10 rfl rfl hl.1 rfl rfl (Nat.le_of_ble_eq_true rfl) ⟨by show cells + 2 ≤ 601024; omega, by show slots + 12 ≤ 7293034; omega⟩ dL_law_556 (fun r6 v1 H locs hq hP hD hS => ?_)
  obtain ⟨e6, hm1, hv1⟩ := hq
  refine lv_istore (lv' := [(6, .int r6), (5, .int r5), (0, .ref b), (1, .ref (a 0)), (2, .ref (am 0)), (3, .ref o), (4, .int (nI i))]) hx hb dL_law_559 hl (by decide) rfl (fun ls hl => ?_)
  exact law_tail (r := r) X (by omega) (by omega) hcs e5 h0 e6 hv1 (by rw [er]; exact og_drop hok (by omega) (xs (i + 1))) hc1 hm1 hP hD hS hl dL_law_561 dL_law_562 dL_law_565 dL_law_567 dL_law_572 dL_law_574 dL_law_577 dL_law_578 dL_law_579 dL_law_580 dL_law_582 dL_law_583 dL_law_584 dL_law_589 (by decide) kk
set_option maxHeartbeats 4000000 in
set_option maxRecDepth 100000 in
theorem lawc_8 (X : zX p s m args meth c cL_law 7 ret RL dC dI cI cJ cS) (hFw : zFw A s s.heap) (hlt : l.stackTraces = false) (hX : va_X b L xs s s.heap) (hbl : b < s.heap.size) (hbA : ¬ A b) (hA : ∀ q : Nat, s.heap.size ≤ q → A q) (hi : i + 6 ≤ L) (hL : L ≤ 3072) (hok : okG B G) (hB : B + 400 ≤ 400000) (hc : cG G u) (hm : mG G v) (hP : va_P (dC, dI) vwCl (lwW cI cJ cS o f a u am v) H) (hD : va_D A (lwW cI cJ cS o f a u am v)) (hS : va_S A s.heap H locs) (hl : lv_has ls 7 [(0, .ref b), (1, .ref (a 0)), (2, .ref (am 0)), (3, .ref o), (4, .int (nI i))]) (hcs : cells + 3 ≤ 601024 ∧ slots + 18 ≤ 7293034)
    (kk : ∀ (G' : zG) (u' : zCls) (v' : zModel) (f' : Nat → Int64) (H' : Heap) (locs' : List Loc) (ls' : Array Slot), okG (B + 280) G' → cG G' u' → mG G' v' → va_P (dC, dI) vwCl (lwW cI cJ cS o f' a u' am v') H' → va_D A (lwW cI cJ cS o f' a u' am v') → va_S A s.heap H' locs' → lv_has ls' 7 [(0, .ref b), (1, .ref (a 0)), (2, .ref (am 0)), (3, .ref o), (4, .int (nI i))] → W p l e room_1 s m args below meth c H' locs' (cells + 3) (slots + 18) Q (F0 m 1942 ls' [])) : W p l e room_1 s m args below meth c H locs cells slots Q (F0 m 592 ls []) := by
  obtain ⟨⟨hx, hb, hml, hown, hts⟩, hr, hlk, hK⟩ := id X
  refine lv_aload_n hx hb dL_law_592 rfl (lv_at hl 1 rfl) ?_
  refine z_pVi (Wn := fun z => lwW cI cJ cS o f a z am v) (wr := wO cJ o f ++ cl_X11 cI cJ am v) (As := []) (rest := []) X (c_X10_sync l dC dI cI cJ cS a u  (fun q z => q = (fSync G ).2.1 ∧ cG (fSync G ).2.2 z) (⟨B, G, hok, by omega, hc, fun u1 q1 => ⟨rfl, q1⟩⟩) _) zc_X10_sync q_ml_L_135 ⟨rfl, rfl⟩ ⟨Nat.le_of_ble_eq_true rfl, Nat.le_of_ble_eq_true rfl⟩ hP hD hS hA (px_l _ _ _) (fun _ => px_l _ _ _) 9 rfl rfl hl.1 rfl rfl (Nat.le_of_ble_eq_true rfl) ⟨by show cells ≤ 601024; omega, by show slots ≤ 7293034; omega⟩ dL_law_593 (fun r5 u1 H locs hq hP hD hS => ?_)
  obtain ⟨e5, hc1⟩ := hq
  refine lv_aload_n hx hb dL_law_596 rfl (lv_at hl 2 rfl) ?_
  refine z_pVi (Wn := fun z => lwW cI cJ cS o f a u1 am z) (wr := wO cJ o f ++ cl_X10 cI cJ cS a u1) (As := []) (rest := [.int r5]) X (c_X11_sync l dC dI cI cJ cS am v  (fun q z => q = (fSync G ).2.1 ∧ mG (fSync G ).2.2 z) (⟨B, G, hok, hm, fun v1 q1 _ => ⟨rfl, q1⟩⟩) _) zc_X11_sync q_ml_L_138 ⟨rfl, rfl⟩ ⟨Nat.le_of_ble_eq_true rfl, Nat.le_of_ble_eq_true rfl⟩ hP hD hS hA (List.Perm.refl _) (fun _ => List.Perm.refl _) 10 rfl rfl hl.1 rfl rfl (Nat.le_of_ble_eq_true rfl) ⟨by show cells ≤ 601024; omega, by show slots ≤ 7293034; omega⟩ dL_law_597 (fun r6 v1 H locs hq hP hD hS => ?_)
  obtain ⟨e6, hm1⟩ := hq
  refine lv_icmp_eq (tgt := 1942) hx hb dL_law_600 (by decide) (fun _ => ?_) (fun h => absurd (e5.trans e6.symm) h)
  exact W.widen (by omega) (by omega) (kk (fSync G ).2.2 u1 v1 f H locs ls (og_sync hok (by omega) ) hc1 hm1 hP hD hS hl)
set_option maxHeartbeats 4000000 in
set_option maxRecDepth 100000 in
theorem lawc_9 (X : zX p s m args meth c cL_law 7 ret RL dC dI cI cJ cS) (hFw : zFw A s s.heap) (hlt : l.stackTraces = false) (hX : va_X b L xs s s.heap) (hbl : b < s.heap.size) (hbA : ¬ A b) (hA : ∀ q : Nat, s.heap.size ≤ q → A q) (hi : i + 6 ≤ L) (hL : L ≤ 3072) (hok : okG B G) (hB : B + 400 ≤ 400000) (hc : cG G u) (hm : mG G v) (hP : va_P (dC, dI) vwCl (lwW cI cJ cS o f a u am v) H) (hD : va_D A (lwW cI cJ cS o f a u am v)) (hS : va_S A s.heap H locs) (hl : lv_has ls 7 [(0, .ref b), (1, .ref (a 0)), (2, .ref (am 0)), (3, .ref o), (4, .int (nI i))]) (hcs : cells + 3 ≤ 601024 ∧ slots + 18 ≤ 7293034)
    (kk : ∀ (G' : zG) (u' : zCls) (v' : zModel) (f' : Nat → Int64) (H' : Heap) (locs' : List Loc) (ls' : Array Slot), okG (B + 280) G' → cG G' u' → mG G' v' → va_P (dC, dI) vwCl (lwW cI cJ cS o f' a u' am v') H' → va_D A (lwW cI cJ cS o f' a u' am v') → va_S A s.heap H' locs' → lv_has ls' 7 [(0, .ref b), (1, .ref (a 0)), (2, .ref (am 0)), (3, .ref o), (4, .int (nI i))] → W p l e room_1 s m args below meth c H' locs' (cells + 3) (slots + 18) Q (F0 m 1942 ls' [])) : W p l e room_1 s m args below meth c H locs cells slots Q (F0 m 605 ls []) := by
  obtain ⟨⟨hx, hb, hml, hown, hts⟩, hr, hlk, hK⟩ := id X
  refine lv_aload_n hx hb dL_law_605 rfl (lv_at hl 1 rfl) ?_
  refine z_pVi (Wn := fun z => lwW cI cJ cS o f a z am v) (wr := wO cJ o f ++ cl_X11 cI cJ am v) (As := []) (rest := []) X (c_X10_flush l dC dI cI cJ cS a u  (fun q z => q = (fFlush G ).2.1 ∧ cG (fFlush G ).2.2 z) (⟨B, G, hok, by omega, hc, fun u1 q1 => ⟨rfl, q1⟩⟩) _) zc_X10_flush q_ml_L_139 ⟨rfl, rfl⟩ ⟨Nat.le_of_ble_eq_true rfl, Nat.le_of_ble_eq_true rfl⟩ hP hD hS hA (px_l _ _ _) (fun _ => px_l _ _ _) 9 rfl rfl hl.1 rfl rfl (Nat.le_of_ble_eq_true rfl) ⟨by show cells ≤ 601024; omega, by show slots ≤ 7293034; omega⟩ dL_law_606 (fun r5 u1 H locs hq hP hD hS => ?_)
  obtain ⟨e5, hc1⟩ := hq
  refine lv_aload_n hx hb dL_law_609 rfl (lv_at hl 2 rfl) ?_
  refine z_pVi (Wn := fun z => lwW cI cJ cS o f a u1 am z) (wr := wO cJ o f ++ cl_X10 cI cJ cS a u1) (As := []) (rest := [.int r5]) X (c_X11_flush l dC dI cI cJ cS am v  (fun q z => q = (fFlush G ).2.1 ∧ mG (fFlush G ).2.2 z) (⟨B, G, hok, hm, fun v1 q1 _ => ⟨rfl, q1⟩⟩) _) zc_X11_flush q_ml_L_142 ⟨rfl, rfl⟩ ⟨Nat.le_of_ble_eq_true rfl, Nat.le_of_ble_eq_true rfl⟩ hP hD hS hA (List.Perm.refl _) (fun _ => List.Perm.refl _) 10 rfl rfl hl.1 rfl rfl (Nat.le_of_ble_eq_true rfl) ⟨by show cells ≤ 601024; omega, by show slots ≤ 7293034; omega⟩ dL_law_610 (fun r6 v1 H locs hq hP hD hS => ?_)
  obtain ⟨e6, hm1⟩ := hq
  refine lv_icmp_eq (tgt := 1942) hx hb dL_law_613 (by decide) (fun _ => ?_) (fun h => absurd (e5.trans e6.symm) h)
  exact W.widen (by omega) (by omega) (kk (fFlush G ).2.2 u1 v1 f H locs ls (og_flush hok (by omega) ) hc1 hm1 hP hD hS hl)
set_option maxHeartbeats 4000000 in
set_option maxRecDepth 100000 in
theorem lawc_10 (X : zX p s m args meth c cL_law 7 ret RL dC dI cI cJ cS) (hFw : zFw A s s.heap) (hlt : l.stackTraces = false) (hX : va_X b L xs s s.heap) (hbl : b < s.heap.size) (hbA : ¬ A b) (hA : ∀ q : Nat, s.heap.size ≤ q → A q) (hi : i + 6 ≤ L) (hL : L ≤ 3072) (hok : okG B G) (hB : B + 400 ≤ 400000) (hc : cG G u) (hm : mG G v) (hP : va_P (dC, dI) vwCl (lwW cI cJ cS o f a u am v) H) (hD : va_D A (lwW cI cJ cS o f a u am v)) (hS : va_S A s.heap H locs) (hl : lv_has ls 7 [(0, .ref b), (1, .ref (a 0)), (2, .ref (am 0)), (3, .ref o), (4, .int (nI i))]) (hcs : cells + 3 ≤ 601024 ∧ slots + 18 ≤ 7293034)
    (kk : ∀ (G' : zG) (u' : zCls) (v' : zModel) (f' : Nat → Int64) (H' : Heap) (locs' : List Loc) (ls' : Array Slot), okG (B + 280) G' → cG G' u' → mG G' v' → va_P (dC, dI) vwCl (lwW cI cJ cS o f' a u' am v') H' → va_D A (lwW cI cJ cS o f' a u' am v') → va_S A s.heap H' locs' → lv_has ls' 7 [(0, .ref b), (1, .ref (a 0)), (2, .ref (am 0)), (3, .ref o), (4, .int (nI i))] → W p l e room_1 s m args below meth c H' locs' (cells + 3) (slots + 18) Q (F0 m 1942 ls' [])) : W p l e room_1 s m args below meth c H locs cells slots Q (F0 m 618 ls []) := by
  obtain ⟨⟨hx, hb, hml, hown, hts⟩, hr, hlk, hK⟩ := id X
  refine lv_aload_n hx hb dL_law_618 rfl (lv_at hl 1 rfl) ?_
  refine z_pVi (Wn := fun z => lwW cI cJ cS o f a z am v) (wr := wO cJ o f ++ cl_X11 cI cJ am v) (As := []) (rest := []) X (c_X10_merge l dC dI cI cJ cS a u  (fun q z => q = (fMerge G ).2.1 ∧ cG (fMerge G ).2.2 z) (⟨B, G, hok, by omega, hc, fun u1 q1 => ⟨rfl, q1⟩⟩) _) zc_X10_merge q_ml_L_143 ⟨rfl, rfl⟩ ⟨Nat.le_of_ble_eq_true rfl, Nat.le_of_ble_eq_true rfl⟩ hP hD hS hA (px_l _ _ _) (fun _ => px_l _ _ _) 9 rfl rfl hl.1 rfl rfl (Nat.le_of_ble_eq_true rfl) ⟨by show cells ≤ 601024; omega, by show slots ≤ 7293034; omega⟩ dL_law_619 (fun r5 u1 H locs hq hP hD hS => ?_)
  obtain ⟨e5, hc1⟩ := hq
  refine lv_aload_n hx hb dL_law_622 rfl (lv_at hl 2 rfl) ?_
  refine z_pVi (Wn := fun z => lwW cI cJ cS o f a u1 am z) (wr := wO cJ o f ++ cl_X10 cI cJ cS a u1) (As := []) (rest := [.int r5]) X (c_X11_merge l dC dI cI cJ cS am v  (fun q z => q = (fMerge G ).2.1 ∧ mG (fMerge G ).2.2 z) (⟨B, G, hok, hm, fun v1 q1 _ => ⟨rfl, q1⟩⟩) _) zc_X11_merge q_ml_L_146 ⟨rfl, rfl⟩ ⟨Nat.le_of_ble_eq_true rfl, Nat.le_of_ble_eq_true rfl⟩ hP hD hS hA (List.Perm.refl _) (fun _ => List.Perm.refl _) 10 rfl rfl hl.1 rfl rfl (Nat.le_of_ble_eq_true rfl) ⟨by show cells ≤ 601024; omega, by show slots ≤ 7293034; omega⟩ dL_law_623 (fun r6 v1 H locs hq hP hD hS => ?_)
  obtain ⟨e6, hm1⟩ := hq
  refine lv_icmp_eq (tgt := 1942) hx hb dL_law_626 (by decide) (fun _ => ?_) (fun h => absurd (e5.trans e6.symm) h)
  exact W.widen (by omega) (by omega) (kk (fMerge G ).2.2 u1 v1 f H locs ls (og_merge hok (by omega) ) hc1 hm1 hP hD hS hl)
set_option maxHeartbeats 4000000 in
set_option maxRecDepth 100000 in
theorem lawc_11 (X : zX p s m args meth c cL_law 7 ret RL dC dI cI cJ cS) (hFw : zFw A s s.heap) (hlt : l.stackTraces = false) (hX : va_X b L xs s s.heap) (hbl : b < s.heap.size) (hbA : ¬ A b) (hA : ∀ q : Nat, s.heap.size ≤ q → A q) (hi : i + 6 ≤ L) (hL : L ≤ 3072) (hok : okG B G) (hB : B + 400 ≤ 400000) (hc : cG G u) (hm : mG G v) (hP : va_P (dC, dI) vwCl (lwW cI cJ cS o f a u am v) H) (hD : va_D A (lwW cI cJ cS o f a u am v)) (hS : va_S A s.heap H locs) (hl : lv_has ls 7 [(0, .ref b), (1, .ref (a 0)), (2, .ref (am 0)), (3, .ref o), (4, .int (nI i))]) (hcs : cells + 3 ≤ 601024 ∧ slots + 18 ≤ 7293034)
    (kk : ∀ (G' : zG) (u' : zCls) (v' : zModel) (f' : Nat → Int64) (H' : Heap) (locs' : List Loc) (ls' : Array Slot), okG (B + 280) G' → cG G' u' → mG G' v' → va_P (dC, dI) vwCl (lwW cI cJ cS o f' a u' am v') H' → va_D A (lwW cI cJ cS o f' a u' am v') → va_S A s.heap H' locs' → lv_has ls' 7 [(0, .ref b), (1, .ref (a 0)), (2, .ref (am 0)), (3, .ref o), (4, .int (nI i))] → W p l e room_1 s m args below meth c H' locs' (cells + 3) (slots + 18) Q (F0 m 1942 ls' [])) : W p l e room_1 s m args below meth c H locs cells slots Q (F0 m 631 ls []) := by
  obtain ⟨⟨hx, hb, hml, hown, hts⟩, hr, hlk, hK⟩ := id X
  refine lv_aload_n hx hb dL_law_631 rfl (lv_at hl 1 rfl) ?_
  refine z_pVi (Wn := fun z => lwW cI cJ cS o f a z am v) (wr := wO cJ o f ++ cl_X11 cI cJ am v) (As := []) (rest := []) X (c_X10_crash l dC dI cI cJ cS a u  (fun q z => q = (fCrash G ).2.1 ∧ cG (fCrash G ).2.2 z) (⟨B, G, hok, by omega, hc, fun u1 q1 => ⟨rfl, q1⟩⟩) _) zc_X10_crash q_ml_L_147 ⟨rfl, rfl⟩ ⟨Nat.le_of_ble_eq_true rfl, Nat.le_of_ble_eq_true rfl⟩ hP hD hS hA (px_l _ _ _) (fun _ => px_l _ _ _) 9 rfl rfl hl.1 rfl rfl (Nat.le_of_ble_eq_true rfl) ⟨by show cells ≤ 601024; omega, by show slots ≤ 7293034; omega⟩ dL_law_632 (fun r5 u1 H locs hq hP hD hS => ?_)
  obtain ⟨e5, hc1⟩ := hq
  refine lv_aload_n hx hb dL_law_635 rfl (lv_at hl 2 rfl) ?_
  refine z_pVi (Wn := fun z => lwW cI cJ cS o f a u1 am z) (wr := wO cJ o f ++ cl_X10 cI cJ cS a u1) (As := []) (rest := [.int r5]) X (c_X11_crash l dC dI cI cJ cS am v  (fun q z => q = (fCrash G ).2.1 ∧ mG (fCrash G ).2.2 z) (⟨B, G, hok, hm, fun v1 q1 _ => ⟨rfl, q1⟩⟩) _) zc_X11_crash q_ml_L_150 ⟨rfl, rfl⟩ ⟨Nat.le_of_ble_eq_true rfl, Nat.le_of_ble_eq_true rfl⟩ hP hD hS hA (List.Perm.refl _) (fun _ => List.Perm.refl _) 10 rfl rfl hl.1 rfl rfl (Nat.le_of_ble_eq_true rfl) ⟨by show cells ≤ 601024; omega, by show slots ≤ 7293034; omega⟩ dL_law_636 (fun r6 v1 H locs hq hP hD hS => ?_)
  obtain ⟨e6, hm1⟩ := hq
  refine lv_icmp_eq (tgt := 1942) hx hb dL_law_639 (by decide) (fun _ => ?_) (fun h => absurd (e5.trans e6.symm) h)
  exact W.widen (by omega) (by omega) (kk (fCrash G ).2.2 u1 v1 f H locs ls (og_crash hok (by omega) ) hc1 hm1 hP hD hS hl)
set_option maxHeartbeats 4000000 in
set_option maxRecDepth 100000 in
theorem lawc_12 (X : zX p s m args meth c cL_law 7 ret RL dC dI cI cJ cS) (hFw : zFw A s s.heap) (hlt : l.stackTraces = false) (hX : va_X b L xs s s.heap) (hbl : b < s.heap.size) (hbA : ¬ A b) (hA : ∀ q : Nat, s.heap.size ≤ q → A q) (hi : i + 6 ≤ L) (hL : L ≤ 3072) (hok : okG B G) (hB : B + 400 ≤ 400000) (hc : cG G u) (hm : mG G v) (hP : va_P (dC, dI) vwCl (lwW cI cJ cS o f a u am v) H) (hD : va_D A (lwW cI cJ cS o f a u am v)) (hS : va_S A s.heap H locs) (hl : lv_has ls 7 [(0, .ref b), (1, .ref (a 0)), (2, .ref (am 0)), (3, .ref o), (4, .int (nI i))]) (hcs : cells + 3 ≤ 601024 ∧ slots + 18 ≤ 7293034)
    (kk : ∀ (G' : zG) (u' : zCls) (v' : zModel) (f' : Nat → Int64) (H' : Heap) (locs' : List Loc) (ls' : Array Slot), okG (B + 280) G' → cG G' u' → mG G' v' → va_P (dC, dI) vwCl (lwW cI cJ cS o f' a u' am v') H' → va_D A (lwW cI cJ cS o f' a u' am v') → va_S A s.heap H' locs' → lv_has ls' 7 [(0, .ref b), (1, .ref (a 0)), (2, .ref (am 0)), (3, .ref o), (4, .int (nI i))] → W p l e room_1 s m args below meth c H' locs' (cells + 3) (slots + 18) Q (F0 m 1942 ls' [])) : W p l e room_1 s m args below meth c H locs cells slots Q (F0 m 644 ls []) := by
  obtain ⟨⟨hx, hb, hml, hown, hts⟩, hr, hlk, hK⟩ := id X
  refine lv_aload_n hx hb dL_law_644 rfl (lv_at hl 1 rfl) ?_
  refine law_arg X hX hbl hbA hi hL hS hl (k0 := 0) (k4 := 4) rfl rfl (k := 1) (by decide) rfl dL_law_645 dL_law_646 dL_law_648 dL_law_649 dL_law_650 ?_
  refine lv_aload_n hx hb dL_law_651 rfl (lv_at hl 3 rfl) ?_
  obtain ⟨r, er⟩ : ∃ r : Int32 × Int32 × zG, r = (fPick G (xs (i + 1))) := ⟨_, rfl⟩
  refine z_wL (Wf := fun z : zCls × (Nat → Int64) => wO cJ o z.2 ++ cl_X10 cI cJ cS a z.1) (Wn := fun z : zCls × (Nat → Int64) => lwW cI cJ cS o z.2 a z.1 am v) (wr := cl_X11 cI cJ am v) (As := [.ref (a 0), .int (xs (i + 1)), .ref o]) (rest := []) X fro_Fw hFw (c_L_pick l hlt dC dI cI cJ cS a u o f (xs (i + 1)) (lQ r) (by rw [er]; exact ⟨B, G, hok, by omega, hc, co2 (r := (fPick G (xs (i + 1)))) (fc_pick G (xs (i + 1)))⟩) _) w_cw_pick q_ml_L_151 ⟨rfl, rfl⟩ ⟨Nat.le_of_ble_eq_true rfl, Nat.le_of_ble_eq_true rfl⟩ hP hD hS hA List.perm_append_comm (fun _ => List.perm_append_comm) hl.1 rfl rfl (Nat.le_of_ble_eq_true rfl) ⟨by show cells + 2 ≤ 601024; omega, by show slots + 12 ≤ 7293034; omega⟩ dL_law_652 (fun r5 z H locs hq hP hD hS => ?_)
  obtain ⟨f1, ef1⟩ : ∃ q, q = z.2 := ⟨_, rfl⟩
  obtain ⟨u1, eu1⟩ : ∃ q, q = z.1 := ⟨_, rfl⟩
  obtain ⟨e5, hc1, h0⟩ := hq
  rw [← ef1] at hP hD h0
  rw [← eu1] at hP hD hc1
  refine lv_istore (lv' := [(5, .int r5), (0, .ref b), (1, .ref (a 0)), (2, .ref (am 0)), (3, .ref o), (4, .int (nI i))]) hx hb dL_law_655 hl (by decide) rfl (fun ls hl => ?_)
  refine lv_aload_n hx hb dL_law_657 rfl (lv_at hl 3 rfl) ?_
  refine law_arg X hX hbl hbA hi hL hS hl (k0 := 1) (k4 := 5) rfl rfl (k := 1) (by decide) rfl dL_law_658 dL_law_659 dL_law_661 dL_law_662 dL_law_663 ?_
  refine z_pVi (Wn := fun z => lwW cI cJ cS o f1 a u1 am z) (wr := wO cJ o f1 ++ cl_X10 cI cJ cS a u1) (As := [.int (xs (i + 1))]) (rest := []) X (c_X11_pick l dC dI cI cJ cS am v (xs (i + 1)) (fun q z => q = r.2.1 ∧ mG r.2.2 z ∧ z.1 = r.1) (by rw [er]; exact ⟨B, G, hok, hm, fun v1 q1 q2 => ⟨rfl, q1, q2⟩⟩) _) zc_X11_pick q_ml_L_153 ⟨rfl, rfl⟩ ⟨Nat.le_of_ble_eq_true rfl, Nat.le_of_ble_eq_true rfl⟩ hP hD hS hA (List.Perm.refl _) (fun _ => List.Perm.refl _) 10 rfl rfl hl.1 rfl rfl (Nat.le_of_ble_eq_true rfl) ⟨by show cells + 2 ≤ 601024; omega, by show slots + 12 ≤ 7293034; omega⟩ dL_law_664 (fun r6 v1 H locs hq hP hD hS => ?_)
  obtain ⟨e6, hm1, hv1⟩ := hq
  refine lv_istore (lv' := [(6, .int r6), (5, .int r5), (0, .ref b), (1, .ref (a 0)), (2, .ref (am 0)), (3, .ref o), (4, .int (nI i))]) hx hb dL_law_667 hl (by decide) rfl (fun ls hl => ?_)
  exact law_tail (r := r) X (by omega) (by omega) hcs e5 h0 e6 hv1 (by rw [er]; exact og_pick hok (by omega) (xs (i + 1))) hc1 hm1 hP hD hS hl dL_law_669 dL_law_670 dL_law_673 dL_law_675 dL_law_680 dL_law_682 dL_law_685 dL_law_686 dL_law_687 dL_law_688 dL_law_690 dL_law_691 dL_law_692 dL_law_697 (by decide) kk
set_option maxHeartbeats 4000000 in
set_option maxRecDepth 100000 in
theorem lawc_13 (X : zX p s m args meth c cL_law 7 ret RL dC dI cI cJ cS) (hFw : zFw A s s.heap) (hlt : l.stackTraces = false) (hX : va_X b L xs s s.heap) (hbl : b < s.heap.size) (hbA : ¬ A b) (hA : ∀ q : Nat, s.heap.size ≤ q → A q) (hi : i + 6 ≤ L) (hL : L ≤ 3072) (hok : okG B G) (hB : B + 400 ≤ 400000) (hc : cG G u) (hm : mG G v) (hP : va_P (dC, dI) vwCl (lwW cI cJ cS o f a u am v) H) (hD : va_D A (lwW cI cJ cS o f a u am v)) (hS : va_S A s.heap H locs) (hl : lv_has ls 7 [(0, .ref b), (1, .ref (a 0)), (2, .ref (am 0)), (3, .ref o), (4, .int (nI i))]) (hcs : cells + 3 ≤ 601024 ∧ slots + 18 ≤ 7293034)
    (kk : ∀ (G' : zG) (u' : zCls) (v' : zModel) (f' : Nat → Int64) (H' : Heap) (locs' : List Loc) (ls' : Array Slot), okG (B + 280) G' → cG G' u' → mG G' v' → va_P (dC, dI) vwCl (lwW cI cJ cS o f' a u' am v') H' → va_D A (lwW cI cJ cS o f' a u' am v') → va_S A s.heap H' locs' → lv_has ls' 7 [(0, .ref b), (1, .ref (a 0)), (2, .ref (am 0)), (3, .ref o), (4, .int (nI i))] → W p l e room_1 s m args below meth c H' locs' (cells + 3) (slots + 18) Q (F0 m 1942 ls' [])) : W p l e room_1 s m args below meth c H locs cells slots Q (F0 m 700 ls []) := by
  obtain ⟨⟨hx, hb, hml, hown, hts⟩, hr, hlk, hK⟩ := id X
  refine lv_aload_n hx hb dL_law_700 rfl (lv_at hl 1 rfl) ?_
  refine law_arg X hX hbl hbA hi hL hS hl (k0 := 0) (k4 := 4) rfl rfl (k := 1) (by decide) rfl dL_law_701 dL_law_702 dL_law_704 dL_law_705 dL_law_706 ?_
  refine lv_aload_n hx hb dL_law_707 rfl (lv_at hl 3 rfl) ?_
  obtain ⟨r, er⟩ : ∃ r : Int32 × Int32 × zG, r = (fStep G (xs (i + 1))) := ⟨_, rfl⟩
  refine z_wL (Wf := fun z : zCls × (Nat → Int64) => wO cJ o z.2 ++ cl_X10 cI cJ cS a z.1) (Wn := fun z : zCls × (Nat → Int64) => lwW cI cJ cS o z.2 a z.1 am v) (wr := cl_X11 cI cJ am v) (As := [.ref (a 0), .int (xs (i + 1)), .ref o]) (rest := []) X fro_Fw hFw (c_L_step l hlt dC dI cI cJ cS a u o f (xs (i + 1)) (lQ r) (by rw [er]; exact ⟨B, G, hok, by omega, hc, co2 (r := (fStep G (xs (i + 1)))) (fc_step G (xs (i + 1)))⟩) _) w_cw_step q_ml_L_154 ⟨rfl, rfl⟩ ⟨Nat.le_of_ble_eq_true rfl, Nat.le_of_ble_eq_true rfl⟩ hP hD hS hA List.perm_append_comm (fun _ => List.perm_append_comm) hl.1 rfl rfl (Nat.le_of_ble_eq_true rfl) ⟨by show cells + 1 ≤ 601024; omega, by show slots + 6 ≤ 7293034; omega⟩ dL_law_708 (fun r5 z H locs hq hP hD hS => ?_)
  obtain ⟨f1, ef1⟩ : ∃ q, q = z.2 := ⟨_, rfl⟩
  obtain ⟨u1, eu1⟩ : ∃ q, q = z.1 := ⟨_, rfl⟩
  obtain ⟨e5, hc1, h0⟩ := hq
  rw [← ef1] at hP hD h0
  rw [← eu1] at hP hD hc1
  refine lv_istore (lv' := [(5, .int r5), (0, .ref b), (1, .ref (a 0)), (2, .ref (am 0)), (3, .ref o), (4, .int (nI i))]) hx hb dL_law_711 hl (by decide) rfl (fun ls hl => ?_)
  refine lv_aload_n hx hb dL_law_713 rfl (lv_at hl 3 rfl) ?_
  refine law_arg X hX hbl hbA hi hL hS hl (k0 := 1) (k4 := 5) rfl rfl (k := 1) (by decide) rfl dL_law_714 dL_law_715 dL_law_717 dL_law_718 dL_law_719 ?_
  refine z_pVi (Wn := fun z => lwW cI cJ cS o f1 a u1 am z) (wr := wO cJ o f1 ++ cl_X10 cI cJ cS a u1) (As := [.int (xs (i + 1))]) (rest := []) X (c_X11_step l dC dI cI cJ cS am v (xs (i + 1)) (fun q z => q = r.2.1 ∧ mG r.2.2 z ∧ z.1 = r.1) (by rw [er]; exact ⟨B, G, hok, by omega, hm, fun v1 q1 q2 => ⟨rfl, q1, q2⟩⟩) _) zc_X11_step q_ml_L_156 ⟨rfl, rfl⟩ ⟨Nat.le_of_ble_eq_true rfl, Nat.le_of_ble_eq_true rfl⟩ hP hD hS hA (List.Perm.refl _) (fun _ => List.Perm.refl _) 10 rfl rfl hl.1 rfl rfl (Nat.le_of_ble_eq_true rfl) ⟨by show cells + 1 ≤ 601024; omega, by show slots + 6 ≤ 7293034; omega⟩ dL_law_720 (fun r6 v1 H locs hq hP hD hS => ?_)
  obtain ⟨e6, hm1, hv1⟩ := hq
  refine lv_istore (lv' := [(6, .int r6), (5, .int r5), (0, .ref b), (1, .ref (a 0)), (2, .ref (am 0)), (3, .ref o), (4, .int (nI i))]) hx hb dL_law_723 hl (by decide) rfl (fun ls hl => ?_)
  exact law_tail (r := r) X (by omega) (by omega) hcs e5 h0 e6 hv1 (by rw [er]; exact og_step hok (by omega) (xs (i + 1))) hc1 hm1 hP hD hS hl dL_law_725 dL_law_726 dL_law_729 dL_law_731 dL_law_736 dL_law_738 dL_law_741 dL_law_742 dL_law_743 dL_law_744 dL_law_746 dL_law_747 dL_law_748 dL_law_753 (by decide) kk
set_option maxHeartbeats 4000000 in
set_option maxRecDepth 100000 in
theorem lawc_14 (X : zX p s m args meth c cL_law 7 ret RL dC dI cI cJ cS) (hFw : zFw A s s.heap) (hlt : l.stackTraces = false) (hX : va_X b L xs s s.heap) (hbl : b < s.heap.size) (hbA : ¬ A b) (hA : ∀ q : Nat, s.heap.size ≤ q → A q) (hi : i + 6 ≤ L) (hL : L ≤ 3072) (hok : okG B G) (hB : B + 400 ≤ 400000) (hc : cG G u) (hm : mG G v) (hP : va_P (dC, dI) vwCl (lwW cI cJ cS o f a u am v) H) (hD : va_D A (lwW cI cJ cS o f a u am v)) (hS : va_S A s.heap H locs) (hl : lv_has ls 7 [(0, .ref b), (1, .ref (a 0)), (2, .ref (am 0)), (3, .ref o), (4, .int (nI i))]) (hcs : cells + 3 ≤ 601024 ∧ slots + 18 ≤ 7293034)
    (kk : ∀ (G' : zG) (u' : zCls) (v' : zModel) (f' : Nat → Int64) (H' : Heap) (locs' : List Loc) (ls' : Array Slot), okG (B + 280) G' → cG G' u' → mG G' v' → va_P (dC, dI) vwCl (lwW cI cJ cS o f' a u' am v') H' → va_D A (lwW cI cJ cS o f' a u' am v') → va_S A s.heap H' locs' → lv_has ls' 7 [(0, .ref b), (1, .ref (a 0)), (2, .ref (am 0)), (3, .ref o), (4, .int (nI i))] → W p l e room_1 s m args below meth c H' locs' (cells + 3) (slots + 18) Q (F0 m 1942 ls' [])) : W p l e room_1 s m args below meth c H locs cells slots Q (F0 m 756 ls []) := by
  obtain ⟨⟨hx, hb, hml, hown, hts⟩, hr, hlk, hK⟩ := id X
  refine lv_aload_n hx hb dL_law_756 rfl (lv_at hl 1 rfl) ?_
  refine lv_aload_n hx hb dL_law_757 rfl (lv_at hl 3 rfl) ?_
  obtain ⟨r, er⟩ : ∃ r : Int32 × Int32 × zG, r = (fQuit G ) := ⟨_, rfl⟩
  refine z_wL (Wf := fun z : zCls × (Nat → Int64) => wO cJ o z.2 ++ cl_X10 cI cJ cS a z.1) (Wn := fun z : zCls × (Nat → Int64) => lwW cI cJ cS o z.2 a z.1 am v) (wr := cl_X11 cI cJ am v) (As := [.ref (a 0), .ref o]) (rest := []) X fro_Fw hFw (c_L_quit l hlt dC dI cI cJ cS a u o f  (lQ r) (by rw [er]; exact ⟨B, G, hok, by omega, hc, co1 (r := (fQuit G )) (fc_quit G )⟩) _) w_cw_quit q_ml_L_157 ⟨rfl, rfl⟩ ⟨Nat.le_of_ble_eq_true rfl, Nat.le_of_ble_eq_true rfl⟩ hP hD hS hA List.perm_append_comm (fun _ => List.perm_append_comm) hl.1 rfl rfl (Nat.le_of_ble_eq_true rfl) ⟨by show cells + 1 ≤ 601024; omega, by show slots + 6 ≤ 7293034; omega⟩ dL_law_758 (fun r5 z H locs hq hP hD hS => ?_)
  obtain ⟨f1, ef1⟩ : ∃ q, q = z.2 := ⟨_, rfl⟩
  obtain ⟨u1, eu1⟩ : ∃ q, q = z.1 := ⟨_, rfl⟩
  obtain ⟨e5, hc1, h0⟩ := hq
  rw [← ef1] at hP hD h0
  rw [← eu1] at hP hD hc1
  refine lv_istore (lv' := [(5, .int r5), (0, .ref b), (1, .ref (a 0)), (2, .ref (am 0)), (3, .ref o), (4, .int (nI i))]) hx hb dL_law_761 hl (by decide) rfl (fun ls hl => ?_)
  refine lv_aload_n hx hb dL_law_763 rfl (lv_at hl 3 rfl) ?_
  refine z_pVi (Wn := fun z => lwW cI cJ cS o f1 a u1 am z) (wr := wO cJ o f1 ++ cl_X10 cI cJ cS a u1) (As := []) (rest := []) X (c_X11_quit l dC dI cI cJ cS am v  (fun q z => q = r.2.1 ∧ mG r.2.2 z ∧ z.1 = r.1) (by rw [er]; exact ⟨B, G, hok, hm, fun v1 q1 q2 => ⟨rfl, q1, q2⟩⟩) _) zc_X11_quit q_ml_L_159 ⟨rfl, rfl⟩ ⟨Nat.le_of_ble_eq_true rfl, Nat.le_of_ble_eq_true rfl⟩ hP hD hS hA (List.Perm.refl _) (fun _ => List.Perm.refl _) 10 rfl rfl hl.1 rfl rfl (Nat.le_of_ble_eq_true rfl) ⟨by show cells + 1 ≤ 601024; omega, by show slots + 6 ≤ 7293034; omega⟩ dL_law_764 (fun r6 v1 H locs hq hP hD hS => ?_)
  obtain ⟨e6, hm1, hv1⟩ := hq
  refine lv_istore (lv' := [(6, .int r6), (5, .int r5), (0, .ref b), (1, .ref (a 0)), (2, .ref (am 0)), (3, .ref o), (4, .int (nI i))]) hx hb dL_law_767 hl (by decide) rfl (fun ls hl => ?_)
  exact law_tail (r := r) X (by omega) (by omega) hcs e5 h0 e6 hv1 (by rw [er]; exact og_quit hok (by omega) ) hc1 hm1 hP hD hS hl dL_law_769 dL_law_770 dL_law_773 dL_law_775 dL_law_780 dL_law_782 dL_law_785 dL_law_786 dL_law_787 dL_law_788 dL_law_790 dL_law_791 dL_law_792 dL_law_797 (by decide) kk
set_option maxHeartbeats 4000000 in
set_option maxRecDepth 100000 in
theorem lawc_15 (X : zX p s m args meth c cL_law 7 ret RL dC dI cI cJ cS) (hFw : zFw A s s.heap) (hlt : l.stackTraces = false) (hX : va_X b L xs s s.heap) (hbl : b < s.heap.size) (hbA : ¬ A b) (hA : ∀ q : Nat, s.heap.size ≤ q → A q) (hi : i + 6 ≤ L) (hL : L ≤ 3072) (hok : okG B G) (hB : B + 400 ≤ 400000) (hc : cG G u) (hm : mG G v) (hP : va_P (dC, dI) vwCl (lwW cI cJ cS o f a u am v) H) (hD : va_D A (lwW cI cJ cS o f a u am v)) (hS : va_S A s.heap H locs) (hl : lv_has ls 7 [(0, .ref b), (1, .ref (a 0)), (2, .ref (am 0)), (3, .ref o), (4, .int (nI i))]) (hcs : cells + 3 ≤ 601024 ∧ slots + 18 ≤ 7293034)
    (kk : ∀ (G' : zG) (u' : zCls) (v' : zModel) (f' : Nat → Int64) (H' : Heap) (locs' : List Loc) (ls' : Array Slot), okG (B + 280) G' → cG G' u' → mG G' v' → va_P (dC, dI) vwCl (lwW cI cJ cS o f' a u' am v') H' → va_D A (lwW cI cJ cS o f' a u' am v') → va_S A s.heap H' locs' → lv_has ls' 7 [(0, .ref b), (1, .ref (a 0)), (2, .ref (am 0)), (3, .ref o), (4, .int (nI i))] → W p l e room_1 s m args below meth c H' locs' (cells + 3) (slots + 18) Q (F0 m 1942 ls' [])) : W p l e room_1 s m args below meth c H locs cells slots Q (F0 m 800 ls []) := by
  obtain ⟨⟨hx, hb, hml, hown, hts⟩, hr, hlk, hK⟩ := id X
  refine lv_aload_n hx hb dL_law_800 rfl (lv_at hl 1 rfl) ?_
  refine lv_aload_n hx hb dL_law_801 rfl (lv_at hl 3 rfl) ?_
  obtain ⟨r, er⟩ : ∃ r : Int32 × Int32 × zG, r = (fUndo G ) := ⟨_, rfl⟩
  refine z_wL (Wf := fun z : zCls × (Nat → Int64) => wO cJ o z.2 ++ cl_X10 cI cJ cS a z.1) (Wn := fun z : zCls × (Nat → Int64) => lwW cI cJ cS o z.2 a z.1 am v) (wr := cl_X11 cI cJ am v) (As := [.ref (a 0), .ref o]) (rest := []) X fro_Fw hFw (c_L_undo l hlt dC dI cI cJ cS a u o f  (lQ r) (by rw [er]; exact ⟨B, G, hok, hc, co1 (r := (fUndo G )) (fc_undo G )⟩) _) w_cw_undo q_ml_L_160 ⟨rfl, rfl⟩ ⟨Nat.le_of_ble_eq_true rfl, Nat.le_of_ble_eq_true rfl⟩ hP hD hS hA List.perm_append_comm (fun _ => List.perm_append_comm) hl.1 rfl rfl (Nat.le_of_ble_eq_true rfl) ⟨by show cells + 1 ≤ 601024; omega, by show slots + 6 ≤ 7293034; omega⟩ dL_law_802 (fun r5 z H locs hq hP hD hS => ?_)
  obtain ⟨f1, ef1⟩ : ∃ q, q = z.2 := ⟨_, rfl⟩
  obtain ⟨u1, eu1⟩ : ∃ q, q = z.1 := ⟨_, rfl⟩
  obtain ⟨e5, hc1, h0⟩ := hq
  rw [← ef1] at hP hD h0
  rw [← eu1] at hP hD hc1
  refine lv_istore (lv' := [(5, .int r5), (0, .ref b), (1, .ref (a 0)), (2, .ref (am 0)), (3, .ref o), (4, .int (nI i))]) hx hb dL_law_805 hl (by decide) rfl (fun ls hl => ?_)
  refine lv_aload_n hx hb dL_law_807 rfl (lv_at hl 3 rfl) ?_
  refine z_pVi (Wn := fun z => lwW cI cJ cS o f1 a u1 am z) (wr := wO cJ o f1 ++ cl_X10 cI cJ cS a u1) (As := []) (rest := []) X (c_X11_undo l dC dI cI cJ cS am v  (fun q z => q = r.2.1 ∧ mG r.2.2 z ∧ z.1 = r.1) (by rw [er]; exact ⟨B, G, hok, hm, fun v1 q1 q2 => ⟨rfl, q1, q2⟩⟩) _) zc_X11_undo q_ml_L_162 ⟨rfl, rfl⟩ ⟨Nat.le_of_ble_eq_true rfl, Nat.le_of_ble_eq_true rfl⟩ hP hD hS hA (List.Perm.refl _) (fun _ => List.Perm.refl _) 10 rfl rfl hl.1 rfl rfl (Nat.le_of_ble_eq_true rfl) ⟨by show cells + 1 ≤ 601024; omega, by show slots + 6 ≤ 7293034; omega⟩ dL_law_808 (fun r6 v1 H locs hq hP hD hS => ?_)
  obtain ⟨e6, hm1, hv1⟩ := hq
  refine lv_istore (lv' := [(6, .int r6), (5, .int r5), (0, .ref b), (1, .ref (a 0)), (2, .ref (am 0)), (3, .ref o), (4, .int (nI i))]) hx hb dL_law_811 hl (by decide) rfl (fun ls hl => ?_)
  exact law_tail (r := r) X (by omega) (by omega) hcs e5 h0 e6 hv1 (by rw [er]; exact og_undo hok (by omega) ) hc1 hm1 hP hD hS hl dL_law_813 dL_law_814 dL_law_817 dL_law_819 dL_law_824 dL_law_826 dL_law_829 dL_law_830 dL_law_831 dL_law_832 dL_law_834 dL_law_835 dL_law_836 dL_law_841 (by decide) kk
set_option maxHeartbeats 4000000 in
set_option maxRecDepth 100000 in
theorem lawc_16 (X : zX p s m args meth c cL_law 7 ret RL dC dI cI cJ cS) (hFw : zFw A s s.heap) (hlt : l.stackTraces = false) (hX : va_X b L xs s s.heap) (hbl : b < s.heap.size) (hbA : ¬ A b) (hA : ∀ q : Nat, s.heap.size ≤ q → A q) (hi : i + 6 ≤ L) (hL : L ≤ 3072) (hok : okG B G) (hB : B + 400 ≤ 400000) (hc : cG G u) (hm : mG G v) (hP : va_P (dC, dI) vwCl (lwW cI cJ cS o f a u am v) H) (hD : va_D A (lwW cI cJ cS o f a u am v)) (hS : va_S A s.heap H locs) (hl : lv_has ls 7 [(0, .ref b), (1, .ref (a 0)), (2, .ref (am 0)), (3, .ref o), (4, .int (nI i))]) (hcs : cells + 3 ≤ 601024 ∧ slots + 18 ≤ 7293034)
    (kk : ∀ (G' : zG) (u' : zCls) (v' : zModel) (f' : Nat → Int64) (H' : Heap) (locs' : List Loc) (ls' : Array Slot), okG (B + 280) G' → cG G' u' → mG G' v' → va_P (dC, dI) vwCl (lwW cI cJ cS o f' a u' am v') H' → va_D A (lwW cI cJ cS o f' a u' am v') → va_S A s.heap H' locs' → lv_has ls' 7 [(0, .ref b), (1, .ref (a 0)), (2, .ref (am 0)), (3, .ref o), (4, .int (nI i))] → W p l e room_1 s m args below meth c H' locs' (cells + 3) (slots + 18) Q (F0 m 1942 ls' [])) : W p l e room_1 s m args below meth c H locs cells slots Q (F0 m 844 ls []) := by
  obtain ⟨⟨hx, hb, hml, hown, hts⟩, hr, hlk, hK⟩ := id X
  refine lv_aload_n hx hb dL_law_844 rfl (lv_at hl 1 rfl) ?_
  refine law_arg X hX hbl hbA hi hL hS hl (k0 := 0) (k4 := 4) rfl rfl (k := 1) (by decide) rfl dL_law_845 dL_law_846 dL_law_848 dL_law_849 dL_law_850 ?_
  refine law_arg X hX hbl hbA hi hL hS hl (k0 := 0) (k4 := 4) rfl rfl (k := 2) (by decide) rfl dL_law_851 dL_law_852 dL_law_854 dL_law_855 dL_law_856 ?_
  refine lv_aload_n hx hb dL_law_857 rfl (lv_at hl 3 rfl) ?_
  obtain ⟨r, er⟩ : ∃ r : Int32 × Int32 × zG, r = ((fKey (gNow G) (xs (i + 1)) (xs (i + 2))).1, (fKey (gNow G) (xs (i + 1)) (xs (i + 2))).2, G) := ⟨_, rfl⟩
  refine z_wL (Wf := fun z : zCls × (Nat → Int64) => wO cJ o z.2 ++ cl_X10 cI cJ cS a z.1) (Wn := fun z : zCls × (Nat → Int64) => lwW cI cJ cS o z.2 a z.1 am v) (wr := cl_X11 cI cJ am v) (As := [.ref (a 0), .int (xs (i + 1)), .int (xs (i + 2)), .ref o]) (rest := []) X fro_Fw hFw (c_L_key l hlt dC dI cI cJ cS a u o f (xs (i + 1)) (xs (i + 2)) (lQ r) (by rw [er]; exact ⟨B, G, hok, by omega, hc, co2 (r := ((fKey (gNow G) (xs (i + 1)) (xs (i + 2))).1, (fKey (gNow G) (xs (i + 1)) (xs (i + 2))).2, G)) (fc_key (gNow G) (xs (i + 1)) (xs (i + 2)))⟩) _) w_cw_key q_ml_L_163 ⟨rfl, rfl⟩ ⟨Nat.le_of_ble_eq_true rfl, Nat.le_of_ble_eq_true rfl⟩ hP hD hS hA List.perm_append_comm (fun _ => List.perm_append_comm) hl.1 rfl rfl (Nat.le_of_ble_eq_true rfl) ⟨by show cells + 2 ≤ 601024; omega, by show slots + 12 ≤ 7293034; omega⟩ dL_law_858 (fun r5 z H locs hq hP hD hS => ?_)
  obtain ⟨f1, ef1⟩ : ∃ q, q = z.2 := ⟨_, rfl⟩
  obtain ⟨u1, eu1⟩ : ∃ q, q = z.1 := ⟨_, rfl⟩
  obtain ⟨e5, hc1, h0⟩ := hq
  rw [← ef1] at hP hD h0
  rw [← eu1] at hP hD hc1
  refine lv_istore (lv' := [(5, .int r5), (0, .ref b), (1, .ref (a 0)), (2, .ref (am 0)), (3, .ref o), (4, .int (nI i))]) hx hb dL_law_861 hl (by decide) rfl (fun ls hl => ?_)
  refine lv_aload_n hx hb dL_law_863 rfl (lv_at hl 3 rfl) ?_
  refine law_arg X hX hbl hbA hi hL hS hl (k0 := 1) (k4 := 5) rfl rfl (k := 1) (by decide) rfl dL_law_864 dL_law_865 dL_law_867 dL_law_868 dL_law_869 ?_
  refine law_arg X hX hbl hbA hi hL hS hl (k0 := 1) (k4 := 5) rfl rfl (k := 2) (by decide) rfl dL_law_870 dL_law_871 dL_law_873 dL_law_874 dL_law_875 ?_
  refine z_pVi (Wn := fun z => lwW cI cJ cS o f1 a u1 am z) (wr := wO cJ o f1 ++ cl_X10 cI cJ cS a u1) (As := [.int (xs (i + 1)), .int (xs (i + 2))]) (rest := []) X (c_X11_key l dC dI cI cJ cS am v (xs (i + 1)) (xs (i + 2)) (fun q z => q = r.2.1 ∧ mG r.2.2 z ∧ z.1 = r.1) (by rw [er]; exact ⟨B, G, hok, hm, fun v1 q1 q2 => ⟨rfl, q1, q2⟩⟩) _) zc_X11_key q_ml_L_166 ⟨rfl, rfl⟩ ⟨Nat.le_of_ble_eq_true rfl, Nat.le_of_ble_eq_true rfl⟩ hP hD hS hA (List.Perm.refl _) (fun _ => List.Perm.refl _) 10 rfl rfl hl.1 rfl rfl (Nat.le_of_ble_eq_true rfl) ⟨by show cells + 2 ≤ 601024; omega, by show slots + 12 ≤ 7293034; omega⟩ dL_law_876 (fun r6 v1 H locs hq hP hD hS => ?_)
  obtain ⟨e6, hm1, hv1⟩ := hq
  refine lv_istore (lv' := [(6, .int r6), (5, .int r5), (0, .ref b), (1, .ref (a 0)), (2, .ref (am 0)), (3, .ref o), (4, .int (nI i))]) hx hb dL_law_879 hl (by decide) rfl (fun ls hl => ?_)
  exact law_tail (r := r) X (by omega) (by omega) hcs e5 h0 e6 hv1 (by rw [er]; exact og_ask hok (by omega)) hc1 hm1 hP hD hS hl dL_law_881 dL_law_882 dL_law_885 dL_law_887 dL_law_892 dL_law_894 dL_law_897 dL_law_898 dL_law_899 dL_law_900 dL_law_902 dL_law_903 dL_law_904 dL_law_909 (by decide) kk
set_option maxHeartbeats 4000000 in
set_option maxRecDepth 100000 in
theorem lawc_17 (X : zX p s m args meth c cL_law 7 ret RL dC dI cI cJ cS) (hFw : zFw A s s.heap) (hlt : l.stackTraces = false) (hX : va_X b L xs s s.heap) (hbl : b < s.heap.size) (hbA : ¬ A b) (hA : ∀ q : Nat, s.heap.size ≤ q → A q) (hi : i + 6 ≤ L) (hL : L ≤ 3072) (hok : okG B G) (hB : B + 400 ≤ 400000) (hc : cG G u) (hm : mG G v) (hP : va_P (dC, dI) vwCl (lwW cI cJ cS o f a u am v) H) (hD : va_D A (lwW cI cJ cS o f a u am v)) (hS : va_S A s.heap H locs) (hl : lv_has ls 7 [(0, .ref b), (1, .ref (a 0)), (2, .ref (am 0)), (3, .ref o), (4, .int (nI i))]) (hcs : cells + 3 ≤ 601024 ∧ slots + 18 ≤ 7293034)
    (kk : ∀ (G' : zG) (u' : zCls) (v' : zModel) (f' : Nat → Int64) (H' : Heap) (locs' : List Loc) (ls' : Array Slot), okG (B + 280) G' → cG G' u' → mG G' v' → va_P (dC, dI) vwCl (lwW cI cJ cS o f' a u' am v') H' → va_D A (lwW cI cJ cS o f' a u' am v') → va_S A s.heap H' locs' → lv_has ls' 7 [(0, .ref b), (1, .ref (a 0)), (2, .ref (am 0)), (3, .ref o), (4, .int (nI i))] → W p l e room_1 s m args below meth c H' locs' (cells + 3) (slots + 18) Q (F0 m 1942 ls' [])) : W p l e room_1 s m args below meth c H locs cells slots Q (F0 m 912 ls []) := by
  obtain ⟨⟨hx, hb, hml, hown, hts⟩, hr, hlk, hK⟩ := id X
  refine lv_aload_n hx hb dL_law_912 rfl (lv_at hl 1 rfl) ?_
  refine law_arg X hX hbl hbA hi hL hS hl (k0 := 0) (k4 := 4) rfl rfl (k := 1) (by decide) rfl dL_law_913 dL_law_914 dL_law_916 dL_law_917 dL_law_918 ?_
  refine law_arg X hX hbl hbA hi hL hS hl (k0 := 0) (k4 := 4) rfl rfl (k := 2) (by decide) rfl dL_law_919 dL_law_920 dL_law_922 dL_law_923 dL_law_924 ?_
  refine lv_aload_n hx hb dL_law_925 rfl (lv_at hl 3 rfl) ?_
  obtain ⟨r, er⟩ : ∃ r : Int32 × Int32 × zG, r = ((fOctet (gNow G) (xs (i + 1)) (xs (i + 2))).1, (fOctet (gNow G) (xs (i + 1)) (xs (i + 2))).2, G) := ⟨_, rfl⟩
  refine z_wL (Wf := fun z : zCls × (Nat → Int64) => wO cJ o z.2 ++ cl_X10 cI cJ cS a z.1) (Wn := fun z : zCls × (Nat → Int64) => lwW cI cJ cS o z.2 a z.1 am v) (wr := cl_X11 cI cJ am v) (As := [.ref (a 0), .int (xs (i + 1)), .int (xs (i + 2)), .ref o]) (rest := []) X fro_Fw hFw (c_L_octet l hlt dC dI cI cJ cS a u o f (xs (i + 1)) (xs (i + 2)) (lQ r) (by rw [er]; exact ⟨B, G, hok, by omega, hc, co1 (r := ((fOctet (gNow G) (xs (i + 1)) (xs (i + 2))).1, (fOctet (gNow G) (xs (i + 1)) (xs (i + 2))).2, G)) (fc_octet (gNow G) (xs (i + 1)) (xs (i + 2)))⟩) _) w_cw_octet q_ml_L_167 ⟨rfl, rfl⟩ ⟨Nat.le_of_ble_eq_true rfl, Nat.le_of_ble_eq_true rfl⟩ hP hD hS hA List.perm_append_comm (fun _ => List.perm_append_comm) hl.1 rfl rfl (Nat.le_of_ble_eq_true rfl) ⟨by show cells + 1 ≤ 601024; omega, by show slots + 6 ≤ 7293034; omega⟩ dL_law_926 (fun r5 z H locs hq hP hD hS => ?_)
  obtain ⟨f1, ef1⟩ : ∃ q, q = z.2 := ⟨_, rfl⟩
  obtain ⟨u1, eu1⟩ : ∃ q, q = z.1 := ⟨_, rfl⟩
  obtain ⟨e5, hc1, h0⟩ := hq
  rw [← ef1] at hP hD h0
  rw [← eu1] at hP hD hc1
  refine lv_istore (lv' := [(5, .int r5), (0, .ref b), (1, .ref (a 0)), (2, .ref (am 0)), (3, .ref o), (4, .int (nI i))]) hx hb dL_law_929 hl (by decide) rfl (fun ls hl => ?_)
  refine lv_aload_n hx hb dL_law_931 rfl (lv_at hl 3 rfl) ?_
  refine law_arg X hX hbl hbA hi hL hS hl (k0 := 1) (k4 := 5) rfl rfl (k := 1) (by decide) rfl dL_law_932 dL_law_933 dL_law_935 dL_law_936 dL_law_937 ?_
  refine law_arg X hX hbl hbA hi hL hS hl (k0 := 1) (k4 := 5) rfl rfl (k := 2) (by decide) rfl dL_law_938 dL_law_939 dL_law_941 dL_law_942 dL_law_943 ?_
  refine z_pVi (Wn := fun z => lwW cI cJ cS o f1 a u1 am z) (wr := wO cJ o f1 ++ cl_X10 cI cJ cS a u1) (As := [.int (xs (i + 1)), .int (xs (i + 2))]) (rest := []) X (c_X11_octet l dC dI cI cJ cS am v (xs (i + 1)) (xs (i + 2)) (fun q z => q = r.2.1 ∧ mG r.2.2 z ∧ z.1 = r.1) (by rw [er]; exact ⟨B, G, hok, hm, fun v1 q1 q2 => ⟨rfl, q1, q2⟩⟩) _) zc_X11_octet q_ml_L_169 ⟨rfl, rfl⟩ ⟨Nat.le_of_ble_eq_true rfl, Nat.le_of_ble_eq_true rfl⟩ hP hD hS hA (List.Perm.refl _) (fun _ => List.Perm.refl _) 10 rfl rfl hl.1 rfl rfl (Nat.le_of_ble_eq_true rfl) ⟨by show cells + 1 ≤ 601024; omega, by show slots + 6 ≤ 7293034; omega⟩ dL_law_944 (fun r6 v1 H locs hq hP hD hS => ?_)
  obtain ⟨e6, hm1, hv1⟩ := hq
  refine lv_istore (lv' := [(6, .int r6), (5, .int r5), (0, .ref b), (1, .ref (a 0)), (2, .ref (am 0)), (3, .ref o), (4, .int (nI i))]) hx hb dL_law_947 hl (by decide) rfl (fun ls hl => ?_)
  exact law_tail (r := r) X (by omega) (by omega) hcs e5 h0 e6 hv1 (by rw [er]; exact og_ask hok (by omega)) hc1 hm1 hP hD hS hl dL_law_949 dL_law_950 dL_law_953 dL_law_955 dL_law_960 dL_law_962 dL_law_965 dL_law_966 dL_law_967 dL_law_968 dL_law_970 dL_law_971 dL_law_972 dL_law_977 (by decide) kk
set_option maxHeartbeats 4000000 in
set_option maxRecDepth 100000 in
theorem lawc_18 (X : zX p s m args meth c cL_law 7 ret RL dC dI cI cJ cS) (hFw : zFw A s s.heap) (hlt : l.stackTraces = false) (hX : va_X b L xs s s.heap) (hbl : b < s.heap.size) (hbA : ¬ A b) (hA : ∀ q : Nat, s.heap.size ≤ q → A q) (hi : i + 6 ≤ L) (hL : L ≤ 3072) (hok : okG B G) (hB : B + 400 ≤ 400000) (hc : cG G u) (hm : mG G v) (hP : va_P (dC, dI) vwCl (lwW cI cJ cS o f a u am v) H) (hD : va_D A (lwW cI cJ cS o f a u am v)) (hS : va_S A s.heap H locs) (hl : lv_has ls 7 [(0, .ref b), (1, .ref (a 0)), (2, .ref (am 0)), (3, .ref o), (4, .int (nI i))]) (hcs : cells + 3 ≤ 601024 ∧ slots + 18 ≤ 7293034)
    (kk : ∀ (G' : zG) (u' : zCls) (v' : zModel) (f' : Nat → Int64) (H' : Heap) (locs' : List Loc) (ls' : Array Slot), okG (B + 280) G' → cG G' u' → mG G' v' → va_P (dC, dI) vwCl (lwW cI cJ cS o f' a u' am v') H' → va_D A (lwW cI cJ cS o f' a u' am v') → va_S A s.heap H' locs' → lv_has ls' 7 [(0, .ref b), (1, .ref (a 0)), (2, .ref (am 0)), (3, .ref o), (4, .int (nI i))] → W p l e room_1 s m args below meth c H' locs' (cells + 3) (slots + 18) Q (F0 m 1942 ls' [])) : W p l e room_1 s m args below meth c H locs cells slots Q (F0 m 980 ls []) := by
  obtain ⟨⟨hx, hb, hml, hown, hts⟩, hr, hlk, hK⟩ := id X
  refine lv_aload_n hx hb dL_law_980 rfl (lv_at hl 1 rfl) ?_
  refine law_arg X hX hbl hbA hi hL hS hl (k0 := 0) (k4 := 4) rfl rfl (k := 1) (by decide) rfl dL_law_981 dL_law_982 dL_law_984 dL_law_985 dL_law_986 ?_
  refine law_arg X hX hbl hbA hi hL hS hl (k0 := 0) (k4 := 4) rfl rfl (k := 2) (by decide) rfl dL_law_987 dL_law_988 dL_law_990 dL_law_991 dL_law_992 ?_
  refine lv_aload_n hx hb dL_law_993 rfl (lv_at hl 3 rfl) ?_
  obtain ⟨r, er⟩ : ∃ r : Int32 × Int32 × zG, r = ((fFrom (gNow G) (xs (i + 1)) (xs (i + 2))).1, (fFrom (gNow G) (xs (i + 1)) (xs (i + 2))).2, G) := ⟨_, rfl⟩
  refine z_wL (Wf := fun z : zCls × (Nat → Int64) => wO cJ o z.2 ++ cl_X10 cI cJ cS a z.1) (Wn := fun z : zCls × (Nat → Int64) => lwW cI cJ cS o z.2 a z.1 am v) (wr := cl_X11 cI cJ am v) (As := [.ref (a 0), .int (xs (i + 1)), .int (xs (i + 2)), .ref o]) (rest := []) X fro_Fw hFw (c_L_from l hlt dC dI cI cJ cS a u o f (xs (i + 1)) (xs (i + 2)) (lQ r) (by rw [er]; exact ⟨B, G, hok, by omega, hc, co1 (r := ((fFrom (gNow G) (xs (i + 1)) (xs (i + 2))).1, (fFrom (gNow G) (xs (i + 1)) (xs (i + 2))).2, G)) (fc_from (gNow G) (xs (i + 1)) (xs (i + 2)))⟩) _) w_cw_from q_ml_L_170 ⟨rfl, rfl⟩ ⟨Nat.le_of_ble_eq_true rfl, Nat.le_of_ble_eq_true rfl⟩ hP hD hS hA List.perm_append_comm (fun _ => List.perm_append_comm) hl.1 rfl rfl (Nat.le_of_ble_eq_true rfl) ⟨by show cells + 1 ≤ 601024; omega, by show slots + 6 ≤ 7293034; omega⟩ dL_law_994 (fun r5 z H locs hq hP hD hS => ?_)
  obtain ⟨f1, ef1⟩ : ∃ q, q = z.2 := ⟨_, rfl⟩
  obtain ⟨u1, eu1⟩ : ∃ q, q = z.1 := ⟨_, rfl⟩
  obtain ⟨e5, hc1, h0⟩ := hq
  rw [← ef1] at hP hD h0
  rw [← eu1] at hP hD hc1
  refine lv_istore (lv' := [(5, .int r5), (0, .ref b), (1, .ref (a 0)), (2, .ref (am 0)), (3, .ref o), (4, .int (nI i))]) hx hb dL_law_997 hl (by decide) rfl (fun ls hl => ?_)
  refine lv_aload_n hx hb dL_law_999 rfl (lv_at hl 3 rfl) ?_
  refine law_arg X hX hbl hbA hi hL hS hl (k0 := 1) (k4 := 5) rfl rfl (k := 1) (by decide) rfl dL_law_1000 dL_law_1001 dL_law_1003 dL_law_1004 dL_law_1005 ?_
  refine law_arg X hX hbl hbA hi hL hS hl (k0 := 1) (k4 := 5) rfl rfl (k := 2) (by decide) rfl dL_law_1006 dL_law_1007 dL_law_1009 dL_law_1010 dL_law_1011 ?_
  refine z_pVi (Wn := fun z => lwW cI cJ cS o f1 a u1 am z) (wr := wO cJ o f1 ++ cl_X10 cI cJ cS a u1) (As := [.int (xs (i + 1)), .int (xs (i + 2))]) (rest := []) X (c_X11_from l dC dI cI cJ cS am v (xs (i + 1)) (xs (i + 2)) (fun q z => q = r.2.1 ∧ mG r.2.2 z ∧ z.1 = r.1) (by rw [er]; exact ⟨B, G, hok, hm, fun v1 q1 q2 => ⟨rfl, q1, q2⟩⟩) _) zc_X11_from q_ml_L_172 ⟨rfl, rfl⟩ ⟨Nat.le_of_ble_eq_true rfl, Nat.le_of_ble_eq_true rfl⟩ hP hD hS hA (List.Perm.refl _) (fun _ => List.Perm.refl _) 10 rfl rfl hl.1 rfl rfl (Nat.le_of_ble_eq_true rfl) ⟨by show cells + 1 ≤ 601024; omega, by show slots + 6 ≤ 7293034; omega⟩ dL_law_1012 (fun r6 v1 H locs hq hP hD hS => ?_)
  obtain ⟨e6, hm1, hv1⟩ := hq
  refine lv_istore (lv' := [(6, .int r6), (5, .int r5), (0, .ref b), (1, .ref (a 0)), (2, .ref (am 0)), (3, .ref o), (4, .int (nI i))]) hx hb dL_law_1015 hl (by decide) rfl (fun ls hl => ?_)
  exact law_tail (r := r) X (by omega) (by omega) hcs e5 h0 e6 hv1 (by rw [er]; exact og_ask hok (by omega)) hc1 hm1 hP hD hS hl dL_law_1017 dL_law_1018 dL_law_1021 dL_law_1023 dL_law_1028 dL_law_1030 dL_law_1033 dL_law_1034 dL_law_1035 dL_law_1036 dL_law_1038 dL_law_1039 dL_law_1040 dL_law_1045 (by decide) kk
set_option maxHeartbeats 4000000 in
set_option maxRecDepth 100000 in
theorem lawc_19 (X : zX p s m args meth c cL_law 7 ret RL dC dI cI cJ cS) (hFw : zFw A s s.heap) (hlt : l.stackTraces = false) (hX : va_X b L xs s s.heap) (hbl : b < s.heap.size) (hbA : ¬ A b) (hA : ∀ q : Nat, s.heap.size ≤ q → A q) (hi : i + 6 ≤ L) (hL : L ≤ 3072) (hok : okG B G) (hB : B + 400 ≤ 400000) (hc : cG G u) (hm : mG G v) (hP : va_P (dC, dI) vwCl (lwW cI cJ cS o f a u am v) H) (hD : va_D A (lwW cI cJ cS o f a u am v)) (hS : va_S A s.heap H locs) (hl : lv_has ls 7 [(0, .ref b), (1, .ref (a 0)), (2, .ref (am 0)), (3, .ref o), (4, .int (nI i))]) (hcs : cells + 3 ≤ 601024 ∧ slots + 18 ≤ 7293034)
    (kk : ∀ (G' : zG) (u' : zCls) (v' : zModel) (f' : Nat → Int64) (H' : Heap) (locs' : List Loc) (ls' : Array Slot), okG (B + 280) G' → cG G' u' → mG G' v' → va_P (dC, dI) vwCl (lwW cI cJ cS o f' a u' am v') H' → va_D A (lwW cI cJ cS o f' a u' am v') → va_S A s.heap H' locs' → lv_has ls' 7 [(0, .ref b), (1, .ref (a 0)), (2, .ref (am 0)), (3, .ref o), (4, .int (nI i))] → W p l e room_1 s m args below meth c H' locs' (cells + 3) (slots + 18) Q (F0 m 1942 ls' [])) : W p l e room_1 s m args below meth c H locs cells slots Q (F0 m 1048 ls []) := by
  obtain ⟨⟨hx, hb, hml, hown, hts⟩, hr, hlk, hK⟩ := id X
  refine lv_aload_n hx hb dL_law_1048 rfl (lv_at hl 1 rfl) ?_
  refine law_arg X hX hbl hbA hi hL hS hl (k0 := 0) (k4 := 4) rfl rfl (k := 1) (by decide) rfl dL_law_1049 dL_law_1050 dL_law_1052 dL_law_1053 dL_law_1054 ?_
  refine lv_aload_n hx hb dL_law_1055 rfl (lv_at hl 3 rfl) ?_
  obtain ⟨r, er⟩ : ∃ r : Int32 × Int32 × zG, r = ((fBelow (gNow G) (xs (i + 1))).1, (fBelow (gNow G) (xs (i + 1))).2, G) := ⟨_, rfl⟩
  refine z_wL (Wf := fun z : zCls × (Nat → Int64) => wO cJ o z.2 ++ cl_X10 cI cJ cS a z.1) (Wn := fun z : zCls × (Nat → Int64) => lwW cI cJ cS o z.2 a z.1 am v) (wr := cl_X11 cI cJ am v) (As := [.ref (a 0), .int (xs (i + 1)), .ref o]) (rest := []) X fro_Fw hFw (c_L_below l hlt dC dI cI cJ cS a u o f (xs (i + 1)) (lQ r) (by rw [er]; exact ⟨B, G, hok, by omega, hc, co1 (r := ((fBelow (gNow G) (xs (i + 1))).1, (fBelow (gNow G) (xs (i + 1))).2, G)) (fc_below (gNow G) (xs (i + 1)))⟩) _) w_cw_below q_ml_L_173 ⟨rfl, rfl⟩ ⟨Nat.le_of_ble_eq_true rfl, Nat.le_of_ble_eq_true rfl⟩ hP hD hS hA List.perm_append_comm (fun _ => List.perm_append_comm) hl.1 rfl rfl (Nat.le_of_ble_eq_true rfl) ⟨by show cells + 1 ≤ 601024; omega, by show slots + 6 ≤ 7293034; omega⟩ dL_law_1056 (fun r5 z H locs hq hP hD hS => ?_)
  obtain ⟨f1, ef1⟩ : ∃ q, q = z.2 := ⟨_, rfl⟩
  obtain ⟨u1, eu1⟩ : ∃ q, q = z.1 := ⟨_, rfl⟩
  obtain ⟨e5, hc1, h0⟩ := hq
  rw [← ef1] at hP hD h0
  rw [← eu1] at hP hD hc1
  refine lv_istore (lv' := [(5, .int r5), (0, .ref b), (1, .ref (a 0)), (2, .ref (am 0)), (3, .ref o), (4, .int (nI i))]) hx hb dL_law_1059 hl (by decide) rfl (fun ls hl => ?_)
  refine lv_aload_n hx hb dL_law_1061 rfl (lv_at hl 3 rfl) ?_
  refine law_arg X hX hbl hbA hi hL hS hl (k0 := 1) (k4 := 5) rfl rfl (k := 1) (by decide) rfl dL_law_1062 dL_law_1063 dL_law_1065 dL_law_1066 dL_law_1067 ?_
  refine z_pVi (Wn := fun z => lwW cI cJ cS o f1 a u1 am z) (wr := wO cJ o f1 ++ cl_X10 cI cJ cS a u1) (As := [.int (xs (i + 1))]) (rest := []) X (c_X11_below l dC dI cI cJ cS am v (xs (i + 1)) (fun q z => q = r.2.1 ∧ mG r.2.2 z ∧ z.1 = r.1) (by rw [er]; exact ⟨B, G, hok, hm, fun v1 q1 q2 => ⟨rfl, q1, q2⟩⟩) _) zc_X11_below q_ml_L_175 ⟨rfl, rfl⟩ ⟨Nat.le_of_ble_eq_true rfl, Nat.le_of_ble_eq_true rfl⟩ hP hD hS hA (List.Perm.refl _) (fun _ => List.Perm.refl _) 10 rfl rfl hl.1 rfl rfl (Nat.le_of_ble_eq_true rfl) ⟨by show cells + 1 ≤ 601024; omega, by show slots + 6 ≤ 7293034; omega⟩ dL_law_1068 (fun r6 v1 H locs hq hP hD hS => ?_)
  obtain ⟨e6, hm1, hv1⟩ := hq
  refine lv_istore (lv' := [(6, .int r6), (5, .int r5), (0, .ref b), (1, .ref (a 0)), (2, .ref (am 0)), (3, .ref o), (4, .int (nI i))]) hx hb dL_law_1071 hl (by decide) rfl (fun ls hl => ?_)
  exact law_tail (r := r) X (by omega) (by omega) hcs e5 h0 e6 hv1 (by rw [er]; exact og_ask hok (by omega)) hc1 hm1 hP hD hS hl dL_law_1073 dL_law_1074 dL_law_1077 dL_law_1079 dL_law_1084 dL_law_1086 dL_law_1089 dL_law_1090 dL_law_1091 dL_law_1092 dL_law_1094 dL_law_1095 dL_law_1096 dL_law_1101 (by decide) kk
set_option maxHeartbeats 4000000 in
set_option maxRecDepth 100000 in
theorem lawc_20 (X : zX p s m args meth c cL_law 7 ret RL dC dI cI cJ cS) (hFw : zFw A s s.heap) (hlt : l.stackTraces = false) (hX : va_X b L xs s s.heap) (hbl : b < s.heap.size) (hbA : ¬ A b) (hA : ∀ q : Nat, s.heap.size ≤ q → A q) (hi : i + 6 ≤ L) (hL : L ≤ 3072) (hok : okG B G) (hB : B + 400 ≤ 400000) (hc : cG G u) (hm : mG G v) (hP : va_P (dC, dI) vwCl (lwW cI cJ cS o f a u am v) H) (hD : va_D A (lwW cI cJ cS o f a u am v)) (hS : va_S A s.heap H locs) (hl : lv_has ls 7 [(0, .ref b), (1, .ref (a 0)), (2, .ref (am 0)), (3, .ref o), (4, .int (nI i))]) (hcs : cells + 3 ≤ 601024 ∧ slots + 18 ≤ 7293034)
    (kk : ∀ (G' : zG) (u' : zCls) (v' : zModel) (f' : Nat → Int64) (H' : Heap) (locs' : List Loc) (ls' : Array Slot), okG (B + 280) G' → cG G' u' → mG G' v' → va_P (dC, dI) vwCl (lwW cI cJ cS o f' a u' am v') H' → va_D A (lwW cI cJ cS o f' a u' am v') → va_S A s.heap H' locs' → lv_has ls' 7 [(0, .ref b), (1, .ref (a 0)), (2, .ref (am 0)), (3, .ref o), (4, .int (nI i))] → W p l e room_1 s m args below meth c H' locs' (cells + 3) (slots + 18) Q (F0 m 1942 ls' [])) : W p l e room_1 s m args below meth c H locs cells slots Q (F0 m 1104 ls []) := by
  obtain ⟨⟨hx, hb, hml, hown, hts⟩, hr, hlk, hK⟩ := id X
  refine lv_aload_n hx hb dL_law_1104 rfl (lv_at hl 1 rfl) ?_
  refine law_arg X hX hbl hbA hi hL hS hl (k0 := 0) (k4 := 4) rfl rfl (k := 1) (by decide) rfl dL_law_1105 dL_law_1106 dL_law_1108 dL_law_1109 dL_law_1110 ?_
  refine law_arg X hX hbl hbA hi hL hS hl (k0 := 0) (k4 := 4) rfl rfl (k := 2) (by decide) rfl dL_law_1111 dL_law_1112 dL_law_1114 dL_law_1115 dL_law_1116 ?_
  refine lv_aload_n hx hb dL_law_1117 rfl (lv_at hl 3 rfl) ?_
  obtain ⟨r, er⟩ : ∃ r : Int32 × Int32 × zG, r = ((fSegment (gNow G) (xs (i + 1)) (xs (i + 2))).1, (fSegment (gNow G) (xs (i + 1)) (xs (i + 2))).2, G) := ⟨_, rfl⟩
  refine z_wL (Wf := fun z : zCls × (Nat → Int64) => wO cJ o z.2 ++ cl_X10 cI cJ cS a z.1) (Wn := fun z : zCls × (Nat → Int64) => lwW cI cJ cS o z.2 a z.1 am v) (wr := cl_X11 cI cJ am v) (As := [.ref (a 0), .int (xs (i + 1)), .int (xs (i + 2)), .ref o]) (rest := []) X fro_Fw hFw (c_L_segment l hlt dC dI cI cJ cS a u o f (xs (i + 1)) (xs (i + 2)) (lQ r) (by rw [er]; exact ⟨B, G, hok, by omega, hc, co2 (r := ((fSegment (gNow G) (xs (i + 1)) (xs (i + 2))).1, (fSegment (gNow G) (xs (i + 1)) (xs (i + 2))).2, G)) (fc_segment (gNow G) (xs (i + 1)) (xs (i + 2)))⟩) _) w_cw_segment q_ml_L_176 ⟨rfl, rfl⟩ ⟨Nat.le_of_ble_eq_true rfl, Nat.le_of_ble_eq_true rfl⟩ hP hD hS hA List.perm_append_comm (fun _ => List.perm_append_comm) hl.1 rfl rfl (Nat.le_of_ble_eq_true rfl) ⟨by show cells + 2 ≤ 601024; omega, by show slots + 12 ≤ 7293034; omega⟩ dL_law_1118 (fun r5 z H locs hq hP hD hS => ?_)
  obtain ⟨f1, ef1⟩ : ∃ q, q = z.2 := ⟨_, rfl⟩
  obtain ⟨u1, eu1⟩ : ∃ q, q = z.1 := ⟨_, rfl⟩
  obtain ⟨e5, hc1, h0⟩ := hq
  rw [← ef1] at hP hD h0
  rw [← eu1] at hP hD hc1
  refine lv_istore (lv' := [(5, .int r5), (0, .ref b), (1, .ref (a 0)), (2, .ref (am 0)), (3, .ref o), (4, .int (nI i))]) hx hb dL_law_1121 hl (by decide) rfl (fun ls hl => ?_)
  refine lv_aload_n hx hb dL_law_1123 rfl (lv_at hl 3 rfl) ?_
  refine law_arg X hX hbl hbA hi hL hS hl (k0 := 1) (k4 := 5) rfl rfl (k := 1) (by decide) rfl dL_law_1124 dL_law_1125 dL_law_1127 dL_law_1128 dL_law_1129 ?_
  refine law_arg X hX hbl hbA hi hL hS hl (k0 := 1) (k4 := 5) rfl rfl (k := 2) (by decide) rfl dL_law_1130 dL_law_1131 dL_law_1133 dL_law_1134 dL_law_1135 ?_
  refine z_pVi (Wn := fun z => lwW cI cJ cS o f1 a u1 am z) (wr := wO cJ o f1 ++ cl_X10 cI cJ cS a u1) (As := [.int (xs (i + 1)), .int (xs (i + 2))]) (rest := []) X (c_X11_segment l dC dI cI cJ cS am v (xs (i + 1)) (xs (i + 2)) (fun q z => q = r.2.1 ∧ mG r.2.2 z ∧ z.1 = r.1) (by rw [er]; exact ⟨B, G, hok, hm, fun v1 q1 q2 => ⟨rfl, q1, q2⟩⟩) _) zc_X11_segment q_ml_L_178 ⟨rfl, rfl⟩ ⟨Nat.le_of_ble_eq_true rfl, Nat.le_of_ble_eq_true rfl⟩ hP hD hS hA (List.Perm.refl _) (fun _ => List.Perm.refl _) 10 rfl rfl hl.1 rfl rfl (Nat.le_of_ble_eq_true rfl) ⟨by show cells + 2 ≤ 601024; omega, by show slots + 12 ≤ 7293034; omega⟩ dL_law_1136 (fun r6 v1 H locs hq hP hD hS => ?_)
  obtain ⟨e6, hm1, hv1⟩ := hq
  refine lv_istore (lv' := [(6, .int r6), (5, .int r5), (0, .ref b), (1, .ref (a 0)), (2, .ref (am 0)), (3, .ref o), (4, .int (nI i))]) hx hb dL_law_1139 hl (by decide) rfl (fun ls hl => ?_)
  exact law_tail (r := r) X (by omega) (by omega) hcs e5 h0 e6 hv1 (by rw [er]; exact og_ask hok (by omega)) hc1 hm1 hP hD hS hl dL_law_1141 dL_law_1142 dL_law_1145 dL_law_1147 dL_law_1152 dL_law_1154 dL_law_1157 dL_law_1158 dL_law_1159 dL_law_1160 dL_law_1162 dL_law_1163 dL_law_1164 dL_law_1169 (by decide) kk
set_option maxHeartbeats 4000000 in
set_option maxRecDepth 100000 in
theorem lawc_21 (X : zX p s m args meth c cL_law 7 ret RL dC dI cI cJ cS) (hFw : zFw A s s.heap) (hlt : l.stackTraces = false) (hX : va_X b L xs s s.heap) (hbl : b < s.heap.size) (hbA : ¬ A b) (hA : ∀ q : Nat, s.heap.size ≤ q → A q) (hi : i + 6 ≤ L) (hL : L ≤ 3072) (hok : okG B G) (hB : B + 400 ≤ 400000) (hc : cG G u) (hm : mG G v) (hP : va_P (dC, dI) vwCl (lwW cI cJ cS o f a u am v) H) (hD : va_D A (lwW cI cJ cS o f a u am v)) (hS : va_S A s.heap H locs) (hl : lv_has ls 7 [(0, .ref b), (1, .ref (a 0)), (2, .ref (am 0)), (3, .ref o), (4, .int (nI i))]) (hcs : cells + 3 ≤ 601024 ∧ slots + 18 ≤ 7293034)
    (kk : ∀ (G' : zG) (u' : zCls) (v' : zModel) (f' : Nat → Int64) (H' : Heap) (locs' : List Loc) (ls' : Array Slot), okG (B + 280) G' → cG G' u' → mG G' v' → va_P (dC, dI) vwCl (lwW cI cJ cS o f' a u' am v') H' → va_D A (lwW cI cJ cS o f' a u' am v') → va_S A s.heap H' locs' → lv_has ls' 7 [(0, .ref b), (1, .ref (a 0)), (2, .ref (am 0)), (3, .ref o), (4, .int (nI i))] → W p l e room_1 s m args below meth c H' locs' (cells + 3) (slots + 18) Q (F0 m 1942 ls' [])) : W p l e room_1 s m args below meth c H locs cells slots Q (F0 m 1172 ls []) := by
  obtain ⟨⟨hx, hb, hml, hown, hts⟩, hr, hlk, hK⟩ := id X
  refine lv_aload_n hx hb dL_law_1172 rfl (lv_at hl 1 rfl) ?_
  refine law_arg X hX hbl hbA hi hL hS hl (k0 := 0) (k4 := 4) rfl rfl (k := 1) (by decide) rfl dL_law_1173 dL_law_1174 dL_law_1176 dL_law_1177 dL_law_1178 ?_
  refine law_arg X hX hbl hbA hi hL hS hl (k0 := 0) (k4 := 4) rfl rfl (k := 2) (by decide) rfl dL_law_1179 dL_law_1180 dL_law_1182 dL_law_1183 dL_law_1184 ?_
  refine law_arg X hX hbl hbA hi hL hS hl (k0 := 0) (k4 := 4) rfl rfl (k := 3) (by decide) rfl dL_law_1185 dL_law_1186 dL_law_1188 dL_law_1189 dL_law_1190 ?_
  refine lv_aload_n hx hb dL_law_1191 rfl (lv_at hl 3 rfl) ?_
  obtain ⟨r, er⟩ : ∃ r : Int32 × Int32 × zG, r = ((fRecord (gNow G) (xs (i + 1)) (xs (i + 2)) (xs (i + 3))).1, (fRecord (gNow G) (xs (i + 1)) (xs (i + 2)) (xs (i + 3))).2, G) := ⟨_, rfl⟩
  refine z_wL (Wf := fun z : zCls × (Nat → Int64) => wO cJ o z.2 ++ cl_X10 cI cJ cS a z.1) (Wn := fun z : zCls × (Nat → Int64) => lwW cI cJ cS o z.2 a z.1 am v) (wr := cl_X11 cI cJ am v) (As := [.ref (a 0), .int (xs (i + 1)), .int (xs (i + 2)), .int (xs (i + 3)), .ref o]) (rest := []) X fro_Fw hFw (c_L_record l hlt dC dI cI cJ cS a u o f (xs (i + 1)) (xs (i + 2)) (xs (i + 3)) (lQ r) (by rw [er]; exact ⟨B, G, hok, by omega, hc, co2 (r := ((fRecord (gNow G) (xs (i + 1)) (xs (i + 2)) (xs (i + 3))).1, (fRecord (gNow G) (xs (i + 1)) (xs (i + 2)) (xs (i + 3))).2, G)) (fc_record (gNow G) (xs (i + 1)) (xs (i + 2)) (xs (i + 3)))⟩) _) w_cw_record q_ml_L_179 ⟨rfl, rfl⟩ ⟨Nat.le_of_ble_eq_true rfl, Nat.le_of_ble_eq_true rfl⟩ hP hD hS hA List.perm_append_comm (fun _ => List.perm_append_comm) hl.1 rfl rfl (Nat.le_of_ble_eq_true rfl) ⟨by show cells + 2 ≤ 601024; omega, by show slots + 12 ≤ 7293034; omega⟩ dL_law_1192 (fun r5 z H locs hq hP hD hS => ?_)
  obtain ⟨f1, ef1⟩ : ∃ q, q = z.2 := ⟨_, rfl⟩
  obtain ⟨u1, eu1⟩ : ∃ q, q = z.1 := ⟨_, rfl⟩
  obtain ⟨e5, hc1, h0⟩ := hq
  rw [← ef1] at hP hD h0
  rw [← eu1] at hP hD hc1
  refine lv_istore (lv' := [(5, .int r5), (0, .ref b), (1, .ref (a 0)), (2, .ref (am 0)), (3, .ref o), (4, .int (nI i))]) hx hb dL_law_1195 hl (by decide) rfl (fun ls hl => ?_)
  refine lv_aload_n hx hb dL_law_1197 rfl (lv_at hl 3 rfl) ?_
  refine law_arg X hX hbl hbA hi hL hS hl (k0 := 1) (k4 := 5) rfl rfl (k := 1) (by decide) rfl dL_law_1198 dL_law_1199 dL_law_1201 dL_law_1202 dL_law_1203 ?_
  refine law_arg X hX hbl hbA hi hL hS hl (k0 := 1) (k4 := 5) rfl rfl (k := 2) (by decide) rfl dL_law_1204 dL_law_1205 dL_law_1207 dL_law_1208 dL_law_1209 ?_
  refine law_arg X hX hbl hbA hi hL hS hl (k0 := 1) (k4 := 5) rfl rfl (k := 3) (by decide) rfl dL_law_1210 dL_law_1211 dL_law_1213 dL_law_1214 dL_law_1215 ?_
  refine z_pVi (Wn := fun z => lwW cI cJ cS o f1 a u1 am z) (wr := wO cJ o f1 ++ cl_X10 cI cJ cS a u1) (As := [.int (xs (i + 1)), .int (xs (i + 2)), .int (xs (i + 3))]) (rest := []) X (c_X11_record l dC dI cI cJ cS am v (xs (i + 1)) (xs (i + 2)) (xs (i + 3)) (fun q z => q = r.2.1 ∧ mG r.2.2 z ∧ z.1 = r.1) (by rw [er]; exact ⟨B, G, hok, hm, fun v1 q1 q2 => ⟨rfl, q1, q2⟩⟩) _) zc_X11_record q_ml_L_181 ⟨rfl, rfl⟩ ⟨Nat.le_of_ble_eq_true rfl, Nat.le_of_ble_eq_true rfl⟩ hP hD hS hA (List.Perm.refl _) (fun _ => List.Perm.refl _) 10 rfl rfl hl.1 rfl rfl (Nat.le_of_ble_eq_true rfl) ⟨by show cells + 2 ≤ 601024; omega, by show slots + 12 ≤ 7293034; omega⟩ dL_law_1216 (fun r6 v1 H locs hq hP hD hS => ?_)
  obtain ⟨e6, hm1, hv1⟩ := hq
  refine lv_istore (lv' := [(6, .int r6), (5, .int r5), (0, .ref b), (1, .ref (a 0)), (2, .ref (am 0)), (3, .ref o), (4, .int (nI i))]) hx hb dL_law_1219 hl (by decide) rfl (fun ls hl => ?_)
  exact law_tail (r := r) X (by omega) (by omega) hcs e5 h0 e6 hv1 (by rw [er]; exact og_ask hok (by omega)) hc1 hm1 hP hD hS hl dL_law_1221 dL_law_1222 dL_law_1225 dL_law_1227 dL_law_1232 dL_law_1234 dL_law_1237 dL_law_1238 dL_law_1239 dL_law_1240 dL_law_1242 dL_law_1243 dL_law_1244 dL_law_1249 (by decide) kk
set_option maxHeartbeats 4000000 in
set_option maxRecDepth 100000 in
theorem lawc_22 (X : zX p s m args meth c cL_law 7 ret RL dC dI cI cJ cS) (hFw : zFw A s s.heap) (hlt : l.stackTraces = false) (hX : va_X b L xs s s.heap) (hbl : b < s.heap.size) (hbA : ¬ A b) (hA : ∀ q : Nat, s.heap.size ≤ q → A q) (hi : i + 6 ≤ L) (hL : L ≤ 3072) (hok : okG B G) (hB : B + 400 ≤ 400000) (hc : cG G u) (hm : mG G v) (hP : va_P (dC, dI) vwCl (lwW cI cJ cS o f a u am v) H) (hD : va_D A (lwW cI cJ cS o f a u am v)) (hS : va_S A s.heap H locs) (hl : lv_has ls 7 [(0, .ref b), (1, .ref (a 0)), (2, .ref (am 0)), (3, .ref o), (4, .int (nI i))]) (hcs : cells + 3 ≤ 601024 ∧ slots + 18 ≤ 7293034)
    (kk : ∀ (G' : zG) (u' : zCls) (v' : zModel) (f' : Nat → Int64) (H' : Heap) (locs' : List Loc) (ls' : Array Slot), okG (B + 280) G' → cG G' u' → mG G' v' → va_P (dC, dI) vwCl (lwW cI cJ cS o f' a u' am v') H' → va_D A (lwW cI cJ cS o f' a u' am v') → va_S A s.heap H' locs' → lv_has ls' 7 [(0, .ref b), (1, .ref (a 0)), (2, .ref (am 0)), (3, .ref o), (4, .int (nI i))] → W p l e room_1 s m args below meth c H' locs' (cells + 3) (slots + 18) Q (F0 m 1942 ls' [])) : W p l e room_1 s m args below meth c H locs cells slots Q (F0 m 1252 ls []) := by
  obtain ⟨⟨hx, hb, hml, hown, hts⟩, hr, hlk, hK⟩ := id X
  refine lv_aload_n hx hb dL_law_1252 rfl (lv_at hl 1 rfl) ?_
  refine law_arg X hX hbl hbA hi hL hS hl (k0 := 0) (k4 := 4) rfl rfl (k := 1) (by decide) rfl dL_law_1253 dL_law_1254 dL_law_1256 dL_law_1257 dL_law_1258 ?_
  refine law_arg X hX hbl hbA hi hL hS hl (k0 := 0) (k4 := 4) rfl rfl (k := 2) (by decide) rfl dL_law_1259 dL_law_1260 dL_law_1262 dL_law_1263 dL_law_1264 ?_
  refine lv_aload_n hx hb dL_law_1265 rfl (lv_at hl 3 rfl) ?_
  obtain ⟨r, er⟩ : ∃ r : Int32 × Int32 × zG, r = ((fRun (gNow G) (xs (i + 1)) (xs (i + 2))).1, (fRun (gNow G) (xs (i + 1)) (xs (i + 2))).2, G) := ⟨_, rfl⟩
  refine z_wL (Wf := fun z : zCls × (Nat → Int64) => wO cJ o z.2 ++ cl_X10 cI cJ cS a z.1) (Wn := fun z : zCls × (Nat → Int64) => lwW cI cJ cS o z.2 a z.1 am v) (wr := cl_X11 cI cJ am v) (As := [.ref (a 0), .int (xs (i + 1)), .int (xs (i + 2)), .ref o]) (rest := []) X fro_Fw hFw (c_L_run l hlt dC dI cI cJ cS a u o f (xs (i + 1)) (xs (i + 2)) (lQ r) (by rw [er]; exact ⟨B, G, hok, by omega, hc, co2 (r := ((fRun (gNow G) (xs (i + 1)) (xs (i + 2))).1, (fRun (gNow G) (xs (i + 1)) (xs (i + 2))).2, G)) (fc_run (gNow G) (xs (i + 1)) (xs (i + 2)))⟩) _) w_cw_run q_ml_L_182 ⟨rfl, rfl⟩ ⟨Nat.le_of_ble_eq_true rfl, Nat.le_of_ble_eq_true rfl⟩ hP hD hS hA List.perm_append_comm (fun _ => List.perm_append_comm) hl.1 rfl rfl (Nat.le_of_ble_eq_true rfl) ⟨by show cells + 2 ≤ 601024; omega, by show slots + 12 ≤ 7293034; omega⟩ dL_law_1266 (fun r5 z H locs hq hP hD hS => ?_)
  obtain ⟨f1, ef1⟩ : ∃ q, q = z.2 := ⟨_, rfl⟩
  obtain ⟨u1, eu1⟩ : ∃ q, q = z.1 := ⟨_, rfl⟩
  obtain ⟨e5, hc1, h0⟩ := hq
  rw [← ef1] at hP hD h0
  rw [← eu1] at hP hD hc1
  refine lv_istore (lv' := [(5, .int r5), (0, .ref b), (1, .ref (a 0)), (2, .ref (am 0)), (3, .ref o), (4, .int (nI i))]) hx hb dL_law_1269 hl (by decide) rfl (fun ls hl => ?_)
  refine lv_aload_n hx hb dL_law_1271 rfl (lv_at hl 3 rfl) ?_
  refine law_arg X hX hbl hbA hi hL hS hl (k0 := 1) (k4 := 5) rfl rfl (k := 1) (by decide) rfl dL_law_1272 dL_law_1273 dL_law_1275 dL_law_1276 dL_law_1277 ?_
  refine law_arg X hX hbl hbA hi hL hS hl (k0 := 1) (k4 := 5) rfl rfl (k := 2) (by decide) rfl dL_law_1278 dL_law_1279 dL_law_1281 dL_law_1282 dL_law_1283 ?_
  refine z_pVi (Wn := fun z => lwW cI cJ cS o f1 a u1 am z) (wr := wO cJ o f1 ++ cl_X10 cI cJ cS a u1) (As := [.int (xs (i + 1)), .int (xs (i + 2))]) (rest := []) X (c_X11_run l dC dI cI cJ cS am v (xs (i + 1)) (xs (i + 2)) (fun q z => q = r.2.1 ∧ mG r.2.2 z ∧ z.1 = r.1) (by rw [er]; exact ⟨B, G, hok, hm, fun v1 q1 q2 => ⟨rfl, q1, q2⟩⟩) _) zc_X11_run q_ml_L_184 ⟨rfl, rfl⟩ ⟨Nat.le_of_ble_eq_true rfl, Nat.le_of_ble_eq_true rfl⟩ hP hD hS hA (List.Perm.refl _) (fun _ => List.Perm.refl _) 10 rfl rfl hl.1 rfl rfl (Nat.le_of_ble_eq_true rfl) ⟨by show cells + 2 ≤ 601024; omega, by show slots + 12 ≤ 7293034; omega⟩ dL_law_1284 (fun r6 v1 H locs hq hP hD hS => ?_)
  obtain ⟨e6, hm1, hv1⟩ := hq
  refine lv_istore (lv' := [(6, .int r6), (5, .int r5), (0, .ref b), (1, .ref (a 0)), (2, .ref (am 0)), (3, .ref o), (4, .int (nI i))]) hx hb dL_law_1287 hl (by decide) rfl (fun ls hl => ?_)
  exact law_tail (r := r) X (by omega) (by omega) hcs e5 h0 e6 hv1 (by rw [er]; exact og_ask hok (by omega)) hc1 hm1 hP hD hS hl dL_law_1289 dL_law_1290 dL_law_1293 dL_law_1295 dL_law_1300 dL_law_1302 dL_law_1305 dL_law_1306 dL_law_1307 dL_law_1308 dL_law_1310 dL_law_1311 dL_law_1312 dL_law_1317 (by decide) kk
set_option maxHeartbeats 4000000 in
set_option maxRecDepth 100000 in
theorem lawc_23 (X : zX p s m args meth c cL_law 7 ret RL dC dI cI cJ cS) (hFw : zFw A s s.heap) (hlt : l.stackTraces = false) (hX : va_X b L xs s s.heap) (hbl : b < s.heap.size) (hbA : ¬ A b) (hA : ∀ q : Nat, s.heap.size ≤ q → A q) (hi : i + 6 ≤ L) (hL : L ≤ 3072) (hok : okG B G) (hB : B + 400 ≤ 400000) (hc : cG G u) (hm : mG G v) (hP : va_P (dC, dI) vwCl (lwW cI cJ cS o f a u am v) H) (hD : va_D A (lwW cI cJ cS o f a u am v)) (hS : va_S A s.heap H locs) (hl : lv_has ls 7 [(0, .ref b), (1, .ref (a 0)), (2, .ref (am 0)), (3, .ref o), (4, .int (nI i))]) (hcs : cells + 3 ≤ 601024 ∧ slots + 18 ≤ 7293034)
    (kk : ∀ (G' : zG) (u' : zCls) (v' : zModel) (f' : Nat → Int64) (H' : Heap) (locs' : List Loc) (ls' : Array Slot), okG (B + 280) G' → cG G' u' → mG G' v' → va_P (dC, dI) vwCl (lwW cI cJ cS o f' a u' am v') H' → va_D A (lwW cI cJ cS o f' a u' am v') → va_S A s.heap H' locs' → lv_has ls' 7 [(0, .ref b), (1, .ref (a 0)), (2, .ref (am 0)), (3, .ref o), (4, .int (nI i))] → W p l e room_1 s m args below meth c H' locs' (cells + 3) (slots + 18) Q (F0 m 1942 ls' [])) : W p l e room_1 s m args below meth c H locs cells slots Q (F0 m 1320 ls []) := by
  obtain ⟨⟨hx, hb, hml, hown, hts⟩, hr, hlk, hK⟩ := id X
  refine lv_aload_n hx hb dL_law_1320 rfl (lv_at hl 1 rfl) ?_
  refine law_arg X hX hbl hbA hi hL hS hl (k0 := 0) (k4 := 4) rfl rfl (k := 1) (by decide) rfl dL_law_1321 dL_law_1322 dL_law_1324 dL_law_1325 dL_law_1326 ?_
  refine law_arg X hX hbl hbA hi hL hS hl (k0 := 0) (k4 := 4) rfl rfl (k := 2) (by decide) rfl dL_law_1327 dL_law_1328 dL_law_1330 dL_law_1331 dL_law_1332 ?_
  refine lv_aload_n hx hb dL_law_1333 rfl (lv_at hl 3 rfl) ?_
  obtain ⟨r, er⟩ : ∃ r : Int32 × Int32 × zG, r = ((fEntry (gNow G) (xs (i + 1)) (xs (i + 2))).1, (fEntry (gNow G) (xs (i + 1)) (xs (i + 2))).2, G) := ⟨_, rfl⟩
  refine z_wL (Wf := fun z : zCls × (Nat → Int64) => wO cJ o z.2 ++ cl_X10 cI cJ cS a z.1) (Wn := fun z : zCls × (Nat → Int64) => lwW cI cJ cS o z.2 a z.1 am v) (wr := cl_X11 cI cJ am v) (As := [.ref (a 0), .int (xs (i + 1)), .int (xs (i + 2)), .ref o]) (rest := []) X fro_Fw hFw (c_L_entry l hlt dC dI cI cJ cS a u o f (xs (i + 1)) (xs (i + 2)) (lQ r) (by rw [er]; exact ⟨B, G, hok, by omega, hc, co1 (r := ((fEntry (gNow G) (xs (i + 1)) (xs (i + 2))).1, (fEntry (gNow G) (xs (i + 1)) (xs (i + 2))).2, G)) (fc_entry (gNow G) (xs (i + 1)) (xs (i + 2)))⟩) _) w_cw_entry q_ml_L_185 ⟨rfl, rfl⟩ ⟨Nat.le_of_ble_eq_true rfl, Nat.le_of_ble_eq_true rfl⟩ hP hD hS hA List.perm_append_comm (fun _ => List.perm_append_comm) hl.1 rfl rfl (Nat.le_of_ble_eq_true rfl) ⟨by show cells + 1 ≤ 601024; omega, by show slots + 6 ≤ 7293034; omega⟩ dL_law_1334 (fun r5 z H locs hq hP hD hS => ?_)
  obtain ⟨f1, ef1⟩ : ∃ q, q = z.2 := ⟨_, rfl⟩
  obtain ⟨u1, eu1⟩ : ∃ q, q = z.1 := ⟨_, rfl⟩
  obtain ⟨e5, hc1, h0⟩ := hq
  rw [← ef1] at hP hD h0
  rw [← eu1] at hP hD hc1
  refine lv_istore (lv' := [(5, .int r5), (0, .ref b), (1, .ref (a 0)), (2, .ref (am 0)), (3, .ref o), (4, .int (nI i))]) hx hb dL_law_1337 hl (by decide) rfl (fun ls hl => ?_)
  refine lv_aload_n hx hb dL_law_1339 rfl (lv_at hl 3 rfl) ?_
  refine law_arg X hX hbl hbA hi hL hS hl (k0 := 1) (k4 := 5) rfl rfl (k := 1) (by decide) rfl dL_law_1340 dL_law_1341 dL_law_1343 dL_law_1344 dL_law_1345 ?_
  refine law_arg X hX hbl hbA hi hL hS hl (k0 := 1) (k4 := 5) rfl rfl (k := 2) (by decide) rfl dL_law_1346 dL_law_1347 dL_law_1349 dL_law_1350 dL_law_1351 ?_
  refine z_pVi (Wn := fun z => lwW cI cJ cS o f1 a u1 am z) (wr := wO cJ o f1 ++ cl_X10 cI cJ cS a u1) (As := [.int (xs (i + 1)), .int (xs (i + 2))]) (rest := []) X (c_X11_entry l dC dI cI cJ cS am v (xs (i + 1)) (xs (i + 2)) (fun q z => q = r.2.1 ∧ mG r.2.2 z ∧ z.1 = r.1) (by rw [er]; exact ⟨B, G, hok, hm, fun v1 q1 q2 => ⟨rfl, q1, q2⟩⟩) _) zc_X11_entry q_ml_L_187 ⟨rfl, rfl⟩ ⟨Nat.le_of_ble_eq_true rfl, Nat.le_of_ble_eq_true rfl⟩ hP hD hS hA (List.Perm.refl _) (fun _ => List.Perm.refl _) 10 rfl rfl hl.1 rfl rfl (Nat.le_of_ble_eq_true rfl) ⟨by show cells + 1 ≤ 601024; omega, by show slots + 6 ≤ 7293034; omega⟩ dL_law_1352 (fun r6 v1 H locs hq hP hD hS => ?_)
  obtain ⟨e6, hm1, hv1⟩ := hq
  refine lv_istore (lv' := [(6, .int r6), (5, .int r5), (0, .ref b), (1, .ref (a 0)), (2, .ref (am 0)), (3, .ref o), (4, .int (nI i))]) hx hb dL_law_1355 hl (by decide) rfl (fun ls hl => ?_)
  exact law_tail (r := r) X (by omega) (by omega) hcs e5 h0 e6 hv1 (by rw [er]; exact og_ask hok (by omega)) hc1 hm1 hP hD hS hl dL_law_1357 dL_law_1358 dL_law_1361 dL_law_1363 dL_law_1368 dL_law_1370 dL_law_1373 dL_law_1374 dL_law_1375 dL_law_1376 dL_law_1378 dL_law_1379 dL_law_1380 dL_law_1385 (by decide) kk
set_option maxHeartbeats 4000000 in
set_option maxRecDepth 100000 in
theorem lawc_24 (X : zX p s m args meth c cL_law 7 ret RL dC dI cI cJ cS) (hFw : zFw A s s.heap) (hlt : l.stackTraces = false) (hX : va_X b L xs s s.heap) (hbl : b < s.heap.size) (hbA : ¬ A b) (hA : ∀ q : Nat, s.heap.size ≤ q → A q) (hi : i + 6 ≤ L) (hL : L ≤ 3072) (hok : okG B G) (hB : B + 400 ≤ 400000) (hc : cG G u) (hm : mG G v) (hP : va_P (dC, dI) vwCl (lwW cI cJ cS o f a u am v) H) (hD : va_D A (lwW cI cJ cS o f a u am v)) (hS : va_S A s.heap H locs) (hl : lv_has ls 7 [(0, .ref b), (1, .ref (a 0)), (2, .ref (am 0)), (3, .ref o), (4, .int (nI i))]) (hcs : cells + 3 ≤ 601024 ∧ slots + 18 ≤ 7293034)
    (kk : ∀ (G' : zG) (u' : zCls) (v' : zModel) (f' : Nat → Int64) (H' : Heap) (locs' : List Loc) (ls' : Array Slot), okG (B + 280) G' → cG G' u' → mG G' v' → va_P (dC, dI) vwCl (lwW cI cJ cS o f' a u' am v') H' → va_D A (lwW cI cJ cS o f' a u' am v') → va_S A s.heap H' locs' → lv_has ls' 7 [(0, .ref b), (1, .ref (a 0)), (2, .ref (am 0)), (3, .ref o), (4, .int (nI i))] → W p l e room_1 s m args below meth c H' locs' (cells + 3) (slots + 18) Q (F0 m 1942 ls' [])) : W p l e room_1 s m args below meth c H locs cells slots Q (F0 m 1388 ls []) := by
  obtain ⟨⟨hx, hb, hml, hown, hts⟩, hr, hlk, hK⟩ := id X
  refine lv_aload_n hx hb dL_law_1388 rfl (lv_at hl 1 rfl) ?_
  refine law_arg X hX hbl hbA hi hL hS hl (k0 := 0) (k4 := 4) rfl rfl (k := 1) (by decide) rfl dL_law_1389 dL_law_1390 dL_law_1392 dL_law_1393 dL_law_1394 ?_
  refine law_arg X hX hbl hbA hi hL hS hl (k0 := 0) (k4 := 4) rfl rfl (k := 2) (by decide) rfl dL_law_1395 dL_law_1396 dL_law_1398 dL_law_1399 dL_law_1400 ?_
  refine lv_aload_n hx hb dL_law_1401 rfl (lv_at hl 3 rfl) ?_
  obtain ⟨r, er⟩ : ∃ r : Int32 × Int32 × zG, r = ((fOverlap (gNow G) (xs (i + 1)) (xs (i + 2))).1, (fOverlap (gNow G) (xs (i + 1)) (xs (i + 2))).2, G) := ⟨_, rfl⟩
  refine z_wL (Wf := fun z : zCls × (Nat → Int64) => wO cJ o z.2 ++ cl_X10 cI cJ cS a z.1) (Wn := fun z : zCls × (Nat → Int64) => lwW cI cJ cS o z.2 a z.1 am v) (wr := cl_X11 cI cJ am v) (As := [.ref (a 0), .int (xs (i + 1)), .int (xs (i + 2)), .ref o]) (rest := []) X fro_Fw hFw (c_L_overlap l hlt dC dI cI cJ cS a u o f (xs (i + 1)) (xs (i + 2)) (lQ r) (by rw [er]; exact ⟨B, G, hok, by omega, hc, co2 (r := ((fOverlap (gNow G) (xs (i + 1)) (xs (i + 2))).1, (fOverlap (gNow G) (xs (i + 1)) (xs (i + 2))).2, G)) (fc_overlap (gNow G) (xs (i + 1)) (xs (i + 2)))⟩) _) w_cw_overlap q_ml_L_188 ⟨rfl, rfl⟩ ⟨Nat.le_of_ble_eq_true rfl, Nat.le_of_ble_eq_true rfl⟩ hP hD hS hA List.perm_append_comm (fun _ => List.perm_append_comm) hl.1 rfl rfl (Nat.le_of_ble_eq_true rfl) ⟨by show cells + 3 ≤ 601024; omega, by show slots + 18 ≤ 7293034; omega⟩ dL_law_1402 (fun r5 z H locs hq hP hD hS => ?_)
  obtain ⟨f1, ef1⟩ : ∃ q, q = z.2 := ⟨_, rfl⟩
  obtain ⟨u1, eu1⟩ : ∃ q, q = z.1 := ⟨_, rfl⟩
  obtain ⟨e5, hc1, h0⟩ := hq
  rw [← ef1] at hP hD h0
  rw [← eu1] at hP hD hc1
  refine lv_istore (lv' := [(5, .int r5), (0, .ref b), (1, .ref (a 0)), (2, .ref (am 0)), (3, .ref o), (4, .int (nI i))]) hx hb dL_law_1405 hl (by decide) rfl (fun ls hl => ?_)
  refine lv_aload_n hx hb dL_law_1407 rfl (lv_at hl 3 rfl) ?_
  refine law_arg X hX hbl hbA hi hL hS hl (k0 := 1) (k4 := 5) rfl rfl (k := 1) (by decide) rfl dL_law_1408 dL_law_1409 dL_law_1411 dL_law_1412 dL_law_1413 ?_
  refine law_arg X hX hbl hbA hi hL hS hl (k0 := 1) (k4 := 5) rfl rfl (k := 2) (by decide) rfl dL_law_1414 dL_law_1415 dL_law_1417 dL_law_1418 dL_law_1419 ?_
  refine z_pVi (Wn := fun z => lwW cI cJ cS o f1 a u1 am z) (wr := wO cJ o f1 ++ cl_X10 cI cJ cS a u1) (As := [.int (xs (i + 1)), .int (xs (i + 2))]) (rest := []) X (c_X11_overlap l dC dI cI cJ cS am v (xs (i + 1)) (xs (i + 2)) (fun q z => q = r.2.1 ∧ mG r.2.2 z ∧ z.1 = r.1) (by rw [er]; exact ⟨B, G, hok, hm, fun v1 q1 q2 => ⟨rfl, q1, q2⟩⟩) _) zc_X11_overlap q_ml_L_190 ⟨rfl, rfl⟩ ⟨Nat.le_of_ble_eq_true rfl, Nat.le_of_ble_eq_true rfl⟩ hP hD hS hA (List.Perm.refl _) (fun _ => List.Perm.refl _) 10 rfl rfl hl.1 rfl rfl (Nat.le_of_ble_eq_true rfl) ⟨by show cells + 3 ≤ 601024; omega, by show slots + 18 ≤ 7293034; omega⟩ dL_law_1420 (fun r6 v1 H locs hq hP hD hS => ?_)
  obtain ⟨e6, hm1, hv1⟩ := hq
  refine lv_istore (lv' := [(6, .int r6), (5, .int r5), (0, .ref b), (1, .ref (a 0)), (2, .ref (am 0)), (3, .ref o), (4, .int (nI i))]) hx hb dL_law_1423 hl (by decide) rfl (fun ls hl => ?_)
  exact law_tail (r := r) X (by omega) (by omega) hcs e5 h0 e6 hv1 (by rw [er]; exact og_ask hok (by omega)) hc1 hm1 hP hD hS hl dL_law_1425 dL_law_1426 dL_law_1429 dL_law_1431 dL_law_1436 dL_law_1438 dL_law_1441 dL_law_1442 dL_law_1443 dL_law_1444 dL_law_1446 dL_law_1447 dL_law_1448 dL_law_1453 (by decide) kk
set_option maxHeartbeats 4000000 in
set_option maxRecDepth 100000 in
theorem lawc_25 (X : zX p s m args meth c cL_law 7 ret RL dC dI cI cJ cS) (hFw : zFw A s s.heap) (hlt : l.stackTraces = false) (hX : va_X b L xs s s.heap) (hbl : b < s.heap.size) (hbA : ¬ A b) (hA : ∀ q : Nat, s.heap.size ≤ q → A q) (hi : i + 6 ≤ L) (hL : L ≤ 3072) (hok : okG B G) (hB : B + 400 ≤ 400000) (hc : cG G u) (hm : mG G v) (hP : va_P (dC, dI) vwCl (lwW cI cJ cS o f a u am v) H) (hD : va_D A (lwW cI cJ cS o f a u am v)) (hS : va_S A s.heap H locs) (hl : lv_has ls 7 [(0, .ref b), (1, .ref (a 0)), (2, .ref (am 0)), (3, .ref o), (4, .int (nI i))]) (hcs : cells + 3 ≤ 601024 ∧ slots + 18 ≤ 7293034)
    (kk : ∀ (G' : zG) (u' : zCls) (v' : zModel) (f' : Nat → Int64) (H' : Heap) (locs' : List Loc) (ls' : Array Slot), okG (B + 280) G' → cG G' u' → mG G' v' → va_P (dC, dI) vwCl (lwW cI cJ cS o f' a u' am v') H' → va_D A (lwW cI cJ cS o f' a u' am v') → va_S A s.heap H' locs' → lv_has ls' 7 [(0, .ref b), (1, .ref (a 0)), (2, .ref (am 0)), (3, .ref o), (4, .int (nI i))] → W p l e room_1 s m args below meth c H' locs' (cells + 3) (slots + 18) Q (F0 m 1942 ls' [])) : W p l e room_1 s m args below meth c H locs cells slots Q (F0 m 1456 ls []) := by
  obtain ⟨⟨hx, hb, hml, hown, hts⟩, hr, hlk, hK⟩ := id X
  refine lv_aload_n hx hb dL_law_1456 rfl (lv_at hl 1 rfl) ?_
  refine law_arg X hX hbl hbA hi hL hS hl (k0 := 0) (k4 := 4) rfl rfl (k := 1) (by decide) rfl dL_law_1457 dL_law_1458 dL_law_1460 dL_law_1461 dL_law_1462 ?_
  refine law_arg X hX hbl hbA hi hL hS hl (k0 := 0) (k4 := 4) rfl rfl (k := 2) (by decide) rfl dL_law_1463 dL_law_1464 dL_law_1466 dL_law_1467 dL_law_1468 ?_
  refine law_bool X dL_law_1469 dL_law_1472 dL_law_1473 dL_law_1476 ?_
  refine lv_aload_n hx hb dL_law_1477 rfl (lv_at hl 3 rfl) ?_
  obtain ⟨r, er⟩ : ∃ r : Int32 × Int32 × zG, r = ((fRank (gNow G) (xs (i + 1)) (if xs (i + 2) = 0 then 0 else 1)).1, (fRank (gNow G) (xs (i + 1)) (if xs (i + 2) = 0 then 0 else 1)).2, G) := ⟨_, rfl⟩
  refine z_wL (Wf := fun z : zCls × (Nat → Int64) => wO cJ o z.2 ++ cl_X10 cI cJ cS a z.1) (Wn := fun z : zCls × (Nat → Int64) => lwW cI cJ cS o z.2 a z.1 am v) (wr := cl_X11 cI cJ am v) (As := [.ref (a 0), .int (xs (i + 1)), .int (if xs (i + 2) = 0 then 0 else 1), .ref o]) (rest := []) X fro_Fw hFw (c_L_rank l hlt dC dI cI cJ cS a u o f (xs (i + 1)) (if xs (i + 2) = 0 then 0 else 1) (lQ r) (by rw [er]; exact ⟨B, G, hok, by omega, hc, co1 (r := ((fRank (gNow G) (xs (i + 1)) (if xs (i + 2) = 0 then 0 else 1)).1, (fRank (gNow G) (xs (i + 1)) (if xs (i + 2) = 0 then 0 else 1)).2, G)) (fc_rank (gNow G) (xs (i + 1)) (if xs (i + 2) = 0 then 0 else 1))⟩) _) w_cw_rank q_ml_L_191 ⟨rfl, rfl⟩ ⟨Nat.le_of_ble_eq_true rfl, Nat.le_of_ble_eq_true rfl⟩ hP hD hS hA List.perm_append_comm (fun _ => List.perm_append_comm) hl.1 rfl rfl (Nat.le_of_ble_eq_true rfl) ⟨by show cells + 1 ≤ 601024; omega, by show slots + 6 ≤ 7293034; omega⟩ dL_law_1478 (fun r5 z H locs hq hP hD hS => ?_)
  obtain ⟨f1, ef1⟩ : ∃ q, q = z.2 := ⟨_, rfl⟩
  obtain ⟨u1, eu1⟩ : ∃ q, q = z.1 := ⟨_, rfl⟩
  obtain ⟨e5, hc1, h0⟩ := hq
  rw [← ef1] at hP hD h0
  rw [← eu1] at hP hD hc1
  refine lv_istore (lv' := [(5, .int r5), (0, .ref b), (1, .ref (a 0)), (2, .ref (am 0)), (3, .ref o), (4, .int (nI i))]) hx hb dL_law_1481 hl (by decide) rfl (fun ls hl => ?_)
  refine lv_aload_n hx hb dL_law_1483 rfl (lv_at hl 3 rfl) ?_
  refine law_arg X hX hbl hbA hi hL hS hl (k0 := 1) (k4 := 5) rfl rfl (k := 1) (by decide) rfl dL_law_1484 dL_law_1485 dL_law_1487 dL_law_1488 dL_law_1489 ?_
  refine law_arg X hX hbl hbA hi hL hS hl (k0 := 1) (k4 := 5) rfl rfl (k := 2) (by decide) rfl dL_law_1490 dL_law_1491 dL_law_1493 dL_law_1494 dL_law_1495 ?_
  refine law_bool X dL_law_1496 dL_law_1499 dL_law_1500 dL_law_1503 ?_
  refine z_pVi (Wn := fun z => lwW cI cJ cS o f1 a u1 am z) (wr := wO cJ o f1 ++ cl_X10 cI cJ cS a u1) (As := [.int (xs (i + 1)), .int (if xs (i + 2) = 0 then 0 else 1)]) (rest := []) X (c_X11_rank l dC dI cI cJ cS am v (xs (i + 1)) (if xs (i + 2) = 0 then 0 else 1) (fun q z => q = r.2.1 ∧ mG r.2.2 z ∧ z.1 = r.1) (by rw [er]; exact ⟨B, G, hok, hm, fun v1 q1 q2 => ⟨rfl, q1, q2⟩⟩) _) zc_X11_rank q_ml_L_194 ⟨rfl, rfl⟩ ⟨Nat.le_of_ble_eq_true rfl, Nat.le_of_ble_eq_true rfl⟩ hP hD hS hA (List.Perm.refl _) (fun _ => List.Perm.refl _) 10 rfl rfl hl.1 rfl rfl (Nat.le_of_ble_eq_true rfl) ⟨by show cells + 1 ≤ 601024; omega, by show slots + 6 ≤ 7293034; omega⟩ dL_law_1504 (fun r6 v1 H locs hq hP hD hS => ?_)
  obtain ⟨e6, hm1, hv1⟩ := hq
  refine lv_istore (lv' := [(6, .int r6), (5, .int r5), (0, .ref b), (1, .ref (a 0)), (2, .ref (am 0)), (3, .ref o), (4, .int (nI i))]) hx hb dL_law_1507 hl (by decide) rfl (fun ls hl => ?_)
  exact law_tail (r := r) X (by omega) (by omega) hcs e5 h0 e6 hv1 (by rw [er]; exact og_ask hok (by omega)) hc1 hm1 hP hD hS hl dL_law_1509 dL_law_1510 dL_law_1513 dL_law_1515 dL_law_1520 dL_law_1522 dL_law_1525 dL_law_1526 dL_law_1527 dL_law_1528 dL_law_1530 dL_law_1531 dL_law_1532 dL_law_1537 (by decide) kk
set_option maxHeartbeats 4000000 in
set_option maxRecDepth 100000 in
theorem lawc_27 (X : zX p s m args meth c cL_law 7 ret RL dC dI cI cJ cS) (hFw : zFw A s s.heap) (hlt : l.stackTraces = false) (hX : va_X b L xs s s.heap) (hbl : b < s.heap.size) (hbA : ¬ A b) (hA : ∀ q : Nat, s.heap.size ≤ q → A q) (hi : i + 6 ≤ L) (hL : L ≤ 3072) (hok : okG B G) (hB : B + 400 ≤ 400000) (hc : cG G u) (hm : mG G v) (hP : va_P (dC, dI) vwCl (lwW cI cJ cS o f a u am v) H) (hD : va_D A (lwW cI cJ cS o f a u am v)) (hS : va_S A s.heap H locs) (hl : lv_has ls 7 [(0, .ref b), (1, .ref (a 0)), (2, .ref (am 0)), (3, .ref o), (4, .int (nI i))]) (hcs : cells + 3 ≤ 601024 ∧ slots + 18 ≤ 7293034)
    (kk : ∀ (G' : zG) (u' : zCls) (v' : zModel) (f' : Nat → Int64) (H' : Heap) (locs' : List Loc) (ls' : Array Slot), okG (B + 280) G' → cG G' u' → mG G' v' → va_P (dC, dI) vwCl (lwW cI cJ cS o f' a u' am v') H' → va_D A (lwW cI cJ cS o f' a u' am v') → va_S A s.heap H' locs' → lv_has ls' 7 [(0, .ref b), (1, .ref (a 0)), (2, .ref (am 0)), (3, .ref o), (4, .int (nI i))] → W p l e room_1 s m args below meth c H' locs' (cells + 3) (slots + 18) Q (F0 m 1942 ls' [])) : W p l e room_1 s m args below meth c H locs cells slots Q (F0 m 1565 ls []) := by
  obtain ⟨⟨hx, hb, hml, hown, hts⟩, hr, hlk, hK⟩ := id X
  refine lv_aload_n hx hb dL_law_1565 rfl (lv_at hl 1 rfl) ?_
  refine law_arg X hX hbl hbA hi hL hS hl (k0 := 0) (k4 := 4) rfl rfl (k := 1) (by decide) rfl dL_law_1566 dL_law_1567 dL_law_1569 dL_law_1570 dL_law_1571 ?_
  refine lv_aload_n hx hb dL_law_1572 rfl (lv_at hl 3 rfl) ?_
  obtain ⟨r, er⟩ : ∃ r : Int32 × Int32 × zG, r = ((fHolds (gNow G) (xs (i + 1))).1, (fHolds (gNow G) (xs (i + 1))).2, G) := ⟨_, rfl⟩
  refine z_wL (Wf := fun z : zCls × (Nat → Int64) => wO cJ o z.2 ++ cl_X10 cI cJ cS a z.1) (Wn := fun z : zCls × (Nat → Int64) => lwW cI cJ cS o z.2 a z.1 am v) (wr := cl_X11 cI cJ am v) (As := [.ref (a 0), .int (xs (i + 1)), .ref o]) (rest := []) X fro_Fw hFw (c_L_holds l hlt dC dI cI cJ cS a u o f (xs (i + 1)) (lQ r) (by rw [er]; exact ⟨B, G, hok, by omega, hc, co1 (r := ((fHolds (gNow G) (xs (i + 1))).1, (fHolds (gNow G) (xs (i + 1))).2, G)) (fc_holds (gNow G) (xs (i + 1)))⟩) _) w_cw_holds q_ml_L_199 ⟨rfl, rfl⟩ ⟨Nat.le_of_ble_eq_true rfl, Nat.le_of_ble_eq_true rfl⟩ hP hD hS hA List.perm_append_comm (fun _ => List.perm_append_comm) hl.1 rfl rfl (Nat.le_of_ble_eq_true rfl) ⟨by show cells + 1 ≤ 601024; omega, by show slots + 6 ≤ 7293034; omega⟩ dL_law_1573 (fun r5 z H locs hq hP hD hS => ?_)
  obtain ⟨f1, ef1⟩ : ∃ q, q = z.2 := ⟨_, rfl⟩
  obtain ⟨u1, eu1⟩ : ∃ q, q = z.1 := ⟨_, rfl⟩
  obtain ⟨e5, hc1, h0⟩ := hq
  rw [← ef1] at hP hD h0
  rw [← eu1] at hP hD hc1
  refine lv_istore (lv' := [(5, .int r5), (0, .ref b), (1, .ref (a 0)), (2, .ref (am 0)), (3, .ref o), (4, .int (nI i))]) hx hb dL_law_1576 hl (by decide) rfl (fun ls hl => ?_)
  refine lv_aload_n hx hb dL_law_1578 rfl (lv_at hl 3 rfl) ?_
  refine law_arg X hX hbl hbA hi hL hS hl (k0 := 1) (k4 := 5) rfl rfl (k := 1) (by decide) rfl dL_law_1579 dL_law_1580 dL_law_1582 dL_law_1583 dL_law_1584 ?_
  refine z_pVi (Wn := fun z => lwW cI cJ cS o f1 a u1 am z) (wr := wO cJ o f1 ++ cl_X10 cI cJ cS a u1) (As := [.int (xs (i + 1))]) (rest := []) X (c_X11_holds l dC dI cI cJ cS am v (xs (i + 1)) (fun q z => q = r.2.1 ∧ mG r.2.2 z ∧ z.1 = r.1) (by rw [er]; exact ⟨B, G, hok, by omega, hm, fun v1 q1 q2 => ⟨rfl, q1, q2⟩⟩) _) zc_X11_holds q_ml_L_201 ⟨rfl, rfl⟩ ⟨Nat.le_of_ble_eq_true rfl, Nat.le_of_ble_eq_true rfl⟩ hP hD hS hA (List.Perm.refl _) (fun _ => List.Perm.refl _) 10 rfl rfl hl.1 rfl rfl (Nat.le_of_ble_eq_true rfl) ⟨by show cells + 1 ≤ 601024; omega, by show slots + 6 ≤ 7293034; omega⟩ dL_law_1585 (fun r6 v1 H locs hq hP hD hS => ?_)
  obtain ⟨e6, hm1, hv1⟩ := hq
  refine lv_istore (lv' := [(6, .int r6), (5, .int r5), (0, .ref b), (1, .ref (a 0)), (2, .ref (am 0)), (3, .ref o), (4, .int (nI i))]) hx hb dL_law_1588 hl (by decide) rfl (fun ls hl => ?_)
  exact law_tail (r := r) X (by omega) (by omega) hcs e5 h0 e6 hv1 (by rw [er]; exact og_ask hok (by omega)) hc1 hm1 hP hD hS hl dL_law_1590 dL_law_1591 dL_law_1594 dL_law_1596 dL_law_1601 dL_law_1603 dL_law_1606 dL_law_1607 dL_law_1608 dL_law_1609 dL_law_1611 dL_law_1612 dL_law_1613 dL_law_1618 (by decide) kk
set_option maxHeartbeats 4000000 in
set_option maxRecDepth 100000 in
theorem lawc_28 (X : zX p s m args meth c cL_law 7 ret RL dC dI cI cJ cS) (hFw : zFw A s s.heap) (hlt : l.stackTraces = false) (hX : va_X b L xs s s.heap) (hbl : b < s.heap.size) (hbA : ¬ A b) (hA : ∀ q : Nat, s.heap.size ≤ q → A q) (hi : i + 6 ≤ L) (hL : L ≤ 3072) (hok : okG B G) (hB : B + 400 ≤ 400000) (hc : cG G u) (hm : mG G v) (hP : va_P (dC, dI) vwCl (lwW cI cJ cS o f a u am v) H) (hD : va_D A (lwW cI cJ cS o f a u am v)) (hS : va_S A s.heap H locs) (hl : lv_has ls 7 [(0, .ref b), (1, .ref (a 0)), (2, .ref (am 0)), (3, .ref o), (4, .int (nI i))]) (hcs : cells + 3 ≤ 601024 ∧ slots + 18 ≤ 7293034)
    (kk : ∀ (G' : zG) (u' : zCls) (v' : zModel) (f' : Nat → Int64) (H' : Heap) (locs' : List Loc) (ls' : Array Slot), okG (B + 280) G' → cG G' u' → mG G' v' → va_P (dC, dI) vwCl (lwW cI cJ cS o f' a u' am v') H' → va_D A (lwW cI cJ cS o f' a u' am v') → va_S A s.heap H' locs' → lv_has ls' 7 [(0, .ref b), (1, .ref (a 0)), (2, .ref (am 0)), (3, .ref o), (4, .int (nI i))] → W p l e room_1 s m args below meth c H' locs' (cells + 3) (slots + 18) Q (F0 m 1942 ls' [])) : W p l e room_1 s m args below meth c H locs cells slots Q (F0 m 1621 ls []) := by
  obtain ⟨⟨hx, hb, hml, hown, hts⟩, hr, hlk, hK⟩ := id X
  refine lv_aload_n hx hb dL_law_1621 rfl (lv_at hl 1 rfl) ?_
  refine law_arg X hX hbl hbA hi hL hS hl (k0 := 0) (k4 := 4) rfl rfl (k := 1) (by decide) rfl dL_law_1622 dL_law_1623 dL_law_1625 dL_law_1626 dL_law_1627 ?_
  refine law_arg X hX hbl hbA hi hL hS hl (k0 := 0) (k4 := 4) rfl rfl (k := 2) (by decide) rfl dL_law_1628 dL_law_1629 dL_law_1631 dL_law_1632 dL_law_1633 ?_
  refine lv_aload_n hx hb dL_law_1634 rfl (lv_at hl 3 rfl) ?_
  obtain ⟨r, er⟩ : ∃ r : Int32 × Int32 × zG, r = ((fWould (gNow G) (xs (i + 1)) (xs (i + 2))).1, (fWould (gNow G) (xs (i + 1)) (xs (i + 2))).2, G) := ⟨_, rfl⟩
  refine z_wL (Wf := fun z : zCls × (Nat → Int64) => wO cJ o z.2 ++ cl_X10 cI cJ cS a z.1) (Wn := fun z : zCls × (Nat → Int64) => lwW cI cJ cS o z.2 a z.1 am v) (wr := cl_X11 cI cJ am v) (As := [.ref (a 0), .int (xs (i + 1)), .int (xs (i + 2)), .ref o]) (rest := []) X fro_Fw hFw (c_L_would l hlt dC dI cI cJ cS a u o f (xs (i + 1)) (xs (i + 2)) (lQ r) (by rw [er]; exact ⟨B, G, hok, by omega, hc, co2 (r := ((fWould (gNow G) (xs (i + 1)) (xs (i + 2))).1, (fWould (gNow G) (xs (i + 1)) (xs (i + 2))).2, G)) (fc_would (gNow G) (xs (i + 1)) (xs (i + 2)))⟩) _) w_cw_would q_ml_L_202 ⟨rfl, rfl⟩ ⟨Nat.le_of_ble_eq_true rfl, Nat.le_of_ble_eq_true rfl⟩ hP hD hS hA List.perm_append_comm (fun _ => List.perm_append_comm) hl.1 rfl rfl (Nat.le_of_ble_eq_true rfl) ⟨by show cells + 2 ≤ 601024; omega, by show slots + 12 ≤ 7293034; omega⟩ dL_law_1635 (fun r5 z H locs hq hP hD hS => ?_)
  obtain ⟨f1, ef1⟩ : ∃ q, q = z.2 := ⟨_, rfl⟩
  obtain ⟨u1, eu1⟩ : ∃ q, q = z.1 := ⟨_, rfl⟩
  obtain ⟨e5, hc1, h0⟩ := hq
  rw [← ef1] at hP hD h0
  rw [← eu1] at hP hD hc1
  refine lv_istore (lv' := [(5, .int r5), (0, .ref b), (1, .ref (a 0)), (2, .ref (am 0)), (3, .ref o), (4, .int (nI i))]) hx hb dL_law_1638 hl (by decide) rfl (fun ls hl => ?_)
  refine lv_aload_n hx hb dL_law_1640 rfl (lv_at hl 3 rfl) ?_
  refine law_arg X hX hbl hbA hi hL hS hl (k0 := 1) (k4 := 5) rfl rfl (k := 1) (by decide) rfl dL_law_1641 dL_law_1642 dL_law_1644 dL_law_1645 dL_law_1646 ?_
  refine law_arg X hX hbl hbA hi hL hS hl (k0 := 1) (k4 := 5) rfl rfl (k := 2) (by decide) rfl dL_law_1647 dL_law_1648 dL_law_1650 dL_law_1651 dL_law_1652 ?_
  refine z_pVi (Wn := fun z => lwW cI cJ cS o f1 a u1 am z) (wr := wO cJ o f1 ++ cl_X10 cI cJ cS a u1) (As := [.int (xs (i + 1)), .int (xs (i + 2))]) (rest := []) X (c_X11_would l dC dI cI cJ cS am v (xs (i + 1)) (xs (i + 2)) (fun q z => q = r.2.1 ∧ mG r.2.2 z ∧ z.1 = r.1) (by rw [er]; exact ⟨B, G, hok, by omega, hm, fun v1 q1 q2 => ⟨rfl, q1, q2⟩⟩) _) zc_X11_would q_ml_L_204 ⟨rfl, rfl⟩ ⟨Nat.le_of_ble_eq_true rfl, Nat.le_of_ble_eq_true rfl⟩ hP hD hS hA (List.Perm.refl _) (fun _ => List.Perm.refl _) 10 rfl rfl hl.1 rfl rfl (Nat.le_of_ble_eq_true rfl) ⟨by show cells + 2 ≤ 601024; omega, by show slots + 12 ≤ 7293034; omega⟩ dL_law_1653 (fun r6 v1 H locs hq hP hD hS => ?_)
  obtain ⟨e6, hm1, hv1⟩ := hq
  refine lv_istore (lv' := [(6, .int r6), (5, .int r5), (0, .ref b), (1, .ref (a 0)), (2, .ref (am 0)), (3, .ref o), (4, .int (nI i))]) hx hb dL_law_1656 hl (by decide) rfl (fun ls hl => ?_)
  exact law_tail (r := r) X (by omega) (by omega) hcs e5 h0 e6 hv1 (by rw [er]; exact og_ask hok (by omega)) hc1 hm1 hP hD hS hl dL_law_1658 dL_law_1659 dL_law_1662 dL_law_1664 dL_law_1669 dL_law_1671 dL_law_1674 dL_law_1675 dL_law_1676 dL_law_1677 dL_law_1679 dL_law_1680 dL_law_1681 dL_law_1686 (by decide) kk
set_option maxHeartbeats 4000000 in
set_option maxRecDepth 100000 in
theorem lawc_29 (X : zX p s m args meth c cL_law 7 ret RL dC dI cI cJ cS) (hFw : zFw A s s.heap) (hlt : l.stackTraces = false) (hX : va_X b L xs s s.heap) (hbl : b < s.heap.size) (hbA : ¬ A b) (hA : ∀ q : Nat, s.heap.size ≤ q → A q) (hi : i + 6 ≤ L) (hL : L ≤ 3072) (hok : okG B G) (hB : B + 400 ≤ 400000) (hc : cG G u) (hm : mG G v) (hP : va_P (dC, dI) vwCl (lwW cI cJ cS o f a u am v) H) (hD : va_D A (lwW cI cJ cS o f a u am v)) (hS : va_S A s.heap H locs) (hl : lv_has ls 7 [(0, .ref b), (1, .ref (a 0)), (2, .ref (am 0)), (3, .ref o), (4, .int (nI i))]) (hcs : cells + 3 ≤ 601024 ∧ slots + 18 ≤ 7293034)
    (kk : ∀ (G' : zG) (u' : zCls) (v' : zModel) (f' : Nat → Int64) (H' : Heap) (locs' : List Loc) (ls' : Array Slot), okG (B + 280) G' → cG G' u' → mG G' v' → va_P (dC, dI) vwCl (lwW cI cJ cS o f' a u' am v') H' → va_D A (lwW cI cJ cS o f' a u' am v') → va_S A s.heap H' locs' → lv_has ls' 7 [(0, .ref b), (1, .ref (a 0)), (2, .ref (am 0)), (3, .ref o), (4, .int (nI i))] → W p l e room_1 s m args below meth c H' locs' (cells + 3) (slots + 18) Q (F0 m 1942 ls' [])) : W p l e room_1 s m args below meth c H locs cells slots Q (F0 m 1689 ls []) := by
  obtain ⟨⟨hx, hb, hml, hown, hts⟩, hr, hlk, hK⟩ := id X
  refine lv_aload_n hx hb dL_law_1689 rfl (lv_at hl 1 rfl) ?_
  refine law_arg X hX hbl hbA hi hL hS hl (k0 := 0) (k4 := 4) rfl rfl (k := 1) (by decide) rfl dL_law_1690 dL_law_1691 dL_law_1693 dL_law_1694 dL_law_1695 ?_
  refine law_arg X hX hbl hbA hi hL hS hl (k0 := 0) (k4 := 4) rfl rfl (k := 2) (by decide) rfl dL_law_1696 dL_law_1697 dL_law_1699 dL_law_1700 dL_law_1701 ?_
  refine lv_aload_n hx hb dL_law_1702 rfl (lv_at hl 3 rfl) ?_
  obtain ⟨r, er⟩ : ∃ r : Int32 × Int32 × zG, r = ((fSweep (gNow G) (xs (i + 1)) (xs (i + 2))).1, (fSweep (gNow G) (xs (i + 1)) (xs (i + 2))).2, G) := ⟨_, rfl⟩
  refine z_wL (Wf := fun z : zCls × (Nat → Int64) => wO cJ o z.2 ++ cl_X10 cI cJ cS a z.1) (Wn := fun z : zCls × (Nat → Int64) => lwW cI cJ cS o z.2 a z.1 am v) (wr := cl_X11 cI cJ am v) (As := [.ref (a 0), .int (xs (i + 1)), .int (xs (i + 2)), .ref o]) (rest := []) X fro_Fw hFw (c_L_sweep l hlt dC dI cI cJ cS a u o f (xs (i + 1)) (xs (i + 2)) (lQ r) (by rw [er]; exact ⟨B, G, hok, by omega, hc, co2 (r := ((fSweep (gNow G) (xs (i + 1)) (xs (i + 2))).1, (fSweep (gNow G) (xs (i + 1)) (xs (i + 2))).2, G)) (fc_sweep (gNow G) (xs (i + 1)) (xs (i + 2)))⟩) _) w_cw_sweep q_ml_L_205 ⟨rfl, rfl⟩ ⟨Nat.le_of_ble_eq_true rfl, Nat.le_of_ble_eq_true rfl⟩ hP hD hS hA List.perm_append_comm (fun _ => List.perm_append_comm) hl.1 rfl rfl (Nat.le_of_ble_eq_true rfl) ⟨by show cells + 1 ≤ 601024; omega, by show slots + 6 ≤ 7293034; omega⟩ dL_law_1703 (fun r5 z H locs hq hP hD hS => ?_)
  obtain ⟨f1, ef1⟩ : ∃ q, q = z.2 := ⟨_, rfl⟩
  obtain ⟨u1, eu1⟩ : ∃ q, q = z.1 := ⟨_, rfl⟩
  obtain ⟨e5, hc1, h0⟩ := hq
  rw [← ef1] at hP hD h0
  rw [← eu1] at hP hD hc1
  refine lv_istore (lv' := [(5, .int r5), (0, .ref b), (1, .ref (a 0)), (2, .ref (am 0)), (3, .ref o), (4, .int (nI i))]) hx hb dL_law_1706 hl (by decide) rfl (fun ls hl => ?_)
  refine lv_aload_n hx hb dL_law_1708 rfl (lv_at hl 3 rfl) ?_
  refine law_arg X hX hbl hbA hi hL hS hl (k0 := 1) (k4 := 5) rfl rfl (k := 1) (by decide) rfl dL_law_1709 dL_law_1710 dL_law_1712 dL_law_1713 dL_law_1714 ?_
  refine law_arg X hX hbl hbA hi hL hS hl (k0 := 1) (k4 := 5) rfl rfl (k := 2) (by decide) rfl dL_law_1715 dL_law_1716 dL_law_1718 dL_law_1719 dL_law_1720 ?_
  refine z_pVi (Wn := fun z => lwW cI cJ cS o f1 a u1 am z) (wr := wO cJ o f1 ++ cl_X10 cI cJ cS a u1) (As := [.int (xs (i + 1)), .int (xs (i + 2))]) (rest := []) X (c_X11_sweep l dC dI cI cJ cS am v (xs (i + 1)) (xs (i + 2)) (fun q z => q = r.2.1 ∧ mG r.2.2 z ∧ z.1 = r.1) (by rw [er]; exact ⟨B, G, hok, by omega, hm, fun v1 q1 q2 => ⟨rfl, q1, q2⟩⟩) _) zc_X11_sweep q_ml_L_207 ⟨rfl, rfl⟩ ⟨Nat.le_of_ble_eq_true rfl, Nat.le_of_ble_eq_true rfl⟩ hP hD hS hA (List.Perm.refl _) (fun _ => List.Perm.refl _) 10 rfl rfl hl.1 rfl rfl (Nat.le_of_ble_eq_true rfl) ⟨by show cells + 1 ≤ 601024; omega, by show slots + 6 ≤ 7293034; omega⟩ dL_law_1721 (fun r6 v1 H locs hq hP hD hS => ?_)
  obtain ⟨e6, hm1, hv1⟩ := hq
  refine lv_istore (lv' := [(6, .int r6), (5, .int r5), (0, .ref b), (1, .ref (a 0)), (2, .ref (am 0)), (3, .ref o), (4, .int (nI i))]) hx hb dL_law_1724 hl (by decide) rfl (fun ls hl => ?_)
  exact law_tail (r := r) X (by omega) (by omega) hcs e5 h0 e6 hv1 (by rw [er]; exact og_ask hok (by omega)) hc1 hm1 hP hD hS hl dL_law_1726 dL_law_1727 dL_law_1730 dL_law_1732 dL_law_1737 dL_law_1739 dL_law_1742 dL_law_1743 dL_law_1744 dL_law_1745 dL_law_1747 dL_law_1748 dL_law_1749 dL_law_1754 (by decide) kk
set_option maxHeartbeats 4000000 in
set_option maxRecDepth 100000 in
theorem lawc_30 (X : zX p s m args meth c cL_law 7 ret RL dC dI cI cJ cS) (hFw : zFw A s s.heap) (hlt : l.stackTraces = false) (hX : va_X b L xs s s.heap) (hbl : b < s.heap.size) (hbA : ¬ A b) (hA : ∀ q : Nat, s.heap.size ≤ q → A q) (hi : i + 6 ≤ L) (hL : L ≤ 3072) (hok : okG B G) (hB : B + 400 ≤ 400000) (hc : cG G u) (hm : mG G v) (hP : va_P (dC, dI) vwCl (lwW cI cJ cS o f a u am v) H) (hD : va_D A (lwW cI cJ cS o f a u am v)) (hS : va_S A s.heap H locs) (hl : lv_has ls 7 [(0, .ref b), (1, .ref (a 0)), (2, .ref (am 0)), (3, .ref o), (4, .int (nI i))]) (hcs : cells + 3 ≤ 601024 ∧ slots + 18 ≤ 7293034)
    (kk : ∀ (G' : zG) (u' : zCls) (v' : zModel) (f' : Nat → Int64) (H' : Heap) (locs' : List Loc) (ls' : Array Slot), okG (B + 280) G' → cG G' u' → mG G' v' → va_P (dC, dI) vwCl (lwW cI cJ cS o f' a u' am v') H' → va_D A (lwW cI cJ cS o f' a u' am v') → va_S A s.heap H' locs' → lv_has ls' 7 [(0, .ref b), (1, .ref (a 0)), (2, .ref (am 0)), (3, .ref o), (4, .int (nI i))] → W p l e room_1 s m args below meth c H' locs' (cells + 3) (slots + 18) Q (F0 m 1942 ls' [])) : W p l e room_1 s m args below meth c H locs cells slots Q (F0 m 1757 ls []) := by
  obtain ⟨⟨hx, hb, hml, hown, hts⟩, hr, hlk, hK⟩ := id X
  refine lv_aload_n hx hb dL_law_1757 rfl (lv_at hl 1 rfl) ?_
  refine law_arg X hX hbl hbA hi hL hS hl (k0 := 0) (k4 := 4) rfl rfl (k := 1) (by decide) rfl dL_law_1758 dL_law_1759 dL_law_1761 dL_law_1762 dL_law_1763 ?_
  refine law_arg X hX hbl hbA hi hL hS hl (k0 := 0) (k4 := 4) rfl rfl (k := 2) (by decide) rfl dL_law_1764 dL_law_1765 dL_law_1767 dL_law_1768 dL_law_1769 ?_
  refine lv_aload_n hx hb dL_law_1770 rfl (lv_at hl 3 rfl) ?_
  obtain ⟨r, er⟩ : ∃ r : Int32 × Int32 × zG, r = ((fTraces (gNow G) (xs (i + 1)) (xs (i + 2))).1, (fTraces (gNow G) (xs (i + 1)) (xs (i + 2))).2, G) := ⟨_, rfl⟩
  refine z_wL (Wf := fun z : zCls × (Nat → Int64) => wO cJ o z.2 ++ cl_X10 cI cJ cS a z.1) (Wn := fun z : zCls × (Nat → Int64) => lwW cI cJ cS o z.2 a z.1 am v) (wr := cl_X11 cI cJ am v) (As := [.ref (a 0), .int (xs (i + 1)), .int (xs (i + 2)), .ref o]) (rest := []) X fro_Fw hFw (c_L_traces l hlt dC dI cI cJ cS a u o f (xs (i + 1)) (xs (i + 2)) (lQ r) (by rw [er]; exact ⟨B, G, hok, by omega, hc, co2 (r := ((fTraces (gNow G) (xs (i + 1)) (xs (i + 2))).1, (fTraces (gNow G) (xs (i + 1)) (xs (i + 2))).2, G)) (fc_traces (gNow G) (xs (i + 1)) (xs (i + 2)))⟩) _) w_cw_traces q_ml_L_208 ⟨rfl, rfl⟩ ⟨Nat.le_of_ble_eq_true rfl, Nat.le_of_ble_eq_true rfl⟩ hP hD hS hA List.perm_append_comm (fun _ => List.perm_append_comm) hl.1 rfl rfl (Nat.le_of_ble_eq_true rfl) ⟨by show cells + 2 ≤ 601024; omega, by show slots + 12 ≤ 7293034; omega⟩ dL_law_1771 (fun r5 z H locs hq hP hD hS => ?_)
  obtain ⟨f1, ef1⟩ : ∃ q, q = z.2 := ⟨_, rfl⟩
  obtain ⟨u1, eu1⟩ : ∃ q, q = z.1 := ⟨_, rfl⟩
  obtain ⟨e5, hc1, h0⟩ := hq
  rw [← ef1] at hP hD h0
  rw [← eu1] at hP hD hc1
  refine lv_istore (lv' := [(5, .int r5), (0, .ref b), (1, .ref (a 0)), (2, .ref (am 0)), (3, .ref o), (4, .int (nI i))]) hx hb dL_law_1774 hl (by decide) rfl (fun ls hl => ?_)
  refine lv_aload_n hx hb dL_law_1776 rfl (lv_at hl 3 rfl) ?_
  refine law_arg X hX hbl hbA hi hL hS hl (k0 := 1) (k4 := 5) rfl rfl (k := 1) (by decide) rfl dL_law_1777 dL_law_1778 dL_law_1780 dL_law_1781 dL_law_1782 ?_
  refine law_arg X hX hbl hbA hi hL hS hl (k0 := 1) (k4 := 5) rfl rfl (k := 2) (by decide) rfl dL_law_1783 dL_law_1784 dL_law_1786 dL_law_1787 dL_law_1788 ?_
  refine z_pVi (Wn := fun z => lwW cI cJ cS o f1 a u1 am z) (wr := wO cJ o f1 ++ cl_X10 cI cJ cS a u1) (As := [.int (xs (i + 1)), .int (xs (i + 2))]) (rest := []) X (c_X11_traces l dC dI cI cJ cS am v (xs (i + 1)) (xs (i + 2)) (fun q z => q = r.2.1 ∧ mG r.2.2 z ∧ z.1 = r.1) (by rw [er]; exact ⟨B, G, hok, hm, fun v1 q1 q2 => ⟨rfl, q1, q2⟩⟩) _) zc_X11_traces q_ml_L_210 ⟨rfl, rfl⟩ ⟨Nat.le_of_ble_eq_true rfl, Nat.le_of_ble_eq_true rfl⟩ hP hD hS hA (List.Perm.refl _) (fun _ => List.Perm.refl _) 10 rfl rfl hl.1 rfl rfl (Nat.le_of_ble_eq_true rfl) ⟨by show cells + 2 ≤ 601024; omega, by show slots + 12 ≤ 7293034; omega⟩ dL_law_1789 (fun r6 v1 H locs hq hP hD hS => ?_)
  obtain ⟨e6, hm1, hv1⟩ := hq
  refine lv_istore (lv' := [(6, .int r6), (5, .int r5), (0, .ref b), (1, .ref (a 0)), (2, .ref (am 0)), (3, .ref o), (4, .int (nI i))]) hx hb dL_law_1792 hl (by decide) rfl (fun ls hl => ?_)
  exact law_tail (r := r) X (by omega) (by omega) hcs e5 h0 e6 hv1 (by rw [er]; exact og_ask hok (by omega)) hc1 hm1 hP hD hS hl dL_law_1794 dL_law_1795 dL_law_1798 dL_law_1800 dL_law_1805 dL_law_1807 dL_law_1810 dL_law_1811 dL_law_1812 dL_law_1813 dL_law_1815 dL_law_1816 dL_law_1817 dL_law_1822 (by decide) kk
set_option maxHeartbeats 4000000 in
set_option maxRecDepth 100000 in
theorem lawc_31 (X : zX p s m args meth c cL_law 7 ret RL dC dI cI cJ cS) (hFw : zFw A s s.heap) (hlt : l.stackTraces = false) (hX : va_X b L xs s s.heap) (hbl : b < s.heap.size) (hbA : ¬ A b) (hA : ∀ q : Nat, s.heap.size ≤ q → A q) (hi : i + 6 ≤ L) (hL : L ≤ 3072) (hok : okG B G) (hB : B + 400 ≤ 400000) (hc : cG G u) (hm : mG G v) (hP : va_P (dC, dI) vwCl (lwW cI cJ cS o f a u am v) H) (hD : va_D A (lwW cI cJ cS o f a u am v)) (hS : va_S A s.heap H locs) (hl : lv_has ls 7 [(0, .ref b), (1, .ref (a 0)), (2, .ref (am 0)), (3, .ref o), (4, .int (nI i))]) (hcs : cells + 3 ≤ 601024 ∧ slots + 18 ≤ 7293034)
    (kk : ∀ (G' : zG) (u' : zCls) (v' : zModel) (f' : Nat → Int64) (H' : Heap) (locs' : List Loc) (ls' : Array Slot), okG (B + 280) G' → cG G' u' → mG G' v' → va_P (dC, dI) vwCl (lwW cI cJ cS o f' a u' am v') H' → va_D A (lwW cI cJ cS o f' a u' am v') → va_S A s.heap H' locs' → lv_has ls' 7 [(0, .ref b), (1, .ref (a 0)), (2, .ref (am 0)), (3, .ref o), (4, .int (nI i))] → W p l e room_1 s m args below meth c H' locs' (cells + 3) (slots + 18) Q (F0 m 1942 ls' [])) : W p l e room_1 s m args below meth c H locs cells slots Q (F0 m 1825 ls []) := by
  obtain ⟨⟨hx, hb, hml, hown, hts⟩, hr, hlk, hK⟩ := id X
  refine lv_aload_n hx hb dL_law_1825 rfl (lv_at hl 1 rfl) ?_
  refine law_arg X hX hbl hbA hi hL hS hl (k0 := 0) (k4 := 4) rfl rfl (k := 1) (by decide) rfl dL_law_1826 dL_law_1827 dL_law_1829 dL_law_1830 dL_law_1831 ?_
  refine law_arg X hX hbl hbA hi hL hS hl (k0 := 0) (k4 := 4) rfl rfl (k := 2) (by decide) rfl dL_law_1832 dL_law_1833 dL_law_1835 dL_law_1836 dL_law_1837 ?_
  refine lv_aload_n hx hb dL_law_1838 rfl (lv_at hl 3 rfl) ?_
  obtain ⟨r, er⟩ : ∃ r : Int32 × Int32 × zG, r = ((fLog (gNow G) (xs (i + 1)) (xs (i + 2))).1, (fLog (gNow G) (xs (i + 1)) (xs (i + 2))).2, G) := ⟨_, rfl⟩
  refine z_wL (Wf := fun z : zCls × (Nat → Int64) => wO cJ o z.2 ++ cl_X10 cI cJ cS a z.1) (Wn := fun z : zCls × (Nat → Int64) => lwW cI cJ cS o z.2 a z.1 am v) (wr := cl_X11 cI cJ am v) (As := [.ref (a 0), .int (xs (i + 1)), .int (xs (i + 2)), .ref o]) (rest := []) X fro_Fw hFw (c_L_log l hlt dC dI cI cJ cS a u o f (xs (i + 1)) (xs (i + 2)) (lQ r) (by rw [er]; exact ⟨B, G, hok, by omega, hc, co1 (r := ((fLog (gNow G) (xs (i + 1)) (xs (i + 2))).1, (fLog (gNow G) (xs (i + 1)) (xs (i + 2))).2, G)) (fc_log (gNow G) (xs (i + 1)) (xs (i + 2)))⟩) _) w_cw_log q_ml_L_211 ⟨rfl, rfl⟩ ⟨Nat.le_of_ble_eq_true rfl, Nat.le_of_ble_eq_true rfl⟩ hP hD hS hA List.perm_append_comm (fun _ => List.perm_append_comm) hl.1 rfl rfl (Nat.le_of_ble_eq_true rfl) ⟨by show cells + 1 ≤ 601024; omega, by show slots + 6 ≤ 7293034; omega⟩ dL_law_1839 (fun r5 z H locs hq hP hD hS => ?_)
  obtain ⟨f1, ef1⟩ : ∃ q, q = z.2 := ⟨_, rfl⟩
  obtain ⟨u1, eu1⟩ : ∃ q, q = z.1 := ⟨_, rfl⟩
  obtain ⟨e5, hc1, h0⟩ := hq
  rw [← ef1] at hP hD h0
  rw [← eu1] at hP hD hc1
  refine lv_istore (lv' := [(5, .int r5), (0, .ref b), (1, .ref (a 0)), (2, .ref (am 0)), (3, .ref o), (4, .int (nI i))]) hx hb dL_law_1842 hl (by decide) rfl (fun ls hl => ?_)
  refine lv_aload_n hx hb dL_law_1844 rfl (lv_at hl 3 rfl) ?_
  refine law_arg X hX hbl hbA hi hL hS hl (k0 := 1) (k4 := 5) rfl rfl (k := 1) (by decide) rfl dL_law_1845 dL_law_1846 dL_law_1848 dL_law_1849 dL_law_1850 ?_
  refine law_arg X hX hbl hbA hi hL hS hl (k0 := 1) (k4 := 5) rfl rfl (k := 2) (by decide) rfl dL_law_1851 dL_law_1852 dL_law_1854 dL_law_1855 dL_law_1856 ?_
  refine z_pVi (Wn := fun z => lwW cI cJ cS o f1 a u1 am z) (wr := wO cJ o f1 ++ cl_X10 cI cJ cS a u1) (As := [.int (xs (i + 1)), .int (xs (i + 2))]) (rest := []) X (c_X11_log l dC dI cI cJ cS am v (xs (i + 1)) (xs (i + 2)) (fun q z => q = r.2.1 ∧ mG r.2.2 z ∧ z.1 = r.1) (by rw [er]; exact ⟨B, G, hok, hm, fun v1 q1 q2 => ⟨rfl, q1, q2⟩⟩) _) zc_X11_log q_ml_L_213 ⟨rfl, rfl⟩ ⟨Nat.le_of_ble_eq_true rfl, Nat.le_of_ble_eq_true rfl⟩ hP hD hS hA (List.Perm.refl _) (fun _ => List.Perm.refl _) 10 rfl rfl hl.1 rfl rfl (Nat.le_of_ble_eq_true rfl) ⟨by show cells + 1 ≤ 601024; omega, by show slots + 6 ≤ 7293034; omega⟩ dL_law_1857 (fun r6 v1 H locs hq hP hD hS => ?_)
  obtain ⟨e6, hm1, hv1⟩ := hq
  refine lv_istore (lv' := [(6, .int r6), (5, .int r5), (0, .ref b), (1, .ref (a 0)), (2, .ref (am 0)), (3, .ref o), (4, .int (nI i))]) hx hb dL_law_1860 hl (by decide) rfl (fun ls hl => ?_)
  exact law_tail (r := r) X (by omega) (by omega) hcs e5 h0 e6 hv1 (by rw [er]; exact og_ask hok (by omega)) hc1 hm1 hP hD hS hl dL_law_1862 dL_law_1863 dL_law_1866 dL_law_1868 dL_law_1873 dL_law_1875 dL_law_1878 dL_law_1879 dL_law_1880 dL_law_1881 dL_law_1883 dL_law_1884 dL_law_1885 dL_law_1890 (by decide) kk
set_option maxHeartbeats 4000000 in
set_option maxRecDepth 100000 in
theorem lawc_32 (X : zX p s m args meth c cL_law 7 ret RL dC dI cI cJ cS) (hFw : zFw A s s.heap) (hlt : l.stackTraces = false) (hX : va_X b L xs s s.heap) (hbl : b < s.heap.size) (hbA : ¬ A b) (hA : ∀ q : Nat, s.heap.size ≤ q → A q) (hi : i + 6 ≤ L) (hL : L ≤ 3072) (hok : okG B G) (hB : B + 400 ≤ 400000) (hc : cG G u) (hm : mG G v) (hP : va_P (dC, dI) vwCl (lwW cI cJ cS o f a u am v) H) (hD : va_D A (lwW cI cJ cS o f a u am v)) (hS : va_S A s.heap H locs) (hl : lv_has ls 7 [(0, .ref b), (1, .ref (a 0)), (2, .ref (am 0)), (3, .ref o), (4, .int (nI i))]) (hcs : cells + 3 ≤ 601024 ∧ slots + 18 ≤ 7293034)
    (kk : ∀ (G' : zG) (u' : zCls) (v' : zModel) (f' : Nat → Int64) (H' : Heap) (locs' : List Loc) (ls' : Array Slot), okG (B + 280) G' → cG G' u' → mG G' v' → va_P (dC, dI) vwCl (lwW cI cJ cS o f' a u' am v') H' → va_D A (lwW cI cJ cS o f' a u' am v') → va_S A s.heap H' locs' → lv_has ls' 7 [(0, .ref b), (1, .ref (a 0)), (2, .ref (am 0)), (3, .ref o), (4, .int (nI i))] → W p l e room_1 s m args below meth c H' locs' (cells + 3) (slots + 18) Q (F0 m 1942 ls' [])) : W p l e room_1 s m args below meth c H locs cells slots Q (F0 m 1893 ls []) := by
  obtain ⟨⟨hx, hb, hml, hown, hts⟩, hr, hlk, hK⟩ := id X
  refine lv_aload_n hx hb dL_law_1893 rfl (lv_at hl 1 rfl) ?_
  refine z_pVv (Wn := fun z => lwW cI cJ cS o f a z am v) (wr := wO cJ o f ++ cl_X11 cI cJ am v) (As := []) (rest := []) X (c_X10_image l dC dI cI cJ cS a u (fun z => cG (fImage G) z) (lx_image hc) _) zc_X10_image q_ml_L_214 ⟨rfl, rfl⟩ ⟨Nat.le_of_ble_eq_true rfl, Nat.le_of_ble_eq_true rfl⟩ hP hD hS hA (px_l _ _ _) (fun _ => px_l _ _ _) 9 rfl rfl hl.1 rfl rfl (Nat.le_of_ble_eq_true rfl) ⟨by show cells ≤ 601024; omega, by show slots ≤ 7293034; omega⟩ dL_law_1894 (fun u1 H locs hc1 hP hD hS => ?_)
  refine lv_aload_n hx hb dL_law_1897 rfl (lv_at hl 2 rfl) ?_
  refine z_pVv (Wn := fun z => lwW cI cJ cS o f a u1 am z) (wr := wO cJ o f ++ cl_X10 cI cJ cS a u1) (As := []) (rest := []) X (c_X11_image l dC dI cI cJ cS am v (fun z => mG (fImage G) z) ⟨B, G, hok, hm, fun _ q1 => q1⟩ _) zc_X11_image q_ml_L_217 ⟨rfl, rfl⟩ ⟨Nat.le_of_ble_eq_true rfl, Nat.le_of_ble_eq_true rfl⟩ hP hD hS hA (List.Perm.refl _) (fun _ => List.Perm.refl _) 10 rfl rfl hl.1 rfl rfl (Nat.le_of_ble_eq_true rfl) ⟨by show cells ≤ 601024; omega, by show slots ≤ 7293034; omega⟩ dL_law_1898 (fun v1 H locs hm1 hP hD hS => ?_)
  refine lv_goto (tgt := 1942) hx hb dL_law_1901 (by decide) ?_
  exact W.widen (by omega) (by omega) (kk (fImage G) u1 v1 f H locs ls (og_image hok (by omega) ) hc1 hm1 hP hD hS hl)
set_option maxHeartbeats 4000000 in
set_option maxRecDepth 100000 in
theorem lawc_33 (X : zX p s m args meth c cL_law 7 ret RL dC dI cI cJ cS) (hFw : zFw A s s.heap) (hlt : l.stackTraces = false) (hX : va_X b L xs s s.heap) (hbl : b < s.heap.size) (hbA : ¬ A b) (hA : ∀ q : Nat, s.heap.size ≤ q → A q) (hi : i + 6 ≤ L) (hL : L ≤ 3072) (hok : okG B G) (hB : B + 400 ≤ 400000) (hc : cG G u) (hm : mG G v) (hP : va_P (dC, dI) vwCl (lwW cI cJ cS o f a u am v) H) (hD : va_D A (lwW cI cJ cS o f a u am v)) (hS : va_S A s.heap H locs) (hl : lv_has ls 7 [(0, .ref b), (1, .ref (a 0)), (2, .ref (am 0)), (3, .ref o), (4, .int (nI i))]) (hcs : cells + 3 ≤ 601024 ∧ slots + 18 ≤ 7293034)
    (kk : ∀ (G' : zG) (u' : zCls) (v' : zModel) (f' : Nat → Int64) (H' : Heap) (locs' : List Loc) (ls' : Array Slot), okG (B + 280) G' → cG G' u' → mG G' v' → va_P (dC, dI) vwCl (lwW cI cJ cS o f' a u' am v') H' → va_D A (lwW cI cJ cS o f' a u' am v') → va_S A s.heap H' locs' → lv_has ls' 7 [(0, .ref b), (1, .ref (a 0)), (2, .ref (am 0)), (3, .ref o), (4, .int (nI i))] → W p l e room_1 s m args below meth c H' locs' (cells + 3) (slots + 18) Q (F0 m 1942 ls' [])) : W p l e room_1 s m args below meth c H locs cells slots Q (F0 m 1904 ls []) := by
  obtain ⟨⟨hx, hb, hml, hown, hts⟩, hr, hlk, hK⟩ := id X
  refine lv_aload_n hx hb dL_law_1904 rfl (lv_at hl 1 rfl) ?_
  refine z_pVi (Wn := fun z => lwW cI cJ cS o f a z am v) (wr := wO cJ o f ++ cl_X11 cI cJ am v) (As := []) (rest := []) X (c_X10_back l dC dI cI cJ cS a u  (fun q z => q = (fBack G).1 ∧ cG (fBack G).2 z) (lx_back hok hc) _) zc_X10_back q_ml_L_218 ⟨rfl, rfl⟩ ⟨Nat.le_of_ble_eq_true rfl, Nat.le_of_ble_eq_true rfl⟩ hP hD hS hA (px_l _ _ _) (fun _ => px_l _ _ _) 9 rfl rfl hl.1 rfl rfl (Nat.le_of_ble_eq_true rfl) ⟨by show cells ≤ 601024; omega, by show slots ≤ 7293034; omega⟩ dL_law_1905 (fun r5 u1 H locs hq hP hD hS => ?_)
  obtain ⟨e5, hc1⟩ := hq.2
  refine lv_aload_n hx hb dL_law_1908 rfl (lv_at hl 2 rfl) ?_
  refine z_pVi (Wn := fun z => lwW cI cJ cS o f a u1 am z) (wr := wO cJ o f ++ cl_X10 cI cJ cS a u1) (As := []) (rest := [.int r5]) X (c_X11_back l dC dI cI cJ cS am v  (fun q z => q = (fBack G).1 ∧ mG (fBack G).2 z) (⟨B, G, hok, hm, fun v1 q1 => ⟨rfl, q1⟩⟩) _) zc_X11_back q_ml_L_222 ⟨rfl, rfl⟩ ⟨Nat.le_of_ble_eq_true rfl, Nat.le_of_ble_eq_true rfl⟩ hP hD hS hA (List.Perm.refl _) (fun _ => List.Perm.refl _) 10 rfl rfl hl.1 rfl rfl (Nat.le_of_ble_eq_true rfl) ⟨by show cells ≤ 601024; omega, by show slots ≤ 7293034; omega⟩ dL_law_1909 (fun r6 v1 H locs hq hP hD hS => ?_)
  obtain ⟨e6, hm1⟩ := hq.2
  refine lv_icmp_eq (tgt := 1942) hx hb dL_law_1912 (by decide) (fun _ => ?_) (fun h => absurd (e5.trans e6.symm) h)
  exact W.widen (by omega) (by omega) (kk (fBack G).2 u1 v1 f H locs ls (og_back hok (by omega) ) hc1 hm1 hP hD hS hl)
set_option maxHeartbeats 4000000 in
set_option maxRecDepth 100000 in
theorem lawc_34 (X : zX p s m args meth c cL_law 7 ret RL dC dI cI cJ cS) (hFw : zFw A s s.heap) (hlt : l.stackTraces = false) (hX : va_X b L xs s s.heap) (hbl : b < s.heap.size) (hbA : ¬ A b) (hA : ∀ q : Nat, s.heap.size ≤ q → A q) (hi : i + 6 ≤ L) (hL : L ≤ 3072) (hok : okG B G) (hB : B + 400 ≤ 400000) (hc : cG G u) (hm : mG G v) (hP : va_P (dC, dI) vwCl (lwW cI cJ cS o f a u am v) H) (hD : va_D A (lwW cI cJ cS o f a u am v)) (hS : va_S A s.heap H locs) (hl : lv_has ls 7 [(0, .ref b), (1, .ref (a 0)), (2, .ref (am 0)), (3, .ref o), (4, .int (nI i))]) (hcs : cells + 3 ≤ 601024 ∧ slots + 18 ≤ 7293034)
    (kk : ∀ (G' : zG) (u' : zCls) (v' : zModel) (f' : Nat → Int64) (H' : Heap) (locs' : List Loc) (ls' : Array Slot), okG (B + 280) G' → cG G' u' → mG G' v' → va_P (dC, dI) vwCl (lwW cI cJ cS o f' a u' am v') H' → va_D A (lwW cI cJ cS o f' a u' am v') → va_S A s.heap H' locs' → lv_has ls' 7 [(0, .ref b), (1, .ref (a 0)), (2, .ref (am 0)), (3, .ref o), (4, .int (nI i))] → W p l e room_1 s m args below meth c H' locs' (cells + 3) (slots + 18) Q (F0 m 1942 ls' [])) : W p l e room_1 s m args below meth c H locs cells slots Q (F0 m 1917 ls []) := by
  obtain ⟨⟨hx, hb, hml, hown, hts⟩, hr, hlk, hK⟩ := id X
  refine lv_aload_n hx hb dL_law_1917 rfl (lv_at hl 1 rfl) ?_
  refine law_arg X hX hbl hbA hi hL hS hl (k0 := 0) (k4 := 4) rfl rfl (k := 1) (by decide) rfl dL_law_1918 dL_law_1919 dL_law_1921 dL_law_1922 dL_law_1923 ?_
  refine z_pVi (Wn := fun z => lwW cI cJ cS o f a z am v) (wr := wO cJ o f ++ cl_X11 cI cJ am v) (As := [.int (xs (i + 1))]) (rest := []) X (c_X10_count l dC dI cI cJ cS a u (xs (i + 1)) (fun q z => q = aCnt (gNow G) (gUnN G) (xs (i + 1)) ∧ cG G z) (⟨B, G, hok, hc, fun u1 q1 => ⟨rfl, q1⟩⟩) _) zc_X10_count q_ml_L_223 ⟨rfl, rfl⟩ ⟨Nat.le_of_ble_eq_true rfl, Nat.le_of_ble_eq_true rfl⟩ hP hD hS hA (px_l _ _ _) (fun _ => px_l _ _ _) 9 rfl rfl hl.1 rfl rfl (Nat.le_of_ble_eq_true rfl) ⟨by show cells ≤ 601024; omega, by show slots ≤ 7293034; omega⟩ dL_law_1924 (fun r5 u1 H locs hq hP hD hS => ?_)
  obtain ⟨e5, hc1⟩ := hq
  refine lv_aload_n hx hb dL_law_1927 rfl (lv_at hl 2 rfl) ?_
  refine law_arg X hX hbl hbA hi hL hS hl (k0 := 0) (k4 := 4) rfl rfl (k := 1) (by decide) rfl dL_law_1928 dL_law_1929 dL_law_1931 dL_law_1932 dL_law_1933 ?_
  refine z_pVi (Wn := fun z => lwW cI cJ cS o f a u1 am z) (wr := wO cJ o f ++ cl_X10 cI cJ cS a u1) (As := [.int (xs (i + 1))]) (rest := [.int r5]) X (c_X11_count l dC dI cI cJ cS am v (xs (i + 1)) (fun q z => q = aCnt (gNow G) (gUnN G) (xs (i + 1)) ∧ mG G z) (⟨B, G, hok, hm, fun v1 q1 => ⟨rfl, q1⟩⟩) _) zc_X11_count q_ml_L_226 ⟨rfl, rfl⟩ ⟨Nat.le_of_ble_eq_true rfl, Nat.le_of_ble_eq_true rfl⟩ hP hD hS hA (List.Perm.refl _) (fun _ => List.Perm.refl _) 10 rfl rfl hl.1 rfl rfl (Nat.le_of_ble_eq_true rfl) ⟨by show cells ≤ 601024; omega, by show slots ≤ 7293034; omega⟩ dL_law_1934 (fun r6 v1 H locs hq hP hD hS => ?_)
  obtain ⟨e6, hm1⟩ := hq
  refine lv_icmp_eq (tgt := 1942) hx hb dL_law_1937 (by decide) (fun _ => ?_) (fun h => absurd (e5.trans e6.symm) h)
  exact W.widen (by omega) (by omega) (kk G u1 v1 f H locs ls (og_ask hok (by omega)) hc1 hm1 hP hD hS hl)
end ZL2
