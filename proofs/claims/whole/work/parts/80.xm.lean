/-! worlds in blocks: a world's order doesn't count -/
theorem va_P.perm {D : va_G} {cl : List vw_C} {w w' : va_W} {H : Heap} (h : va_P D cl w H) (hp : w.Perm w') : va_P D cl w' H := fun k q hk => by
  have hm : q ∈ w := hp.mem_iff.mpr (List.mem_of_getElem? hk)
  obtain ⟨i, hi⟩ := List.mem_iff_getElem?.mp hm
  exact h i q hi
theorem va_D_iff {A : Nat → Prop} {w : va_W} : va_D A w ↔ (w.map (fun q => q.1)).Nodup ∧ ∀ q ∈ w, A q.1 := by
  constructor
  · intro h
    refine ⟨List.pairwise_iff_getElem.mpr (fun i j hi hj hij e => ?_), fun q hq => ?_⟩
    · have hi' : i < w.length := by simpa using hi
      have hj' : j < w.length := by simpa using hj
      have e : w[i].1 = w[j].1 := by simpa using e
      have := h.1 i j w[i] w[j] (List.getElem?_eq_getElem hi') (List.getElem?_eq_getElem hj') e
      omega
    · obtain ⟨i, hi⟩ := List.mem_iff_getElem?.mp hq
      exact h.2 i q hi
  · rintro ⟨h1, h2⟩
    have h1 := List.pairwise_iff_getElem.mp h1
    have key : ∀ (i j : Nat) (p q : Nat × va_E), w[i]? = some p → w[j]? = some q → i < j → ¬ p.1 = q.1 := by
      intro i j p q hp hq hij e
      obtain ⟨hi, rfl⟩ := List.getElem?_eq_some_iff.mp hp
      obtain ⟨hj, rfl⟩ := List.getElem?_eq_some_iff.mp hq
      exact h1 i j (by simpa using hi) (by simpa using hj) hij (by simpa using e)
    refine ⟨fun i j p q hp hq e => ?_, fun k q hk => h2 q (List.mem_of_getElem? hk)⟩
    rcases Nat.lt_trichotomy i j with z | z | z
    · exact absurd e (key i j p q hp hq z)
    · exact z
    · exact absurd e.symm (key j i q p hq hp z)
theorem va_D.perm {A : Nat → Prop} {w w' : va_W} (h : va_D A w) (hp : w.Perm w') : va_D A w' := by
  obtain ⟨h1, h2⟩ := va_D_iff.mp h
  exact va_D_iff.mpr ⟨(hp.map _).nodup_iff.mp h1, fun q hq => h2 q (hp.mem_iff.mpr hq)⟩
theorem va_P.l {D : va_G} {cl : List vw_C} {a b : va_W} {H : Heap} (h : va_P D cl (a ++ b) H) : va_P D cl a H := fun k q hk => h k q (by rw [List.getElem?_append_left (List.getElem?_eq_some_iff.mp hk).1]; exact hk)
theorem va_P.r {D : va_G} {cl : List vw_C} {a b : va_W} {H : Heap} (h : va_P D cl (a ++ b) H) : va_P D cl b H := fun k q hk => h (a.length + k) q (by rw [List.getElem?_append_right (Nat.le_add_right _ _), Nat.add_sub_cancel_left]; exact hk)
theorem va_D.l {A : Nat → Prop} {a b : va_W} (h : va_D A (a ++ b)) : va_D A a := by
  obtain ⟨h1, h2⟩ := va_D_iff.mp h
  rw [List.map_append] at h1
  exact va_D_iff.mpr ⟨(List.nodup_append.mp h1).1, fun q hq => h2 q (List.mem_append_left _ hq)⟩
theorem va_D.r {A : Nat → Prop} {a b : va_W} (h : va_D A (a ++ b)) : va_D A b := by
  obtain ⟨h1, h2⟩ := va_D_iff.mp h
  rw [List.map_append] at h1
  exact va_D_iff.mpr ⟨(List.nodup_append.mp h1).2.1, fun q hq => h2 q (List.mem_append_right _ hq)⟩
theorem va_D.x {A : Nat → Prop} {a b : va_W} (h : va_D A (a ++ b)) {p q : Nat × va_E} (hp : p ∈ a) (hq : q ∈ b) : ¬ p.1 = q.1 := by
  obtain ⟨h1, h2⟩ := va_D_iff.mp h
  rw [List.map_append] at h1
  exact (List.nodup_append.mp h1).2.2 _ (List.mem_map_of_mem hp) _ (List.mem_map_of_mem hq)
/-- one block among others -/
theorem pm_1 (a b c : va_W) : (a ++ (b ++ c)).Perm ((a ++ c) ++ b) := by
  rw [List.append_assoc]
  exact List.Perm.append_left a List.perm_append_comm
/-- two blocks -/
theorem pm_2 (a b c d f : va_W) : (a ++ (b ++ (c ++ (d ++ f)))).Perm ((a ++ (c ++ f)) ++ (b ++ d)) := by
  rw [List.append_assoc]
  refine List.Perm.append_left a ?_
  refine List.Perm.trans (List.Perm.append_left b (List.Perm.trans (List.perm_append_comm_assoc c d f) (List.Perm.refl _))) ?_
  rw [← List.append_assoc b d]
  exact List.perm_append_comm
theorem pm_2r (a b c d f : va_W) : (a ++ (b ++ (c ++ (d ++ f)))).Perm ((a ++ (c ++ f)) ++ (d ++ b)) := (pm_2 a b c d f).trans (List.Perm.append_left _ List.perm_append_comm)
theorem pm_0 (a : va_W) : a.Perm (a ++ []) := by rw [List.append_nil]
section ZP1
variable {p : Program} {l : Launch} {e : Env} {R : Room} {s : State} {m : MethodId} {args : Array Value} {below : List Frame} {meth : Method} {c : Code} {H : Heap} {locs : List Loc} {cells slots : Nat} {Q : State → Prop} {dC : Nat → ClassId} {dI : Nat → Nat → Nat} {cI cJ cS : ClassId}
  {cc : ByteArray} {nL : Nat} {own C : String} {pc : Nat} {ls : Array Slot} {A : Nat → Prop} {y : MethodName} {bytes : ByteArray} {maxL idx n : Nat} {ret ret0 : Option FieldType} {rm : Room} {b : Nat} {As rest st : List Value} {w wc wr : va_W} {F : zFact}

theorem z_backP {S : Type} {Wf Wn : S → va_W} {H1 : Heap} (hP : va_P (dC, dI) vwCl w H) (hD : va_D A w) (hp : w.Perm (wr ++ wc)) (hWn : ∀ u, (Wn u).Perm (wr ++ Wf u))
    (hk : ∀ q : Nat, q < H.size → ¬ va_A wc H.size q → H1[q]? = H[q]?) (hF : ∀ q, va_A wc H.size q → A q) {u : S} {t : State} (ht : t.heap = H1) (hB : zB dC dI cI cJ cS (va_A wc H.size) Wf u t) : va_P (dC, dI) vwCl (Wn u) H1 ∧ va_D A (Wn u) := by
  obtain ⟨hP1, -, hD1⟩ := hB
  rw [ht] at hP1
  have hP := hP.perm hp
  have hD := hD.perm hp
  have hno : ∀ q ∈ wr, q.1 < H.size ∧ ¬ va_A wc H.size q.1 := fun q hq => by
    obtain ⟨i, hi⟩ := List.mem_iff_getElem?.mp hq
    have hlt : q.1 < H.size := vx_lt hP.l hi
    refine ⟨hlt, fun z => ?_⟩
    rcases z with ⟨k, e9, hk9⟩ | z
    · exact hD.x hq (List.mem_of_getElem? hk9) rfl
    · omega
  have hPr : va_P (dC, dI) vwCl wr H1 := hP.l.kept (fun k q hk9 => hk _ (hno q (List.mem_of_getElem? hk9)).1 (hno q (List.mem_of_getElem? hk9)).2)
  have hDf : va_D A (Wf u) := hD1.weaken (fun k q _ h => hF _ h)
  refine ⟨(hPr.app hP1).perm (hWn u).symm, (hD.l.app hDf (fun i j p9 q9 hi hj e9 => ?_)).perm (hWn u).symm⟩
  have := hD1.2 j q9 hj
  rw [← e9] at this
  exact (hno p9 (List.mem_of_getElem? hi)).2 this
theorem z_freeP {H0 : Heap} (hD : va_D A w) (hS : va_S A H0 H locs) (hA : ∀ q : Nat, H0.size ≤ q → A q) (hp : w.Perm (wr ++ wc)) : ∀ q, va_A wc H.size q → A q := by
  intro q z
  rcases z with ⟨k, e9, hk9⟩ | z
  · exact (hD.perm hp).r.2 k _ hk9
  · exact hA q (Nat.le_trans hS.1 z)

theorem z_pVi {S : Type} {Wf Wn : S → va_W} {Qf : Int32 → S → Prop} (X : zX p s m args meth c cc nL ret0 own dC dI cI cJ cS) (hM : Met l y (Cond.code y bytes maxL ret :: zT) rm (zPm dC dI cI cJ cS wc (.ref b :: As) H.size) (va_Qi Qf (zB dC dI cI cJ cS (va_A wc H.size) Wf) (va_A wc H.size)) 0 0 (va_A wc H.size)) (hG : zCalV C y bytes maxL ret n) (hml : Cond.methodLink own idx y ∈ zT) (hrm : rm.cells = 0 ∧ rm.slots = 0) (hR : rm.frames + 1 ≤ R.frames ∧ 8 + (maxL + 11) + rm.locals ≤ R.locals)
    (hP : va_P (dC, dI) vwCl w H) (hD : va_D A w) (hS : va_S A s.heap H locs) (hA : ∀ q : Nat, s.heap.size ≤ q → A q) (hp : w.Perm (wr ++ wc)) (hWn : ∀ u, (Wn u).Perm (wr ++ Wf u))
    (ci : Nat) {T : u_T} {N : Nat} (hc : vwCl[ci]? = some (C, T, N)) {fs : List Value} (he : wc[0]? = some (b, .inr (ci, fs))) (hl : ls.size = nL) (hn : As.length = n) (hst : st = As.reverse ++ .ref b :: rest) (hroom : (rest.map fun v => v.category).sum ≤ 8) (hcs : cells ≤ R.cells ∧ slots ≤ R.slots) (hdg : decode cc pc = .ok (.invokevirtual idx, 3))
    (kk : ∀ (r : Int32) (u : S) (H1 : Heap) (locs1 : List Loc), Qf r u → va_P (dC, dI) vwCl (Wn u) H1 → va_D A (Wn u) → va_S A s.heap H1 locs1 → W p l e R s m args below meth c H1 locs1 cells slots Q (F0 m (pc + 3) ls (.int r :: rest))) : W p l e R s m args below meth c H locs cells slots Q (F0 m pc ls st) := by
  have hPc := (hP.perm hp).r
  have hDc := (hD.perm hp).r
  have hFc := z_freeP hD hS hA hp
  refine va_calli (va_runV (g := F0 m pc ls st) X.1 hM (cwV n X.1.2.2.2.2 (hG.good hml) rfl hrm.1 hrm.2 ⟨hG.2.2.2.2.2, hG.2.2.2.2.1⟩ hR) ⟨zPm_blind, va_recv X.2.2.2 hPc hc he, fun U hU hW => ⟨rfl, by rw [hU], by rw [hU]; exact hPc, va_K.moved hW.alike X.2.2.2, hDc.weaken (fun _ _ _ _ => trivial)⟩⟩ rfl hn hl hst (lv_room (rest := st) hroom) hdg hcs) hS (fun q _ h => hFc q h) hFc (fun r u t H1 locs1 ht hvm hq hB hz1 hk1 hS1 => ?_)
  obtain ⟨hP2, hD2⟩ := z_backP (Wn := Wn) hP hD hp hWn hk1 hFc ht hB
  exact kk r u H1 locs1 hq hP2 hD2 hS1

theorem z_pVv {S : Type} {Wf Wn : S → va_W} {Qf : S → Prop} (X : zX p s m args meth c cc nL ret0 own dC dI cI cJ cS) (hM : Met l y (Cond.code y bytes maxL ret :: zT) rm (zPm dC dI cI cJ cS wc (.ref b :: As) H.size) (va_Qv Qf (zB dC dI cI cJ cS (va_A wc H.size) Wf) (va_A wc H.size)) 0 0 (va_A wc H.size)) (hG : zCalV C y bytes maxL ret n) (hml : Cond.methodLink own idx y ∈ zT) (hrm : rm.cells = 0 ∧ rm.slots = 0) (hR : rm.frames + 1 ≤ R.frames ∧ 8 + (maxL + 11) + rm.locals ≤ R.locals)
    (hP : va_P (dC, dI) vwCl w H) (hD : va_D A w) (hS : va_S A s.heap H locs) (hA : ∀ q : Nat, s.heap.size ≤ q → A q) (hp : w.Perm (wr ++ wc)) (hWn : ∀ u, (Wn u).Perm (wr ++ Wf u))
    (ci : Nat) {T : u_T} {N : Nat} (hc : vwCl[ci]? = some (C, T, N)) {fs : List Value} (he : wc[0]? = some (b, .inr (ci, fs))) (hl : ls.size = nL) (hn : As.length = n) (hst : st = As.reverse ++ .ref b :: rest) (hroom : (rest.map fun v => v.category).sum ≤ 8) (hcs : cells ≤ R.cells ∧ slots ≤ R.slots) (hdg : decode cc pc = .ok (.invokevirtual idx, 3))
    (kk : ∀ (u : S) (H1 : Heap) (locs1 : List Loc), Qf u → va_P (dC, dI) vwCl (Wn u) H1 → va_D A (Wn u) → va_S A s.heap H1 locs1 → W p l e R s m args below meth c H1 locs1 cells slots Q (F0 m (pc + 3) ls (rest))) : W p l e R s m args below meth c H locs cells slots Q (F0 m pc ls st) := by
  have hPc := (hP.perm hp).r
  have hDc := (hD.perm hp).r
  have hFc := z_freeP hD hS hA hp
  refine va_callv (va_runV (g := F0 m pc ls st) X.1 hM (cwV n X.1.2.2.2.2 (hG.good hml) rfl hrm.1 hrm.2 ⟨hG.2.2.2.2.2, hG.2.2.2.2.1⟩ hR) ⟨zPm_blind, va_recv X.2.2.2 hPc hc he, fun U hU hW => ⟨rfl, by rw [hU], by rw [hU]; exact hPc, va_K.moved hW.alike X.2.2.2, hDc.weaken (fun _ _ _ _ => trivial)⟩⟩ rfl hn hl hst (lv_room (rest := st) hroom) hdg hcs) hS (fun q _ h => hFc q h) hFc (fun u t H1 locs1 ht hvm hq hB hz1 hk1 hS1 => ?_)
  obtain ⟨hP2, hD2⟩ := z_backP (Wn := Wn) hP hD hp hWn hk1 hFc ht hB
  exact kk u H1 locs1 hq hP2 hD2 hS1

theorem z_pViF {S : Type} {Wf Wn : S → va_W} {Qf : Int32 → S → Prop} (X : zX p s m args meth c cc nL ret0 own dC dI cI cJ cS) (hFr : zFro F) (hF : F A s s.heap) (hM : Met l y (Cond.code y bytes maxL ret :: zT) rm (zPmF F dC dI cI cJ cS wc (.ref b :: As) H.size) (va_Qi Qf (zB dC dI cI cJ cS (va_A wc H.size) Wf) (va_A wc H.size)) 0 0 (va_A wc H.size)) (hG : zCalV C y bytes maxL ret n) (hml : Cond.methodLink own idx y ∈ zT) (hrm : rm.cells = 0 ∧ rm.slots = 0) (hR : rm.frames + 1 ≤ R.frames ∧ 8 + (maxL + 11) + rm.locals ≤ R.locals)
    (hP : va_P (dC, dI) vwCl w H) (hD : va_D A w) (hS : va_S A s.heap H locs) (hA : ∀ q : Nat, s.heap.size ≤ q → A q) (hp : w.Perm (wr ++ wc)) (hWn : ∀ u, (Wn u).Perm (wr ++ Wf u))
    (ci : Nat) {T : u_T} {N : Nat} (hc : vwCl[ci]? = some (C, T, N)) {fs : List Value} (he : wc[0]? = some (b, .inr (ci, fs))) (hl : ls.size = nL) (hn : As.length = n) (hst : st = As.reverse ++ .ref b :: rest) (hroom : (rest.map fun v => v.category).sum ≤ 8) (hcs : cells ≤ R.cells ∧ slots ≤ R.slots) (hdg : decode cc pc = .ok (.invokevirtual idx, 3))
    (kk : ∀ (r : Int32) (u : S) (H1 : Heap) (locs1 : List Loc), Qf r u → va_P (dC, dI) vwCl (Wn u) H1 → va_D A (Wn u) → va_S A s.heap H1 locs1 → W p l e R s m args below meth c H1 locs1 cells slots Q (F0 m (pc + 3) ls (.int r :: rest))) : W p l e R s m args below meth c H locs cells slots Q (F0 m pc ls st) := by
  have hPc := (hP.perm hp).r
  have hDc := (hD.perm hp).r
  have hFc := z_freeP hD hS hA hp
  refine va_calli (va_runV (g := F0 m pc ls st) X.1 hM (cwV n X.1.2.2.2.2 (hG.good hml) rfl hrm.1 hrm.2 ⟨hG.2.2.2.2.2, hG.2.2.2.2.1⟩ hR) ⟨zPmF_blind hFr, va_recv X.2.2.2 hPc hc he, fun U hU hW => ⟨rfl, by rw [hU], by rw [hU]; exact hPc, va_K.moved hW.alike X.2.2.2, hDc.weaken (fun _ _ _ _ => trivial), by rw [hU]; exact hFr.at hF hS hFc hW⟩⟩ rfl hn hl hst (lv_room (rest := st) hroom) hdg hcs) hS (fun q _ h => hFc q h) hFc (fun r u t H1 locs1 ht hvm hq hB hz1 hk1 hS1 => ?_)
  obtain ⟨hP2, hD2⟩ := z_backP (Wn := Wn) hP hD hp hWn hk1 hFc ht hB
  exact kk r u H1 locs1 hq hP2 hD2 hS1

theorem z_pVvF {S : Type} {Wf Wn : S → va_W} {Qf : S → Prop} (X : zX p s m args meth c cc nL ret0 own dC dI cI cJ cS) (hFr : zFro F) (hF : F A s s.heap) (hM : Met l y (Cond.code y bytes maxL ret :: zT) rm (zPmF F dC dI cI cJ cS wc (.ref b :: As) H.size) (va_Qv Qf (zB dC dI cI cJ cS (va_A wc H.size) Wf) (va_A wc H.size)) 0 0 (va_A wc H.size)) (hG : zCalV C y bytes maxL ret n) (hml : Cond.methodLink own idx y ∈ zT) (hrm : rm.cells = 0 ∧ rm.slots = 0) (hR : rm.frames + 1 ≤ R.frames ∧ 8 + (maxL + 11) + rm.locals ≤ R.locals)
    (hP : va_P (dC, dI) vwCl w H) (hD : va_D A w) (hS : va_S A s.heap H locs) (hA : ∀ q : Nat, s.heap.size ≤ q → A q) (hp : w.Perm (wr ++ wc)) (hWn : ∀ u, (Wn u).Perm (wr ++ Wf u))
    (ci : Nat) {T : u_T} {N : Nat} (hc : vwCl[ci]? = some (C, T, N)) {fs : List Value} (he : wc[0]? = some (b, .inr (ci, fs))) (hl : ls.size = nL) (hn : As.length = n) (hst : st = As.reverse ++ .ref b :: rest) (hroom : (rest.map fun v => v.category).sum ≤ 8) (hcs : cells ≤ R.cells ∧ slots ≤ R.slots) (hdg : decode cc pc = .ok (.invokevirtual idx, 3))
    (kk : ∀ (u : S) (H1 : Heap) (locs1 : List Loc), Qf u → va_P (dC, dI) vwCl (Wn u) H1 → va_D A (Wn u) → va_S A s.heap H1 locs1 → W p l e R s m args below meth c H1 locs1 cells slots Q (F0 m (pc + 3) ls (rest))) : W p l e R s m args below meth c H locs cells slots Q (F0 m pc ls st) := by
  have hPc := (hP.perm hp).r
  have hDc := (hD.perm hp).r
  have hFc := z_freeP hD hS hA hp
  refine va_callv (va_runV (g := F0 m pc ls st) X.1 hM (cwV n X.1.2.2.2.2 (hG.good hml) rfl hrm.1 hrm.2 ⟨hG.2.2.2.2.2, hG.2.2.2.2.1⟩ hR) ⟨zPmF_blind hFr, va_recv X.2.2.2 hPc hc he, fun U hU hW => ⟨rfl, by rw [hU], by rw [hU]; exact hPc, va_K.moved hW.alike X.2.2.2, hDc.weaken (fun _ _ _ _ => trivial), by rw [hU]; exact hFr.at hF hS hFc hW⟩⟩ rfl hn hl hst (lv_room (rest := st) hroom) hdg hcs) hS (fun q _ h => hFc q h) hFc (fun u t H1 locs1 ht hvm hq hB hz1 hk1 hS1 => ?_)
  obtain ⟨hP2, hD2⟩ := z_backP (Wn := Wn) hP hD hp hWn hk1 hFc ht hB
  exact kk u H1 locs1 hq hP2 hD2 hS1

/-- a reader called on the world as it is -/
theorem z_wVi {Qf : Int32 → Prop} (X : zX p s m args meth c cc nL ret0 own dC dI cI cJ cS) (hM : Met l y (Cond.code y bytes maxL ret :: zT) rm (zPp dC dI cI cJ cS wc (.ref b :: As)) (vp_Si Qf) 0 0 (fun _ => False)) (hG : zCalV C y bytes maxL ret n) (hml : Cond.methodLink own idx y ∈ zT) (hrm : rm.cells = 0 ∧ rm.slots = 0) (hR : rm.frames + 1 ≤ R.frames ∧ 8 + (maxL + 11) + rm.locals ≤ R.locals)
    (hPc : va_P (dC, dI) vwCl wc H) (ci : Nat) {T : u_T} {N : Nat} (hc : vwCl[ci]? = some (C, T, N)) {fs : List Value} (he : wc[0]? = some (b, .inr (ci, fs))) (hl : ls.size = nL) (hn : As.length = n) (hst : st = As.reverse ++ .ref b :: rest) (hroom : (rest.map fun v => v.category).sum ≤ 8) (hcs : cells ≤ R.cells ∧ slots ≤ R.slots) (hdg : decode cc pc = .ok (.invokevirtual idx, 3))
    (kk : ∀ r : Int32, Qf r → W p l e R s m args below meth c H locs cells slots Q (F0 m (pc + 3) ls (.int r :: rest))) : W p l e R s m args below meth c H locs cells slots Q (F0 m pc ls st) :=
  vp_callSi (W.runV (g := F0 m pc ls st) X.1 hM (cwV n X.1.2.2.2.2 (hG.good hml) rfl hrm.1 hrm.2 ⟨hG.2.2.2.2.2, hG.2.2.2.2.1⟩ hR) ⟨zPp_blind, va_recv X.2.2.2 hPc hc he, fun U hU hW => ⟨rfl, by rw [hU]; exact hPc, va_K.moved hW.alike X.2.2.2⟩⟩ rfl hn hl hst (lv_room (rest := st) hroom) hdg hcs) kk
theorem z_wSi {Qf : Int32 → Prop} (X : zX p s m args meth c cc nL ret0 own dC dI cI cJ cS) (hM : Met l y (Cond.code y bytes maxL ret :: zT) rm (zPp dC dI cI cJ cS wc As) (vp_Si Qf) 0 0 (fun _ => False)) (hG : zCalS y bytes maxL ret n) (hml : Cond.methodLink own idx y ∈ zT) (hrm : rm.cells = 0 ∧ rm.slots = 0) (hR : rm.frames + 1 ≤ R.frames ∧ 8 + (maxL + 11) + rm.locals ≤ R.locals)
    (hPc : va_P (dC, dI) vwCl wc H) (hl : ls.size = nL) (hn : As.length = n) (hst : st = As.reverse ++ rest) (hroom : (rest.map fun v => v.category).sum ≤ 8) (hcs : cells ≤ R.cells ∧ slots ≤ R.slots) (hdg : decode cc pc = .ok (.invokestatic idx, 3))
    (kk : ∀ r : Int32, Qf r → W p l e R s m args below meth c H locs cells slots Q (F0 m (pc + 3) ls (.int r :: rest))) : W p l e R s m args below meth c H locs cells slots Q (F0 m pc ls st) :=
  vp_callSi (W.runS (g := F0 m pc ls st) X.1 hM (va_cwS n X.1.2.2.2.2 (hG.good hml) rfl hrm.1 hrm.2 hG.2.2.2 hR) ⟨zPp_blind, fun U hU hW => ⟨rfl, by rw [hU]; exact hPc, va_K.moved hW.alike X.2.2.2⟩⟩ rfl hn hl hst (lv_room (rest := st) hroom) hdg hcs) kk
/-- what a method that throws leaves -/
def zXc {S : Type} (QX : String → S → Prop) (dC : Nat → ClassId) (dI : Nat → Nat → Nat) (cI cJ cS : ClassId) (A : Nat → Prop) (Wf : S → va_W) : String → State → State → Prop := vx_X (fun _ : S => True) (fun E u t => QX E u ∧ zB dC dI cI cJ cS A Wf u t) A
theorem z_enterX {av : List Value} {sz : Nat} {Qc : (Nat → Prop) → Array Value → State → Outcome → State → Prop} {XC : (Nat → Prop) → String → State → State → Prop} {mc ms : Nat}
    (hy : plainName y.cls = true) (hn : (lg_sl av).length ≤ maxL)
    (body : ∀ (p : Program) (e : Env) (s : State) (m : MethodId) (below : List Frame) (meth : Method) (c : Code) (ls : Array Slot) (A : Nat → Prop), zX p s m av.toArray meth c cc maxL ret y.cls dC dI cI cJ cS → (∀ x ∈ c.exceptionTable.toList, False) → va_P (dC, dI) vwCl w s.heap → va_D A w → va_S A s.heap s.heap [] → (∀ q : Nat, s.heap.size ≤ q → A q) → F A s s.heap → lv_has ls maxL (lv_args 0 av) →
      W p l e rm s m av.toArray below meth c s.heap [] 0 0 (vx_MQ below (Qc A) (XC A) av.toArray s mc ms A) (F0 m 0 ls [])) : vx_Met l y (Cond.code y cc maxL ret :: zT) rm (zPmF F dC dI cI cJ cS w av sz) (Qc (va_A w sz)) (XC (va_A w sz)) mc ms (va_A w sz) := by
  refine vx_ofW (cc := cc) (maxL := maxL) (ret := ret) hy rfl ?_
  intro p e s m args below meth c s₁ B hml htb hv
  obtain ⟨rfl, hsz, hP, hK, hD0, hF⟩ := hv
  subst hsz
  have hD := hD0.self (sz := s.heap.size)
  have hl := lv_entry av (n := maxL) hn
  rw [lg_entry_eq]
  generalize (lg_sl av ++ List.replicate (maxL - (lg_sl av).length) Slot.unset).toArray = ls at hl ⊢
  exact body p e s m below meth c ls _ ⟨⟨B.exec, B.bytes, hml, findClass_of_methodNamed B.named, fun w h => atoms_spec (ws := Cond.code y cc maxL ret :: zT) B.pre w (List.mem_cons_of_mem _ h)⟩, B.returns, B.notSynchronized, hK⟩ htb hP hD va_S.rf (fun q h => Or.inr h) hF hl
/-- what has been thrown goes on to the caller -/
theorem z_xout {S : Type} {Wf : S → va_W} {QX : String → S → Prop} {Qc : Array Value → State → Outcome → State → Prop} {mc ms : Nat} {E : String} {q : Addr} {ce : Cell} {u : S} (X : zX p s m args meth c cc nL ret0 own dC dI cI cJ cS) (htb : ∀ x ∈ c.exceptionTable.toList, False) (hq : QX E u) (hP : va_P (dC, dI) vwCl (Wf u) H) (hD : va_D A (Wf u)) (hS : va_S A s.heap H locs) (hcell : H[q]? = some ce) (hv : ce.vm = .none) (hcl : s.vm.findClass E = some ce.cls) (hc : cells ≤ mc) (hs : slots ≤ ms) : vx_W p l e R s m args below meth c H locs cells slots (vx_MQ below Qc (zXc QX dC dI cI cJ cS A Wf) args s mc ms A) (F0 m pc ls rest) q :=
  vx_out (fun x hx => (htb x hx).elim) X.2.2.1 hcell hv hcl (fun t ht hal => ⟨u, trivial, ⟨hq, by rw [ht]; exact hP, va_K.moved hal X.2.2.2, hD⟩, hS.F ht⟩) hS.2.2 hc hs

theorem z_xVvO {S : Type} {Wf Wn : S → va_W} {Qf : S → Prop} {QX : String → S → Prop} {mc ms : Nat} (X : zX p s m args meth c cc nL ret0 own dC dI cI cJ cS) (hFr : zFro F) (hF : F A s s.heap) (hM : vx_Met l y (Cond.code y bytes maxL ret :: zT) rm (zPmF F dC dI cI cJ cS wc (.ref b :: As) H.size) (va_Qv Qf (zB dC dI cI cJ cS (va_A wc H.size) Wf) (va_A wc H.size)) (zXc QX dC dI cI cJ cS (va_A wc H.size) Wf) mc ms (va_A wc H.size)) (hG : zCalV C y bytes maxL ret n) (hml : Cond.methodLink own idx y ∈ zT) (hrm : rm.cells = mc ∧ rm.slots = ms) (hR : rm.frames + 1 ≤ R.frames ∧ 8 + (maxL + 11) + rm.locals ≤ R.locals)
    (hP : va_P (dC, dI) vwCl w H) (hD : va_D A w) (hS : va_S A s.heap H locs) (hA : ∀ q : Nat, s.heap.size ≤ q → A q) (hp : w.Perm (wr ++ wc)) (hWn : ∀ u, (Wn u).Perm (wr ++ Wf u)) {S' : Type} {Wo : S' → va_W} {QO : String → S' → Prop} {Qc : Array Value → State → Outcome → State → Prop} {mo mz : Nat} (g : S → S') (hg : ∀ u, Wn u = Wo (g u)) (htb : ∀ x ∈ c.exceptionTable.toList, False) (hq : ∀ E u, QX E u → QO E (g u)) (hcc : cells + mc ≤ mo ∧ slots + ms ≤ mz) 
    (ci : Nat) {T : u_T} {N : Nat} (hc : vwCl[ci]? = some (C, T, N)) {fs : List Value} (he : wc[0]? = some (b, .inr (ci, fs))) (hl : ls.size = nL) (hn : As.length = n) (hst : st = As.reverse ++ .ref b :: rest) (hroom : (rest.map fun v => v.category).sum ≤ 8) (hcs : cells + mc ≤ R.cells ∧ slots + ms ≤ R.slots) (hdg : decode cc pc = .ok (.invokevirtual idx, 3))
    (kk : ∀ (u : S) (H1 : Heap) (locs1 : List Loc), Qf u → va_P (dC, dI) vwCl (Wn u) H1 → va_D A (Wn u) → va_S A s.heap H1 locs1 → W p l e R s m args below meth c H1 locs1 (cells + mc) (slots + ms) (vx_MQ below Qc (zXc QO dC dI cI cJ cS A Wo) args s mo mz A) (F0 m (pc + 3) ls (rest))) : W p l e R s m args below meth c H locs cells slots (vx_MQ below Qc (zXc QO dC dI cI cJ cS A Wo) args s mo mz A) (F0 m pc ls st) := by
  have hPc := (hP.perm hp).r
  have hDc := (hD.perm hp).r
  have hFc := z_freeP hD hS hA hp
  refine vx_callv (vx_runV (g := F0 m pc ls st) X.1 hM (cwV n X.1.2.2.2.2 (hG.good hml) rfl hrm.1 hrm.2 ⟨hG.2.2.2.2.2, hG.2.2.2.2.1⟩ hR) ⟨zPmF_blind hFr, va_recv X.2.2.2 hPc hc he, fun U hU hW => ⟨rfl, by rw [hU], by rw [hU]; exact hPc, va_K.moved hW.alike X.2.2.2, hDc.weaken (fun _ _ _ _ => trivial), by rw [hU]; exact hFr.at hF hS hFc hW⟩⟩ rfl hn hl hst (lv_room (rest := st) hroom) hdg hcs) hS (fun q _ h => hFc q h) hFc (fun q _ h => hFc q h) (fun E ce q9 u t H1 locs1 ht hvm _ hB hz1 hk1 hS1 hce hcv hcl => by
    obtain ⟨hP2, hD2⟩ := z_backP (Wn := Wn) hP hD hp hWn hk1 hFc ht hB.2
    rw [hg u] at hP2 hD2
    exact z_xout X htb (hq E u hB.1) hP2 hD2 hS1 hce hcv hcl hcc.1 hcc.2) (fun u t H1 locs1 ht hvm hq hB hz1 hk1 hS1 => ?_)
  obtain ⟨hP2, hD2⟩ := z_backP (Wn := Wn) hP hD hp hWn hk1 hFc ht hB
  exact kk u H1 locs1 hq hP2 hD2 hS1

theorem z_xSvO {S : Type} {Wf Wn : S → va_W} {Qf : S → Prop} {QX : String → S → Prop} {mc ms : Nat} (X : zX p s m args meth c cc nL ret0 own dC dI cI cJ cS) (hFr : zFro F) (hF : F A s s.heap) (hM : vx_Met l y (Cond.code y bytes maxL ret :: zT) rm (zPmF F dC dI cI cJ cS wc As H.size) (va_Qv Qf (zB dC dI cI cJ cS (va_A wc H.size) Wf) (va_A wc H.size)) (zXc QX dC dI cI cJ cS (va_A wc H.size) Wf) mc ms (va_A wc H.size)) (hG : zCalS y bytes maxL ret n) (hml : Cond.methodLink own idx y ∈ zT) (hrm : rm.cells = mc ∧ rm.slots = ms) (hR : rm.frames + 1 ≤ R.frames ∧ 8 + (maxL + 11) + rm.locals ≤ R.locals)
    (hP : va_P (dC, dI) vwCl w H) (hD : va_D A w) (hS : va_S A s.heap H locs) (hA : ∀ q : Nat, s.heap.size ≤ q → A q) (hp : w.Perm (wr ++ wc)) (hWn : ∀ u, (Wn u).Perm (wr ++ Wf u)) {S' : Type} {Wo : S' → va_W} {QO : String → S' → Prop} {Qc : Array Value → State → Outcome → State → Prop} {mo mz : Nat} (g : S → S') (hg : ∀ u, Wn u = Wo (g u)) (htb : ∀ x ∈ c.exceptionTable.toList, False) (hq : ∀ E u, QX E u → QO E (g u)) (hcc : cells + mc ≤ mo ∧ slots + ms ≤ mz) 
    (hl : ls.size = nL) (hn : As.length = n) (hst : st = As.reverse ++ rest) (hroom : (rest.map fun v => v.category).sum ≤ 8) (hcs : cells + mc ≤ R.cells ∧ slots + ms ≤ R.slots) (hdg : decode cc pc = .ok (.invokestatic idx, 3))
    (kk : ∀ (u : S) (H1 : Heap) (locs1 : List Loc), Qf u → va_P (dC, dI) vwCl (Wn u) H1 → va_D A (Wn u) → va_S A s.heap H1 locs1 → W p l e R s m args below meth c H1 locs1 (cells + mc) (slots + ms) (vx_MQ below Qc (zXc QO dC dI cI cJ cS A Wo) args s mo mz A) (F0 m (pc + 3) ls (rest))) : W p l e R s m args below meth c H locs cells slots (vx_MQ below Qc (zXc QO dC dI cI cJ cS A Wo) args s mo mz A) (F0 m pc ls st) := by
  have hPc := (hP.perm hp).r
  have hDc := (hD.perm hp).r
  have hFc := z_freeP hD hS hA hp
  refine vx_callv (vx_runS (g := F0 m pc ls st) X.1 hM (va_cwS n X.1.2.2.2.2 (hG.good hml) rfl hrm.1 hrm.2 hG.2.2.2 hR) ⟨zPmF_blind hFr, fun U hU hW => ⟨rfl, by rw [hU], by rw [hU]; exact hPc, va_K.moved hW.alike X.2.2.2, hDc.weaken (fun _ _ _ _ => trivial), by rw [hU]; exact hFr.at hF hS hFc hW⟩⟩ rfl hn hl hst (lv_room (rest := st) hroom) hdg hcs) hS (fun q _ h => hFc q h) hFc (fun q _ h => hFc q h) (fun E ce q9 u t H1 locs1 ht hvm _ hB hz1 hk1 hS1 hce hcv hcl => by
    obtain ⟨hP2, hD2⟩ := z_backP (Wn := Wn) hP hD hp hWn hk1 hFc ht hB.2
    rw [hg u] at hP2 hD2
    exact z_xout X htb (hq E u hB.1) hP2 hD2 hS1 hce hcv hcl hcc.1 hcc.2) (fun u t H1 locs1 ht hvm hq hB hz1 hk1 hS1 => ?_)
  obtain ⟨hP2, hD2⟩ := z_backP (Wn := Wn) hP hD hp hWn hk1 hFc ht hB
  exact kk u H1 locs1 hq hP2 hD2 hS1

theorem z_xVi {S : Type} {Wf Wn : S → va_W} {Qf : Int32 → S → Prop} {QX : String → S → Prop} {mc ms : Nat} (X : zX p s m args meth c cc nL ret0 own dC dI cI cJ cS) (hFr : zFro F) (hF : F A s s.heap) (hM : vx_Met l y (Cond.code y bytes maxL ret :: zT) rm (zPmF F dC dI cI cJ cS wc (.ref b :: As) H.size) (va_Qi Qf (zB dC dI cI cJ cS (va_A wc H.size) Wf) (va_A wc H.size)) (zXc QX dC dI cI cJ cS (va_A wc H.size) Wf) mc ms (va_A wc H.size)) (hG : zCalV C y bytes maxL ret n) (hml : Cond.methodLink own idx y ∈ zT) (hrm : rm.cells = mc ∧ rm.slots = ms) (hR : rm.frames + 1 ≤ R.frames ∧ 8 + (maxL + 11) + rm.locals ≤ R.locals)
    (hP : va_P (dC, dI) vwCl w H) (hD : va_D A w) (hS : va_S A s.heap H locs) (hA : ∀ q : Nat, s.heap.size ≤ q → A q) (hp : w.Perm (wr ++ wc)) (hWn : ∀ u, (Wn u).Perm (wr ++ Wf u)) 
    (ci : Nat) {T : u_T} {N : Nat} (hc : vwCl[ci]? = some (C, T, N)) {fs : List Value} (he : wc[0]? = some (b, .inr (ci, fs))) (hl : ls.size = nL) (hn : As.length = n) (hst : st = As.reverse ++ .ref b :: rest) (hroom : (rest.map fun v => v.category).sum ≤ 8) (hcs : cells + mc ≤ R.cells ∧ slots + ms ≤ R.slots) (hdg : decode cc pc = .ok (.invokevirtual idx, 3))
    (kx : ∀ (E : String) (u : S) (H1 : Heap) (locs1 : List Loc) (q9 : Addr) (ce : Cell), QX E u → va_P (dC, dI) vwCl (Wn u) H1 → va_D A (Wn u) → va_S A s.heap H1 locs1 → H1[q9]? = some ce → ce.vm = .none → s.vm.findClass E = some ce.cls → vx_W p l e R s m args below meth c H1 locs1 (cells + mc) (slots + ms) Q (F0 m pc ls rest) q9)
    (kk : ∀ (r : Int32) (u : S) (H1 : Heap) (locs1 : List Loc), Qf r u → va_P (dC, dI) vwCl (Wn u) H1 → va_D A (Wn u) → va_S A s.heap H1 locs1 → W p l e R s m args below meth c H1 locs1 (cells + mc) (slots + ms) Q (F0 m (pc + 3) ls (.int r :: rest))) : W p l e R s m args below meth c H locs cells slots Q (F0 m pc ls st) := by
  have hPc := (hP.perm hp).r
  have hDc := (hD.perm hp).r
  have hFc := z_freeP hD hS hA hp
  refine vx_calli (vx_runV (g := F0 m pc ls st) X.1 hM (cwV n X.1.2.2.2.2 (hG.good hml) rfl hrm.1 hrm.2 ⟨hG.2.2.2.2.2, hG.2.2.2.2.1⟩ hR) ⟨zPmF_blind hFr, va_recv X.2.2.2 hPc hc he, fun U hU hW => ⟨rfl, by rw [hU], by rw [hU]; exact hPc, va_K.moved hW.alike X.2.2.2, hDc.weaken (fun _ _ _ _ => trivial), by rw [hU]; exact hFr.at hF hS hFc hW⟩⟩ rfl hn hl hst (lv_room (rest := st) hroom) hdg hcs) hS (fun q _ h => hFc q h) hFc (fun q _ h => hFc q h) (fun E ce q9 u t H1 locs1 ht hvm _ hB hz1 hk1 hS1 hce hcv hcl => by
    obtain ⟨hP2, hD2⟩ := z_backP (Wn := Wn) hP hD hp hWn hk1 hFc ht hB.2
    exact kx E u H1 locs1 q9 ce hB.1 hP2 hD2 hS1 hce hcv hcl) (fun r u t H1 locs1 ht hvm hq hB hz1 hk1 hS1 => ?_)
  obtain ⟨hP2, hD2⟩ := z_backP (Wn := Wn) hP hD hp hWn hk1 hFc ht hB
  exact kk r u H1 locs1 hq hP2 hD2 hS1

end ZP1
theorem thL_eq (j : Nat) (hj : j < 3) : thL j = vx_atS RX10 (exN j) (exC j) ["java/lang/RuntimeException", "java/lang/Exception"] := match j, hj with
  | 0, _ => rfl
  | 1, _ => rfl
  | 2, _ => rfl
  | n + 3, h => absurd h (by omega)
theorem th_at {args : Array Value} {s : State} {A : Nat → Prop} {H : Heap} (j : Nat) (hj : j < 4) (hts : ∀ w ∈ zT, w.before args s = true) (hT : zTh A s H) : ∀ w ∈ thL j, w.before args s = true :=
  vx_hat (fun w hw => hts w (th_g j hj w hw)) (th_n j hj) (vx_c (va_Nw.use rfl hT.2.2.2.2.1) (vx_c (va_Nw.use rfl hT.2.2.2.2.2.1) (vx_c (va_Nw.use rfl hT.2.2.2.2.2.2) (vx_c (va_Nw.use rfl (hT.2.2.2.1 j)) vx_n))))
section ZT1
variable {p : Program} {l : Launch} {e : Env} {R : Room} {s : State} {m : MethodId} {args : Array Value} {below : List Frame} {meth : Method} {c : Code} {H : Heap} {locs : List Loc} {cells slots : Nat} {Q : State → Prop} {dC : Nat → ClassId} {dI : Nat → Nat → Nat} {cI cJ cS : ClassId}
  {cc : ByteArray} {nL : Nat} {own C : String} {pc : Nat} {ls : Array Slot} {A : Nat → Prop} {y : MethodName} {bytes : ByteArray} {maxL idx n : Nat} {ret ret0 : Option FieldType} {rm : Room} {b : Nat} {As rest st : List Value} {w wc wr : va_W} {F : zFact}

theorem z_tx {S : Type} {Wf : S → va_W} {QX : String → S → Prop} {E : String} {u : S} (X : zX p s m args meth c cc nL ret0 own dC dI cI cJ cS) (hq : QX E u) (hP : va_P (dC, dI) vwCl (Wf u) H) (hD : va_D A (Wf u)) (hS : va_S A s.heap H locs) : ∀ t : State, s.vm.Alike t.vm → H.size ≤ t.heap.size → (∀ q : Nat, q < H.size → t.heap[q]? = H[q]?) → zXc QX dC dI cI cJ cS A Wf E s t := fun t hal hz hk =>
  ⟨u, trivial, ⟨hq, hP.kept (fun k q hq => hk _ (vx_lt hP hq)), va_K.moved hal X.2.2.2, hD⟩, Nat.le_trans hS.1 hz, fun q h1 h2 => (hk q (Nat.lt_of_lt_of_le h1 hS.1)).trans (hS.2.1 q h1 h2)⟩

/-- 'throw new ..' of the class -/
theorem z_thrS {S : Type} {Wf : S → va_W} {QX : String → S → Prop} {Qc : Array Value → State → Outcome → State → Prop} {mc ms : Nat} {u : S} (j : Nat) (hj : j < 3) (i : Nat) (X : zX p s m args meth c cc nL ret0 RX10 dC dI cI cJ cS) (hlt : l.stackTraces = false) (hT : zTh A s s.heap) (htb : ∀ x ∈ c.exceptionTable.toList, False) (hq : QX (exC j) u) (hP : va_P (dC, dI) vwCl (Wf u) H) (hD : va_D A (Wf u)) (hS : va_S A s.heap H locs) (hl : ls.size = nL)
    (d0 : decode cc pc = .ok (.new (exK j), 3)) (d3 : decode cc (pc + 3) = .ok (.dup, 1)) (d4 : decode cc (pc + 4) = .ok (.ldc (exI i), 2)) (d6 : decode cc (pc + 6) = .ok (.invokespecial (exN j), 3)) (d9 : decode cc (pc + 9) = .ok (.athrow, 1))
    (hR : 5 < R.frames ∧ (rest.map fun v => v.category).sum + 82 ≤ R.locals) (hcs : cells + 1 ≤ R.cells ∧ slots + 6 ≤ R.slots) (hcc : cells + 1 ≤ mc ∧ slots + 6 ≤ ms) : W p l e R s m args below meth c H locs cells slots (vx_MQ below Qc (zXc QX dC dI cI cJ cS A Wf) args s mc ms A) (F0 m pc ls rest) := by
  obtain ⟨sa, hsa⟩ := hT.2.2.1 i
  exact vx_throwS X.1.1 X.1.2.1 hlt (names := ["java/lang/RuntimeException", "java/lang/Exception"]) X.1.2.2.2.1 (th_f j (by omega)) (by decide) (X.1.2.2.2.2 _ (th_k j (by omega))) (X.1.2.2.2.2 _ (th_i j (by omega))) hsa (by rw [← thL_eq j hj]; exact th_at j (by omega) X.1.2.2.2.2 hT) (by rw [← thL_eq j hj]; exact th_o j (by omega)) hT.1 hT.2.1 hS (hl.trans X.1.2.2.1.symm) d0 d3 d4 d6 d9 (fun x hx => (htb x hx).elim) hR.1 hR.2 hcs.1 hcs.2 X.2.2.1 (z_tx X hq hP hD hS) hS.2.2 hcc.1 hcc.2

/-- 'throw new ..' of the class -/
theorem z_thrW {S : Type} {Wf : S → va_W} {QX : String → S → Prop} {Qc : Array Value → State → Outcome → State → Prop} {mc ms : Nat} {u : S} (j : Nat) (hj : j < 3) (i : Nat) (X : zX p s m args meth c cc nL ret0 RX10 dC dI cI cJ cS) (hlt : l.stackTraces = false) (hT : zTh A s s.heap) (htb : ∀ x ∈ c.exceptionTable.toList, False) (hq : QX (exC j) u) (hP : va_P (dC, dI) vwCl (Wf u) H) (hD : va_D A (Wf u)) (hS : va_S A s.heap H locs) (hl : ls.size = nL)
    (d0 : decode cc pc = .ok (.new (exK j), 3)) (d3 : decode cc (pc + 3) = .ok (.dup, 1)) (d4 : decode cc (pc + 4) = .ok (.ldc_w (exI i), 3)) (d6 : decode cc (pc + 7) = .ok (.invokespecial (exN j), 3)) (d9 : decode cc (pc + 10) = .ok (.athrow, 1))
    (hR : 5 < R.frames ∧ (rest.map fun v => v.category).sum + 82 ≤ R.locals) (hcs : cells + 1 ≤ R.cells ∧ slots + 6 ≤ R.slots) (hcc : cells + 1 ≤ mc ∧ slots + 6 ≤ ms) : W p l e R s m args below meth c H locs cells slots (vx_MQ below Qc (zXc QX dC dI cI cJ cS A Wf) args s mc ms A) (F0 m pc ls rest) := by
  obtain ⟨sa, hsa⟩ := hT.2.2.1 i
  exact vx_throwSW X.1.1 X.1.2.1 hlt (names := ["java/lang/RuntimeException", "java/lang/Exception"]) X.1.2.2.2.1 (th_f j (by omega)) (by decide) (X.1.2.2.2.2 _ (th_k j (by omega))) (X.1.2.2.2.2 _ (th_i j (by omega))) hsa (by rw [← thL_eq j hj]; exact th_at j (by omega) X.1.2.2.2.2 hT) (by rw [← thL_eq j hj]; exact th_o j (by omega)) hT.1 hT.2.1 hS (hl.trans X.1.2.2.1.symm) d0 d3 d4 d6 d9 (fun x hx => (htb x hx).elim) hR.1 hR.2 hcs.1 hcs.2 X.2.2.1 (z_tx X hq hP hD hS) hS.2.2 hcc.1 hcc.2

/-- 'throw new ..' of the class -/
theorem z_thrN {S : Type} {Wf : S → va_W} {QX : String → S → Prop} {Qc : Array Value → State → Outcome → State → Prop} {mc ms : Nat} {u : S} (i : Nat) (X : zX p s m args meth c cc nL ret0 RX10 dC dI cI cJ cS) (hlt : l.stackTraces = false) (hT : zTh A s s.heap) (htb : ∀ x ∈ c.exceptionTable.toList, False) (hq : QX (exC 3) u) (hP : va_P (dC, dI) vwCl (Wf u) H) (hD : va_D A (Wf u)) (hS : va_S A s.heap H locs) (hl : ls.size = nL)
    (d0 : decode cc pc = .ok (.new (exK 3), 3)) (d3 : decode cc (pc + 3) = .ok (.dup, 1)) (d4 : decode cc (pc + 4) = .ok (.ldc_w (exI i), 3)) (d6 : decode cc (pc + 7) = .ok (.invokespecial (exN 3), 3)) (d9 : decode cc (pc + 10) = .ok (.athrow, 1))
    (hR : 5 < R.frames ∧ (rest.map fun v => v.category).sum + 82 ≤ R.locals) (hcs : cells + 1 ≤ R.cells ∧ slots + 6 ≤ R.slots) (hcc : cells + 1 ≤ mc ∧ slots + 6 ≤ ms) : W p l e R s m args below meth c H locs cells slots (vx_MQ below Qc (zXc QX dC dI cI cJ cS A Wf) args s mc ms A) (F0 m pc ls rest) := by
  obtain ⟨sa, hsa⟩ := hT.2.2.1 i
  exact nx_throwSW X.1.1 X.1.2.1 hlt X.1.2.2.2.1 (th_f 3 (by decide)) (X.1.2.2.2.2 _ (th_k 3 (by decide))) (X.1.2.2.2.2 _ (th_i 3 (by decide))) hsa (th_at 3 (by decide) X.1.2.2.2.2 hT) (th_o 3 (by decide)) hT.1 hT.2.1 hS (hl.trans X.1.2.2.1.symm) d0 d3 d4 d6 d9 (fun x hx => (htb x hx).elim) hR.1 hR.2 hcs.1 hcs.2 X.2.2.1 (z_tx X hq hP hD hS) hS.2.2 hcc.1 hcc.2

end ZT1
