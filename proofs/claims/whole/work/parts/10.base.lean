section ZB1
variable {p : Program} {l : Launch} {e : Env} {R : Room} {s : State} {m : MethodId} {args : Array Value} {below : List Frame} {meth : Method} {c : Code} {H : Heap} {locs : List Loc} {cells slots : Nat} {Q : State → Prop} {dC : Nat → ClassId} {dI : Nat → Nat → Nat} {cI cJ cS : ClassId}
/-- the array kinds -/
abbrev zTy (cI cJ cS : ClassId) : List (ClassId × FieldType) := [(cI, .int), (cJ, .long), (cS, .object "AsideStore$State")]
/-- a reader's start: its cells, the tables -/
abbrev zPp (dC : Nat → ClassId) (dI : Nat → Nat → Nat) (cI cJ cS : ClassId) (w : va_W) (av : List Value) : Array Value → State → Prop := va_Pc av (fun U => va_P (dC, dI) vwCl w U.heap ∧ va_K (dC, dI) vwCl (zTy cI cJ cS) U)
/-- a writer's start -/
abbrev zPm (dC : Nat → ClassId) (dI : Nat → Nat → Nat) (cI cJ cS : ClassId) (w : va_W) (av : List Value) (sz : Nat) : Array Value → State → Prop := va_Pc av (fun U => U.heap.size = sz ∧ va_P (dC, dI) vwCl w U.heap ∧ va_K (dC, dI) vwCl (zTy cI cJ cS) U ∧ va_D (fun _ => True) w)
/-- the world behind a writer -/
def zB {S : Type} (dC : Nat → ClassId) (dI : Nat → Nat → Nat) (cI cJ cS : ClassId) (A : Nat → Prop) (Wf : S → va_W) (u : S) (t : State) : Prop := va_P (dC, dI) vwCl (Wf u) t.heap ∧ va_K (dC, dI) vwCl (zTy cI cJ cS) t ∧ va_D A (Wf u)
/-- what holds all through a body -/
abbrev zX (p : Program) (s : State) (m : MethodId) (args : Array Value) (meth : Method) (c : Code) (cc : ByteArray) (nL : Nat) (ret : Option FieldType) (own : String) (dC : Nat → ClassId) (dI : Nat → Nat → Nat) (cI cJ cS : ClassId) : Prop := CallFix p m c cc nL s args zT own ∧ meth.sig.returnType = ret ∧ meth.locks = false ∧ va_K (dC, dI) vwCl (zTy cI cJ cS) s
theorem zPp_blind {w : va_W} {av : List Value} : FrameBlind (zPp dC dI cI cJ cS w av) := fun a U g mk q => by
  obtain ⟨q0, qP, qK⟩ := q
  exact ⟨q0, qP, va_K.moved (u := U) (U := U.calling g mk a) (Vm.Alike.refl U.vm) qK⟩
theorem zPm_blind {w : va_W} {av : List Value} {sz : Nat} : FrameBlind (zPm dC dI cI cJ cS w av sz) := fun a U g mk q => by
  obtain ⟨q0, q1, qP, qK, qD⟩ := q
  exact ⟨q0, q1, qP, va_K.moved (u := U) (U := U.calling g mk a) (Vm.Alike.refl U.vm) qK, qD⟩
/-- the entry of a reader -/
theorem z_enterP {y : MethodName} {rm : Room} {w : va_W} {av : List Value} {Qc : Array Value → State → Outcome → State → Prop} {mc ms : Nat} {free : Addr → Prop} {cc : ByteArray} {maxL : Nat} {ret : Option FieldType}
    (hy : plainName y.cls = true) (hn : (lg_sl av).length ≤ maxL)
    (body : ∀ (p : Program) (e : Env) (s : State) (m : MethodId) (below : List Frame) (meth : Method) (c : Code) (ls : Array Slot), zX p s m av.toArray meth c cc maxL ret y.cls dC dI cI cJ cS → va_P (dC, dI) vwCl w s.heap → lv_has ls maxL (lv_args 0 av) →
      W p l e rm s m av.toArray below meth c s.heap [] 0 0 (MQ below Qc av.toArray s mc ms free) (F0 m 0 ls [])) : Met l y (Cond.code y cc maxL ret :: zT) rm (zPp dC dI cI cJ cS w av) Qc mc ms free := by
  refine Met.ofW (cc := cc) (maxL := maxL) (ret := ret) hy rfl ?_
  intro p e s m args below meth c s₁ B hml hv
  obtain ⟨rfl, hP, hK⟩ := hv
  have hl := lv_entry av (n := maxL) hn
  rw [lg_entry_eq]
  generalize (lg_sl av ++ List.replicate (maxL - (lg_sl av).length) Slot.unset).toArray = ls at hl ⊢
  exact body p e s m below meth c ls ⟨⟨B.exec, B.bytes, hml, findClass_of_methodNamed B.named, fun w h => atoms_spec (ws := Cond.code y cc maxL ret :: zT) B.pre w (List.mem_cons_of_mem _ h)⟩, B.returns, B.notSynchronized, hK⟩ hP hl
/-- the entry of a writer -/
theorem z_enterM {y : MethodName} {rm : Room} {w : va_W} {av : List Value} {sz : Nat} {Qc : (Nat → Prop) → Array Value → State → Outcome → State → Prop} {mc ms : Nat} {cc : ByteArray} {maxL : Nat} {ret : Option FieldType}
    (hy : plainName y.cls = true) (hn : (lg_sl av).length ≤ maxL)
    (body : ∀ (p : Program) (e : Env) (s : State) (m : MethodId) (below : List Frame) (meth : Method) (c : Code) (ls : Array Slot) (A : Nat → Prop), zX p s m av.toArray meth c cc maxL ret y.cls dC dI cI cJ cS → va_P (dC, dI) vwCl w s.heap → va_D A w → va_S A s.heap s.heap [] → (∀ q : Nat, s.heap.size ≤ q → A q) → lv_has ls maxL (lv_args 0 av) →
      W p l e rm s m av.toArray below meth c s.heap [] 0 0 (MQ below (Qc A) av.toArray s mc ms A) (F0 m 0 ls [])) : Met l y (Cond.code y cc maxL ret :: zT) rm (zPm dC dI cI cJ cS w av sz) (Qc (va_A w sz)) mc ms (va_A w sz) := by
  refine Met.ofW (cc := cc) (maxL := maxL) (ret := ret) hy rfl ?_
  intro p e s m args below meth c s₁ B hml hv
  obtain ⟨rfl, hsz, hP, hK, hD0⟩ := hv
  subst hsz
  have hD := hD0.self (sz := s.heap.size)
  have hl := lv_entry av (n := maxL) hn
  rw [lg_entry_eq]
  generalize (lg_sl av ++ List.replicate (maxL - (lg_sl av).length) Slot.unset).toArray = ls at hl ⊢
  exact body p e s m below meth c ls _ ⟨⟨B.exec, B.bytes, hml, findClass_of_methodNamed B.named, fun w h => atoms_spec (ws := Cond.code y cc maxL ret :: zT) B.pre w (List.mem_cons_of_mem _ h)⟩, B.returns, B.notSynchronized, hK⟩ hP hD va_S.rf (fun q h => Or.inr h) hl
end ZB1
section ZB2
variable {p : Program} {l : Launch} {e : Env} {R : Room} {s : State} {m : MethodId} {args : Array Value} {below : List Frame} {meth : Method} {c : Code} {H : Heap} {locs : List Loc} {cells slots : Nat} {Q : State → Prop} {dC : Nat → ClassId} {dI : Nat → Nat → Nat} {cI cJ cS : ClassId}
  {cc : ByteArray} {nL : Nat} {own : String} {pc : Nat} {ls : Array Slot} {A : Nat → Prop}
theorem zn_bool {v : Int32} (h : v = 0 ∨ v = 1) : narrow .boolean (.int v) = .int v := by
  rcases h with rfl | rfl <;> rfl
theorem z_retPi (X : zX p s m args meth c cc nL (some .int) own dC dI cI cJ cS) {Qf : Int32 → Prop} {v : Int32} (hq : Qf v) (hd : decode cc pc = .ok (.ireturn, 1)) : W p l e R s m args below meth c s.heap [] 0 0 (MQ below (vp_Si Qf) args s 0 0 (fun _ => False)) (F0 m pc ls [.int v]) :=
  W.iret X.1.1 X.1.2.1 X.2.1 (fun t ht hW => ⟨v, rfl, hq, ht⟩) (fun _ h => by cases h) hd X.2.2.1
theorem z_retPz (X : zX p s m args meth c cc nL (some .boolean) own dC dI cI cJ cS) {Qf : Int32 → Prop} {v : Int32} (hb : v = 0 ∨ v = 1) (hq : Qf v) (hd : decode cc pc = .ok (.ireturn, 1)) : W p l e R s m args below meth c s.heap [] 0 0 (MQ below (vp_Si (fun r => (r = 0 ∨ r = 1) ∧ Qf r)) args s 0 0 (fun _ => False)) (F0 m pc ls [.int v]) :=
  W.zret X.1.1 X.1.2.1 X.2.1 (zn_bool hb) (fun t ht hW => ⟨v, rfl, ⟨hb, hq⟩, ht⟩) (fun _ h => by cases h) hd X.2.2.1
theorem z_retPl (X : zX p s m args meth c cc nL (some .long) own dC dI cI cJ cS) {Qf : Int64 → Prop} {v : Int64} (hq : Qf v) (hd : decode cc pc = .ok (.lreturn, 1)) : W p l e R s m args below meth c s.heap [] 0 0 (MQ below (vp_Sl Qf) args s 0 0 (fun _ => False)) (F0 m pc ls [.long v]) :=
  W.lret X.1.1 X.1.2.1 X.2.1 (fun t ht hW => ⟨v, rfl, hq, ht⟩) (fun _ h => by cases h) hd X.2.2.1
theorem z_retMi (X : zX p s m args meth c cc nL (some .int) own dC dI cI cJ cS) {S : Type} {Wf : S → va_W} {Qf : Int32 → S → Prop} {v : Int32} {u : S} (hq : Qf v u) (hP : va_P (dC, dI) vwCl (Wf u) H) (hD : va_D A (Wf u)) (hS : va_S A s.heap H locs) (hd : decode cc pc = .ok (.ireturn, 1)) : W p l e R s m args below meth c H locs cells slots (MQ below (va_Qi Qf (zB dC dI cI cJ cS A Wf) A) args s cells slots A) (F0 m pc ls [.int v]) :=
  W.iret X.1.1 X.1.2.1 X.2.1 (fun t ht hW => ⟨⟨v, u, rfl, hq, by rw [ht]; exact hP, va_K.moved hW.alike X.2.2.2, hD⟩, hS.F ht⟩) hS.2.2 hd X.2.2.1
theorem z_retMz (X : zX p s m args meth c cc nL (some .boolean) own dC dI cI cJ cS) {S : Type} {Wf : S → va_W} {Qf : Int32 → S → Prop} {v : Int32} {u : S} (hb : v = 0 ∨ v = 1) (hq : Qf v u) (hP : va_P (dC, dI) vwCl (Wf u) H) (hD : va_D A (Wf u)) (hS : va_S A s.heap H locs) (hd : decode cc pc = .ok (.ireturn, 1)) : W p l e R s m args below meth c H locs cells slots (MQ below (va_Qi (fun r u => (r = 0 ∨ r = 1) ∧ Qf r u) (zB dC dI cI cJ cS A Wf) A) args s cells slots A) (F0 m pc ls [.int v]) :=
  W.zret X.1.1 X.1.2.1 X.2.1 (zn_bool hb) (fun t ht hW => ⟨⟨v, u, rfl, ⟨hb, hq⟩, by rw [ht]; exact hP, va_K.moved hW.alike X.2.2.2, hD⟩, hS.F ht⟩) hS.2.2 hd X.2.2.1
theorem z_retMl (X : zX p s m args meth c cc nL (some .long) own dC dI cI cJ cS) {S : Type} {Wf : S → va_W} {Qf : Int64 → S → Prop} {v : Int64} {u : S} (hq : Qf v u) (hP : va_P (dC, dI) vwCl (Wf u) H) (hD : va_D A (Wf u)) (hS : va_S A s.heap H locs) (hd : decode cc pc = .ok (.lreturn, 1)) : W p l e R s m args below meth c H locs cells slots (MQ below (va_Ql Qf (zB dC dI cI cJ cS A Wf) A) args s cells slots A) (F0 m pc ls [.long v]) :=
  W.lret X.1.1 X.1.2.1 X.2.1 (fun t ht hW => ⟨⟨v, u, rfl, hq, by rw [ht]; exact hP, va_K.moved hW.alike X.2.2.2, hD⟩, hS.F ht⟩) hS.2.2 hd X.2.2.1
theorem z_retMv (X : zX p s m args meth c cc nL none own dC dI cI cJ cS) {S : Type} {Wf : S → va_W} {Qf : S → Prop} {u : S} (hq : Qf u) (hP : va_P (dC, dI) vwCl (Wf u) H) (hD : va_D A (Wf u)) (hS : va_S A s.heap H locs) (hd : decode cc pc = .ok (.return_, 1)) : W p l e R s m args below meth c H locs cells slots (MQ below (va_Qv Qf (zB dC dI cI cJ cS A Wf) A) args s cells slots A) (F0 m pc ls []) :=
  W.vret X.1.1 X.1.2.1 X.2.1 (fun t ht hW => ⟨⟨u, rfl, hq, by rw [ht]; exact hP, va_K.moved hW.alike X.2.2.2, hD⟩, hS.F ht⟩) hS.2.2 hd X.2.2.1
end ZB2
/-- what a method's name says, once a method -/
abbrev zN (y : MethodName) (n : Nat) : Prop := y.cls ≠ "java/lang/invoke/MethodHandle" ∧ y.cls ≠ "java/lang/invoke/VarHandle" ∧ (parseMethodDescriptor y.desc).map (fun d => d.parameters.length) = some n
/-- what is known of a method that is called on an object, once a method -/
def zCalV (C : String) (y : MethodName) (bytes : ByteArray) (maxL : Nat) (ret : Option FieldType) (n : Nat) : Prop := Cond.instanceMethod y ∈ zT ∧ Cond.selects C y y ∈ zT ∧ Cond.initialized C ∈ zT ∧ Cond.code y bytes maxL ret ∈ zT ∧ zN y n ∧ y.cls = C
def zCalS (y : MethodName) (bytes : ByteArray) (maxL : Nat) (ret : Option FieldType) (n : Nat) : Prop := Cond.static y ∈ zT ∧ Cond.initialized y.cls ∈ zT ∧ Cond.code y bytes maxL ret ∈ zT ∧ zN y n
theorem zCalV.good {C own : String} {y : MethodName} {bytes : ByteArray} {maxL n idx : Nat} {ret : Option FieldType} (h : zCalV C y bytes maxL ret n) (hml : Cond.methodLink own idx y ∈ zT) : GoodIn zT (wsV own idx C y (Cond.code y bytes maxL ret :: zT)) := zT_in (fun w hw => by
  rcases List.mem_append.mp hw with hw | hw
  · simp only [List.mem_cons, List.not_mem_nil, or_false] at hw
    rcases hw with rfl | rfl | rfl | rfl
    · exact hml
    · exact h.1
    · exact h.2.1
    · exact h.2.2.1
  · rcases List.mem_cons.mp hw with rfl | hw
    · exact h.2.2.2.1
    · exact hw)
theorem zCalS.good {own : String} {y : MethodName} {bytes : ByteArray} {maxL n idx : Nat} {ret : Option FieldType} (h : zCalS y bytes maxL ret n) (hml : Cond.methodLink own idx y ∈ zT) : GoodIn zT (va_wsS own idx y (Cond.code y bytes maxL ret :: zT)) := zT_in (fun w hw => by
  rcases List.mem_append.mp hw with hw | hw
  · simp only [List.mem_cons, List.not_mem_nil, or_false] at hw
    rcases hw with rfl | rfl | rfl
    · exact hml
    · exact h.1
    · exact h.2.1
  · rcases List.mem_cons.mp hw with rfl | hw
    · exact h.2.2.1
    · exact hw)
theorem z_fm {w wc : va_W} {is : List Nat} (h : is.map (fun i => w[i]?) = wc.map some) : is.filterMap (fun i => w[i]?) = wc := by
  have h2 : (is.map (fun i => w[i]?)).filterMap id = (wc.map some).filterMap id := by rw [h]
  simpa [List.filterMap_map, Function.comp_def] using h2
section ZB3
variable {p : Program} {l : Launch} {e : Env} {R : Room} {s : State} {m : MethodId} {args : Array Value} {below : List Frame} {meth : Method} {c : Code} {H : Heap} {locs : List Loc} {cells slots : Nat} {Q : State → Prop} {dC : Nat → ClassId} {dI : Nat → Nat → Nat} {cI cJ cS : ClassId}
  {cc : ByteArray} {nL : Nat} {own C : String} {pc : Nat} {ls : Array Slot} {A : Nat → Prop} {y : MethodName} {bytes : ByteArray} {maxL idx n : Nat} {ret ret0 : Option FieldType} {rm : Room} {b : Nat} {As rest st : List Value} {w wc wr : va_W}
/-- a reader called on an object: an int comes back -/
theorem z_cVi {Qf : Int32 → Prop} (X : zX p s m args meth c cc nL ret0 own dC dI cI cJ cS) (hM : Met l y (Cond.code y bytes maxL ret :: zT) rm (zPp dC dI cI cJ cS wc (.ref b :: As)) (vp_Si Qf) 0 0 (fun _ => False)) (hG : zCalV C y bytes maxL ret n) (hml : Cond.methodLink own idx y ∈ zT) (hrm : rm.cells = 0 ∧ rm.slots = 0) (hR : rm.frames + 1 ≤ R.frames ∧ 8 + (maxL + 11) + rm.locals ≤ R.locals)
    (hP : va_P (dC, dI) vwCl w H) (is : List Nat) (hs : is.map (fun i => w[i]?) = wc.map some) (ci : Nat) {T : u_T} {N : Nat} (hc : vwCl[ci]? = some (C, T, N)) {fs : List Value} (he : wc[0]? = some (b, .inr (ci, fs))) (hl : ls.size = nL) (hn : As.length = n) (hst : st = As.reverse ++ .ref b :: rest) (hroom : (rest.map fun v => v.category).sum ≤ 8) (hcs : cells ≤ R.cells ∧ slots ≤ R.slots) (hdg : decode cc pc = .ok (.invokevirtual idx, 3))
    (kk : ∀ r : Int32, Qf r → W p l e R s m args below meth c H locs cells slots Q (F0 m (pc + 3) ls (.int r :: rest))) : W p l e R s m args below meth c H locs cells slots Q (F0 m pc ls st) := by
  have hPc := hP.sub is (z_fm hs)
  exact vp_callSi (W.runV (g := F0 m pc ls st) X.1 hM (cwV n X.1.2.2.2.2 (hG.good hml) rfl hrm.1 hrm.2 ⟨hG.2.2.2.2.2, hG.2.2.2.2.1⟩ hR) ⟨zPp_blind, va_recv X.2.2.2 hPc hc he, fun U hU hW => ⟨rfl, by rw [hU]; exact hPc, va_K.moved hW.alike X.2.2.2⟩⟩ rfl hn hl hst (lv_room (rest := st) hroom) hdg hcs) kk
theorem z_cVl {Qf : Int64 → Prop} (X : zX p s m args meth c cc nL ret0 own dC dI cI cJ cS) (hM : Met l y (Cond.code y bytes maxL ret :: zT) rm (zPp dC dI cI cJ cS wc (.ref b :: As)) (vp_Sl Qf) 0 0 (fun _ => False)) (hG : zCalV C y bytes maxL ret n) (hml : Cond.methodLink own idx y ∈ zT) (hrm : rm.cells = 0 ∧ rm.slots = 0) (hR : rm.frames + 1 ≤ R.frames ∧ 8 + (maxL + 11) + rm.locals ≤ R.locals)
    (hP : va_P (dC, dI) vwCl w H) (is : List Nat) (hs : is.map (fun i => w[i]?) = wc.map some) (ci : Nat) {T : u_T} {N : Nat} (hc : vwCl[ci]? = some (C, T, N)) {fs : List Value} (he : wc[0]? = some (b, .inr (ci, fs))) (hl : ls.size = nL) (hn : As.length = n) (hst : st = As.reverse ++ .ref b :: rest) (hroom : (rest.map fun v => v.category).sum ≤ 8) (hcs : cells ≤ R.cells ∧ slots ≤ R.slots) (hdg : decode cc pc = .ok (.invokevirtual idx, 3))
    (kk : ∀ r : Int64, Qf r → W p l e R s m args below meth c H locs cells slots Q (F0 m (pc + 3) ls (.long r :: rest))) : W p l e R s m args below meth c H locs cells slots Q (F0 m pc ls st) := by
  have hPc := hP.sub is (z_fm hs)
  exact vp_callSl (W.runV (g := F0 m pc ls st) X.1 hM (cwV n X.1.2.2.2.2 (hG.good hml) rfl hrm.1 hrm.2 ⟨hG.2.2.2.2.2, hG.2.2.2.2.1⟩ hR) ⟨zPp_blind, va_recv X.2.2.2 hPc hc he, fun U hU hW => ⟨rfl, by rw [hU]; exact hPc, va_K.moved hW.alike X.2.2.2⟩⟩ rfl hn hl hst (lv_room (rest := st) hroom) hdg hcs) kk
/-- a static reader -/
theorem z_cSi {Qf : Int32 → Prop} (X : zX p s m args meth c cc nL ret0 own dC dI cI cJ cS) (hM : Met l y (Cond.code y bytes maxL ret :: zT) rm (zPp dC dI cI cJ cS wc As) (vp_Si Qf) 0 0 (fun _ => False)) (hG : zCalS y bytes maxL ret n) (hml : Cond.methodLink own idx y ∈ zT) (hrm : rm.cells = 0 ∧ rm.slots = 0) (hR : rm.frames + 1 ≤ R.frames ∧ 8 + (maxL + 11) + rm.locals ≤ R.locals)
    (hP : va_P (dC, dI) vwCl w H) (is : List Nat) (hs : is.map (fun i => w[i]?) = wc.map some) (hl : ls.size = nL) (hn : As.length = n) (hst : st = As.reverse ++ rest) (hroom : (rest.map fun v => v.category).sum ≤ 8) (hcs : cells ≤ R.cells ∧ slots ≤ R.slots) (hdg : decode cc pc = .ok (.invokestatic idx, 3))
    (kk : ∀ r : Int32, Qf r → W p l e R s m args below meth c H locs cells slots Q (F0 m (pc + 3) ls (.int r :: rest))) : W p l e R s m args below meth c H locs cells slots Q (F0 m pc ls st) := by
  have hPc := hP.sub is (z_fm hs)
  exact vp_callSi (W.runS (g := F0 m pc ls st) X.1 hM (va_cwS n X.1.2.2.2.2 (hG.good hml) rfl hrm.1 hrm.2 hG.2.2.2 hR) ⟨zPp_blind, fun U hU hW => ⟨rfl, by rw [hU]; exact hPc, va_K.moved hW.alike X.2.2.2⟩⟩ rfl hn hl hst (lv_room (rest := st) hroom) hdg hcs) kk
theorem z_cSl {Qf : Int64 → Prop} (X : zX p s m args meth c cc nL ret0 own dC dI cI cJ cS) (hM : Met l y (Cond.code y bytes maxL ret :: zT) rm (zPp dC dI cI cJ cS wc As) (vp_Sl Qf) 0 0 (fun _ => False)) (hG : zCalS y bytes maxL ret n) (hml : Cond.methodLink own idx y ∈ zT) (hrm : rm.cells = 0 ∧ rm.slots = 0) (hR : rm.frames + 1 ≤ R.frames ∧ 8 + (maxL + 11) + rm.locals ≤ R.locals)
    (hP : va_P (dC, dI) vwCl w H) (is : List Nat) (hs : is.map (fun i => w[i]?) = wc.map some) (hl : ls.size = nL) (hn : As.length = n) (hst : st = As.reverse ++ rest) (hroom : (rest.map fun v => v.category).sum ≤ 8) (hcs : cells ≤ R.cells ∧ slots ≤ R.slots) (hdg : decode cc pc = .ok (.invokestatic idx, 3))
    (kk : ∀ r : Int64, Qf r → W p l e R s m args below meth c H locs cells slots Q (F0 m (pc + 3) ls (.long r :: rest))) : W p l e R s m args below meth c H locs cells slots Q (F0 m pc ls st) := by
  have hPc := hP.sub is (z_fm hs)
  exact vp_callSl (W.runS (g := F0 m pc ls st) X.1 hM (va_cwS n X.1.2.2.2.2 (hG.good hml) rfl hrm.1 hrm.2 hG.2.2.2 hR) ⟨zPp_blind, fun U hU hW => ⟨rfl, by rw [hU]; exact hPc, va_K.moved hW.alike X.2.2.2⟩⟩ rfl hn hl hst (lv_room (rest := st) hroom) hdg hcs) kk
/-- behind a writer: the caller's world with the callee's part changed -/
theorem z_back {S : Type} {Wf Wn : S → va_W} {s' : State} {H1 : Heap} (hP : va_P (dC, dI) vwCl w H) (hD : va_D A w) (isC isR : List Nat) (hC : isC.map (fun i => w[i]?) = wc.map some) (hRr : isR.map (fun i => w[i]?) = wr.map some) (hnd : va_nd isR = true) (hdis : ∀ i ∈ isR, i ∉ isC) (is2 : List Nat) (hn2 : va_nd is2 = true) (hWn : ∀ u, is2.map (fun i => (wr ++ Wf u)[i]?) = (Wn u).map some)
    (hk : ∀ q : Nat, q < H.size → ¬ va_A wc H.size q → H1[q]? = H[q]?) (hF : ∀ q, va_A wc H.size q → A q) {u : S} {t : State} (ht : t.heap = H1) (hB : zB dC dI cI cJ cS (va_A wc H.size) Wf u t) : va_P (dC, dI) vwCl (Wn u) H1 ∧ va_D A (Wn u) := by
  obtain ⟨hP1, -, hD1⟩ := hB
  rw [ht] at hP1
  obtain ⟨hP, hD⟩ := va_join (wr := wr) (w1 := Wf u) hP hD isC isR hC hRr hnd hdis hk hF hP1 hD1
  exact ⟨hP.sub is2 (z_fm (hWn u)), hD.sub is2 hn2 (hWn u)⟩
/-- a writer called on an object: an int comes back -/
theorem z_mVi {S : Type} {Wf Wn : S → va_W} {Qf : Int32 → S → Prop} (X : zX p s m args meth c cc nL ret0 own dC dI cI cJ cS) (hM : Met l y (Cond.code y bytes maxL ret :: zT) rm (zPm dC dI cI cJ cS wc (.ref b :: As) H.size) (va_Qi Qf (zB dC dI cI cJ cS (va_A wc H.size) Wf) (va_A wc H.size)) 0 0 (va_A wc H.size)) (hG : zCalV C y bytes maxL ret n) (hml : Cond.methodLink own idx y ∈ zT) (hrm : rm.cells = 0 ∧ rm.slots = 0) (hR : rm.frames + 1 ≤ R.frames ∧ 8 + (maxL + 11) + rm.locals ≤ R.locals)
    (hP : va_P (dC, dI) vwCl w H) (hD : va_D A w) (hS : va_S A s.heap H locs) (hA : ∀ q : Nat, s.heap.size ≤ q → A q) (isC isR : List Nat) (hC : isC.map (fun i => w[i]?) = wc.map some) (hnc : va_nd isC = true) (hRr : isR.map (fun i => w[i]?) = wr.map some) (hnd : va_nd isR = true) (hdis : ∀ i ∈ isR, i ∉ isC) (is2 : List Nat) (hn2 : va_nd is2 = true) (hWn : ∀ u, is2.map (fun i => (wr ++ Wf u)[i]?) = (Wn u).map some)
    (ci : Nat) {T : u_T} {N : Nat} (hc : vwCl[ci]? = some (C, T, N)) {fs : List Value} (he : wc[0]? = some (b, .inr (ci, fs))) (hl : ls.size = nL) (hn : As.length = n) (hst : st = As.reverse ++ .ref b :: rest) (hroom : (rest.map fun v => v.category).sum ≤ 8) (hcs : cells ≤ R.cells ∧ slots ≤ R.slots) (hdg : decode cc pc = .ok (.invokevirtual idx, 3))
    (kk : ∀ (r : Int32) (u : S) (H1 : Heap) (locs1 : List Loc), Qf r u → va_P (dC, dI) vwCl (Wn u) H1 → va_D A (Wn u) → va_S A s.heap H1 locs1 → W p l e R s m args below meth c H1 locs1 cells slots Q (F0 m (pc + 3) ls (.int r :: rest))) : W p l e R s m args below meth c H locs cells slots Q (F0 m pc ls st) := by
  have hPc := hP.sub isC (z_fm hC)
  have hDc := hD.sub isC hnc hC
  have hFc := va_free (wc := wc) hD hS hA isC hC
  refine va_calli (va_runV (g := F0 m pc ls st) X.1 hM (cwV n X.1.2.2.2.2 (hG.good hml) rfl hrm.1 hrm.2 ⟨hG.2.2.2.2.2, hG.2.2.2.2.1⟩ hR) ⟨zPm_blind, va_recv X.2.2.2 hPc hc he, fun U hU hW => ⟨rfl, by rw [hU], by rw [hU]; exact hPc, va_K.moved hW.alike X.2.2.2, hDc.weaken (fun _ _ _ _ => trivial)⟩⟩ rfl hn hl hst (lv_room (rest := st) hroom) hdg hcs) hS (fun q _ h => hFc q h) hFc (fun r u t H1 locs1 ht hvm hq hB hz1 hk1 hS1 => ?_)
  obtain ⟨hP2, hD2⟩ := z_back (s' := s) (Wn := Wn) hP hD isC isR hC hRr hnd hdis is2 hn2 hWn hk1 hFc ht hB
  exact kk r u H1 locs1 hq hP2 hD2 hS1
theorem z_mVl {S : Type} {Wf Wn : S → va_W} {Qf : Int64 → S → Prop} (X : zX p s m args meth c cc nL ret0 own dC dI cI cJ cS) (hM : Met l y (Cond.code y bytes maxL ret :: zT) rm (zPm dC dI cI cJ cS wc (.ref b :: As) H.size) (va_Ql Qf (zB dC dI cI cJ cS (va_A wc H.size) Wf) (va_A wc H.size)) 0 0 (va_A wc H.size)) (hG : zCalV C y bytes maxL ret n) (hml : Cond.methodLink own idx y ∈ zT) (hrm : rm.cells = 0 ∧ rm.slots = 0) (hR : rm.frames + 1 ≤ R.frames ∧ 8 + (maxL + 11) + rm.locals ≤ R.locals)
    (hP : va_P (dC, dI) vwCl w H) (hD : va_D A w) (hS : va_S A s.heap H locs) (hA : ∀ q : Nat, s.heap.size ≤ q → A q) (isC isR : List Nat) (hC : isC.map (fun i => w[i]?) = wc.map some) (hnc : va_nd isC = true) (hRr : isR.map (fun i => w[i]?) = wr.map some) (hnd : va_nd isR = true) (hdis : ∀ i ∈ isR, i ∉ isC) (is2 : List Nat) (hn2 : va_nd is2 = true) (hWn : ∀ u, is2.map (fun i => (wr ++ Wf u)[i]?) = (Wn u).map some)
    (ci : Nat) {T : u_T} {N : Nat} (hc : vwCl[ci]? = some (C, T, N)) {fs : List Value} (he : wc[0]? = some (b, .inr (ci, fs))) (hl : ls.size = nL) (hn : As.length = n) (hst : st = As.reverse ++ .ref b :: rest) (hroom : (rest.map fun v => v.category).sum ≤ 8) (hcs : cells ≤ R.cells ∧ slots ≤ R.slots) (hdg : decode cc pc = .ok (.invokevirtual idx, 3))
    (kk : ∀ (r : Int64) (u : S) (H1 : Heap) (locs1 : List Loc), Qf r u → va_P (dC, dI) vwCl (Wn u) H1 → va_D A (Wn u) → va_S A s.heap H1 locs1 → W p l e R s m args below meth c H1 locs1 cells slots Q (F0 m (pc + 3) ls (.long r :: rest))) : W p l e R s m args below meth c H locs cells slots Q (F0 m pc ls st) := by
  have hPc := hP.sub isC (z_fm hC)
  have hDc := hD.sub isC hnc hC
  have hFc := va_free (wc := wc) hD hS hA isC hC
  refine va_calll (va_runV (g := F0 m pc ls st) X.1 hM (cwV n X.1.2.2.2.2 (hG.good hml) rfl hrm.1 hrm.2 ⟨hG.2.2.2.2.2, hG.2.2.2.2.1⟩ hR) ⟨zPm_blind, va_recv X.2.2.2 hPc hc he, fun U hU hW => ⟨rfl, by rw [hU], by rw [hU]; exact hPc, va_K.moved hW.alike X.2.2.2, hDc.weaken (fun _ _ _ _ => trivial)⟩⟩ rfl hn hl hst (lv_room (rest := st) hroom) hdg hcs) hS (fun q _ h => hFc q h) hFc (fun r u t H1 locs1 ht hvm hq hB hz1 hk1 hS1 => ?_)
  obtain ⟨hP2, hD2⟩ := z_back (s' := s) (Wn := Wn) hP hD isC isR hC hRr hnd hdis is2 hn2 hWn hk1 hFc ht hB
  exact kk r u H1 locs1 hq hP2 hD2 hS1
theorem z_mVv {S : Type} {Wf Wn : S → va_W} {Qf : S → Prop} (X : zX p s m args meth c cc nL ret0 own dC dI cI cJ cS) (hM : Met l y (Cond.code y bytes maxL ret :: zT) rm (zPm dC dI cI cJ cS wc (.ref b :: As) H.size) (va_Qv Qf (zB dC dI cI cJ cS (va_A wc H.size) Wf) (va_A wc H.size)) 0 0 (va_A wc H.size)) (hG : zCalV C y bytes maxL ret n) (hml : Cond.methodLink own idx y ∈ zT) (hrm : rm.cells = 0 ∧ rm.slots = 0) (hR : rm.frames + 1 ≤ R.frames ∧ 8 + (maxL + 11) + rm.locals ≤ R.locals)
    (hP : va_P (dC, dI) vwCl w H) (hD : va_D A w) (hS : va_S A s.heap H locs) (hA : ∀ q : Nat, s.heap.size ≤ q → A q) (isC isR : List Nat) (hC : isC.map (fun i => w[i]?) = wc.map some) (hnc : va_nd isC = true) (hRr : isR.map (fun i => w[i]?) = wr.map some) (hnd : va_nd isR = true) (hdis : ∀ i ∈ isR, i ∉ isC) (is2 : List Nat) (hn2 : va_nd is2 = true) (hWn : ∀ u, is2.map (fun i => (wr ++ Wf u)[i]?) = (Wn u).map some)
    (ci : Nat) {T : u_T} {N : Nat} (hc : vwCl[ci]? = some (C, T, N)) {fs : List Value} (he : wc[0]? = some (b, .inr (ci, fs))) (hl : ls.size = nL) (hn : As.length = n) (hst : st = As.reverse ++ .ref b :: rest) (hroom : (rest.map fun v => v.category).sum ≤ 8) (hcs : cells ≤ R.cells ∧ slots ≤ R.slots) (hdg : decode cc pc = .ok (.invokevirtual idx, 3))
    (kk : ∀ (u : S) (H1 : Heap) (locs1 : List Loc), Qf u → va_P (dC, dI) vwCl (Wn u) H1 → va_D A (Wn u) → va_S A s.heap H1 locs1 → W p l e R s m args below meth c H1 locs1 cells slots Q (F0 m (pc + 3) ls rest)) : W p l e R s m args below meth c H locs cells slots Q (F0 m pc ls st) := by
  have hPc := hP.sub isC (z_fm hC)
  have hDc := hD.sub isC hnc hC
  have hFc := va_free (wc := wc) hD hS hA isC hC
  refine va_callv (va_runV (g := F0 m pc ls st) X.1 hM (cwV n X.1.2.2.2.2 (hG.good hml) rfl hrm.1 hrm.2 ⟨hG.2.2.2.2.2, hG.2.2.2.2.1⟩ hR) ⟨zPm_blind, va_recv X.2.2.2 hPc hc he, fun U hU hW => ⟨rfl, by rw [hU], by rw [hU]; exact hPc, va_K.moved hW.alike X.2.2.2, hDc.weaken (fun _ _ _ _ => trivial)⟩⟩ rfl hn hl hst (lv_room (rest := st) hroom) hdg hcs) hS (fun q _ h => hFc q h) hFc (fun u t H1 locs1 ht hvm hq hB hz1 hk1 hS1 => ?_)
  obtain ⟨hP2, hD2⟩ := z_back (s' := s) (Wn := Wn) hP hD isC isR hC hRr hnd hdis is2 hn2 hWn hk1 hFc ht hB
  exact kk u H1 locs1 hq hP2 hD2 hS1
end ZB3
theorem arrV_c {cA : ClassId} {n : Nat} {f g : Nat → Value} (h : ∀ k, k < n → f k = g k) : arrV cA n f = arrV cA n g := by
  unfold arrV
  congr 1
  congr 1
  funext j
  exact h j.val j.isLt
theorem z_setat {α : Type} {w : List α} {q k : Nat} {e e' x : α} (hk : (w.set q e')[k]? = some x) : (k = q ∧ x = e' ∧ (w.set q e)[k]? = some e) ∨ (¬ k = q ∧ (w.set q e)[k]? = some x) := by
  rw [List.getElem?_set] at hk
  rw [List.getElem?_set]
  by_cases h : q = k
  · rw [if_pos h] at hk ⊢
    by_cases h2 : q < w.length
    · rw [if_pos h2] at hk ⊢
      exact Or.inl ⟨h.symm, (Option.some.inj hk).symm, rfl⟩
    · rw [if_neg h2] at hk; cases hk
  · rw [if_neg h] at hk ⊢
    exact Or.inr ⟨fun e => h e.symm, hk⟩
theorem z_swapP {D : va_G} {cl : List vw_C} {w : va_W} {q : Nat} {e e' : Nat × va_E} {H : Heap} (h : va_P D cl (w.set q e) H) (hc : va_at D cl e H → va_at D cl e' H) : va_P D cl (w.set q e') H := by
  intro k x hk
  rcases z_setat (e := e) hk with ⟨-, rfl, h2⟩ | ⟨-, h2⟩
  · exact hc (h k e h2)
  · exact h k x h2
theorem z_swapD {A : Nat → Prop} {w : va_W} {q : Nat} {e e' : Nat × va_E} (h : va_D A (w.set q e)) (he : e.1 = e'.1) : va_D A (w.set q e') := by
  have key : ∀ (k : Nat) (x : Nat × va_E), (w.set q e')[k]? = some x → ∃ y : Nat × va_E, (w.set q e)[k]? = some y ∧ y.1 = x.1 := by
    intro k x hk
    rcases z_setat (e := e) hk with ⟨-, rfl, h2⟩ | ⟨-, h2⟩
    · exact ⟨e, h2, he⟩
    · exact ⟨x, h2, rfl⟩
  refine ⟨fun i j p r hp hr hpr => ?_, fun k x hk => ?_⟩
  · obtain ⟨y, y1, y2⟩ := key i p hp
    obtain ⟨z, z1, z2⟩ := key j r hr
    exact h.1 i j y z y1 z1 (by rw [y2, z2]; exact hpr)
  · obtain ⟨y, y1, y2⟩ := key k x hk
    rw [← y2]; exact h.2 k y y1
section ZB4
variable {p : Program} {l : Launch} {e : Env} {R : Room} {s : State} {m : MethodId} {args : Array Value} {below : List Frame} {meth : Method} {c : Code} {H : Heap} {locs : List Loc} {cells slots : Nat} {Q : State → Prop} {dC : Nat → ClassId} {dI : Nat → Nat → Nat} {cI cJ cS : ClassId}
  {cc : ByteArray} {nL : Nat} {own : String} {pc : Nat} {ls : Array Slot} {A : Nat → Prop} {ret0 : Option FieldType} {rest : List Value} {w w' : va_W}
/-- a field written -/
theorem z_put {ref Cn : String} {T : u_T} {N ci index ad : Nat} (X : zX p s m args meth c cc nL ret0 own dC dI cI cJ cS) (hin : ∀ w ∈ u_ws Cn T N, w ∈ zT) (ty0 : Nat → FieldType) (hty : ∀ k, k < N → parseFieldDescriptor (T k).2.2.1 = some (ty0 k)) (hnm : ∀ a, a < N → ∀ b, b < N → a ≠ b → (T a).2.1 ≠ (T b).2.1)
    (hP : va_P (dC, dI) vwCl w H) (hD : va_D A w) (hS : va_S A s.heap H locs) (q0 : Nat) {fs : List Value} (he : w[q0]? = some (ad, .inr (ci, fs))) (hc : vwCl[ci]? = some (Cn, T, N)) (k : Nat) (hk : k < N) (hlink : (Cond.fieldLink own index ref (T k).2.1 (T k).2.2.1).before args s = true) (hsame : ∀ x, s.fieldFound? (T k).1 (T k).2.1 (T k).2.2.1 = some x → s.fieldFound? ref (T k).2.1 (T k).2.2.1 = some x) (hfin : (T k).2.2.2 = false) {ty : FieldType} {v : Value} (hd : parseFieldDescriptor (T k).2.2.1 = some ty) (hn : narrow ty v = v) (hfit : fits ty v = true) (hl : k < fs.length)
    (hw : w.set q0 (ad, .inr (ci, fs.set k v)) = w') (hdg : decode cc pc = .ok (.putfield index, 3))
    (kk : ∀ (H1 : Heap) (locs1 : List Loc), va_P (dC, dI) vwCl w' H1 → va_D A w' → va_S A s.heap H1 locs1 → W p l e R s m args below meth c H1 locs1 cells slots Q (F0 m (pc + 3) ls rest)) : W p l e R s m args below meth c H locs cells slots Q (F0 m pc ls (v :: .ref ad :: rest)) := by
  subst hw
  exact va_put X.1.1 X.1.2.1 X.1.2.2.2.2 hin ty0 hty hnm X.1.2.2.2.1 X.2.2.2 hP hD hS q0 he hc k hk hlink hsame hfin hd hn hfit hl hdg kk
/-- an int of a row written -/
theorem z_iast {ad n : Nat} {f : Nat → Int32} {Wn : (Nat → Int32) → va_W} (X : zX p s m args meth c cc nL ret0 own dC dI cI cJ cS) (hP : va_P (dC, dI) vwCl w H) (hD : va_D A w) (hS : va_S A s.heap H locs) (q0 t0 : Nat) (ha : w[q0]? = some (ad, .inl (cI, n, .inl f))) (ht : (zTy cI cJ cS)[t0]? = some (cI, .int)) {i x : Int32} (hin : vp_in i n) (hw : ∀ g, w.set q0 (ad, .inl (cI, n, .inl g)) = Wn g) (hdg : decode cc pc = .ok (.iastore, 1))
    (kk : ∀ (g : Nat → Int32) (H1 : Heap) (locs1 : List Loc), g = upd f i.toNatClampNeg x → va_P (dC, dI) vwCl (Wn g) H1 → va_D A (Wn g) → va_S A s.heap H1 locs1 → W p l e R s m args below meth c H1 locs1 cells slots Q (F0 m (pc + 1) ls rest)) : W p l e R s m args below meth c H locs cells slots Q (F0 m pc ls (.int x :: .int i :: .ref ad :: rest)) := by
  refine va_iast X.1.1 X.1.2.1 X.2.2.2 hP hD hS q0 t0 ha ht hin hdg (fun H1 locs1 h1 h2 h3 => ?_)
  rw [hw] at h1 h2
  exact kk _ H1 locs1 rfl h1 h2 h3
theorem z_last {ad n : Nat} {f : Nat → Int64} {Wn : (Nat → Int64) → va_W} (X : zX p s m args meth c cc nL ret0 own dC dI cI cJ cS) (hP : va_P (dC, dI) vwCl w H) (hD : va_D A w) (hS : va_S A s.heap H locs) (q0 t0 : Nat) (ha : w[q0]? = some (ad, .inl (cJ, n, .inr (.inl f)))) (ht : (zTy cI cJ cS)[t0]? = some (cJ, .long)) {i : Int32} {x : Int64} (hin : vp_in i n) (hw : ∀ g, w.set q0 (ad, .inl (cJ, n, .inr (.inl g))) = Wn g) (hdg : decode cc pc = .ok (.lastore, 1))
    (kk : ∀ (g : Nat → Int64) (H1 : Heap) (locs1 : List Loc), g = vp_updL f i.toNatClampNeg x → va_P (dC, dI) vwCl (Wn g) H1 → va_D A (Wn g) → va_S A s.heap H1 locs1 → W p l e R s m args below meth c H1 locs1 cells slots Q (F0 m (pc + 1) ls rest)) : W p l e R s m args below meth c H locs cells slots Q (F0 m pc ls (.long x :: .int i :: .ref ad :: rest)) := by
  refine va_last X.1.1 X.1.2.1 X.2.2.2 hP hD hS q0 t0 ha ht hin hdg (fun H1 locs1 h1 h2 h3 => ?_)
  rw [hw] at h1 h2
  exact kk _ H1 locs1 rfl h1 h2 h3
/-- System.arraycopy over rows of ints -/
theorem z_copyi {ad ad0 n0 n1 idx : Nat} {f g : Nat → Int32} {Wn : (Nat → Int32) → va_W} (X : zX p s m args meth c cc nL ret0 own dC dI cI cJ cS) (hlink : (Cond.methodLink own idx arraycopyName).before args s = true) (hnat : (Cond.native arraycopyName).before args s = true) (hstat : (Cond.static arraycopyName).before args s = true) (hini : (Cond.initialized "java/lang/System").before args s = true) (hls : ls.size = nL)
    (hP : va_P (dC, dI) vwCl w H) (hD : va_D A w) (hS : va_S A s.heap H locs) (q0 q1 : Nat) (ha0 : w[q0]? = some (ad0, .inl (cI, n0, .inl f))) (ha1 : w[q1]? = some (ad, .inl (cI, n1, .inl g))) {sp dp n : Int32} (h1 : ¬ sp < 0) (h2 : ¬ dp < 0) (h3 : ¬ n < 0) (h4 : sp.toNatClampNeg + n.toNatClampNeg ≤ n0) (h5 : dp.toNatClampNeg + n.toNatClampNeg ≤ n1)
    (hframes : 1 ≤ R.frames) (hlocals : (rest.map fun v => v.category).sum + (nativeFrameWords "java/lang/System" "arraycopy" 5 + 11) ≤ R.locals) (hw : ∀ h, w.set q1 (ad, .inl (cI, n1, .inl h)) = Wn h) (h : Nat → Int32) (hh : ∀ k, k < n1 → h k = va_cpy f g sp.toNatClampNeg dp.toNatClampNeg n.toNatClampNeg k) (hdg : decode cc pc = .ok (.invokestatic idx, 3))
    (kk : ∀ (H1 : Heap) (locs1 : List Loc), va_P (dC, dI) vwCl (Wn h) H1 → va_D A (Wn h) → va_S A s.heap H1 locs1 → W p l e R s m args below meth c H1 locs1 cells slots Q (F0 m (pc + 3) ls rest)) : W p l e R s m args below meth c H locs cells slots Q (F0 m pc ls (.int n :: .int dp :: .ref ad :: .int sp :: .ref ad0 :: rest)) := by
  refine va_copyi X.1.1 X.1.2.1 (X.1.2.2.1.trans hls.symm) X.1.2.2.2.1 hlink hnat hstat hini X.2.2.2 hP hD hS q0 q1 0 0 ha0 ha1 rfl rfl rfl h1 h2 h3 h4 h5 (fun _ _ => rfl) hframes hlocals hdg (fun H1 locs1 k1 k2 k3 => ?_)
  have k1 := z_swapP (e' := (ad, .inl (cI, n1, .inl h))) k1 (fun q => by
    have q : H1[ad]? = some (arrV cI n1 (fun j => .int (va_cpy f g sp.toNatClampNeg dp.toNatClampNeg n.toNatClampNeg j))) := q
    show H1[ad]? = some (arrV cI n1 (fun j => .int (h j)))
    rw [q, arrV_c (fun k hk => by show _ = Value.int (h k); rw [hh k hk])])
  have k2 := z_swapD (e' := (ad, .inl (cI, n1, .inl h))) k2 rfl
  rw [hw] at k1 k2
  exact kk H1 locs1 k1 k2 k3
theorem z_copyl {ad ad0 n0 n1 idx : Nat} {f g : Nat → Int64} {Wn : (Nat → Int64) → va_W} (X : zX p s m args meth c cc nL ret0 own dC dI cI cJ cS) (hlink : (Cond.methodLink own idx arraycopyName).before args s = true) (hnat : (Cond.native arraycopyName).before args s = true) (hstat : (Cond.static arraycopyName).before args s = true) (hini : (Cond.initialized "java/lang/System").before args s = true) (hls : ls.size = nL)
    (hP : va_P (dC, dI) vwCl w H) (hD : va_D A w) (hS : va_S A s.heap H locs) (q0 q1 : Nat) (ha0 : w[q0]? = some (ad0, .inl (cJ, n0, .inr (.inl f)))) (ha1 : w[q1]? = some (ad, .inl (cJ, n1, .inr (.inl g)))) {sp dp n : Int32} (h1 : ¬ sp < 0) (h2 : ¬ dp < 0) (h3 : ¬ n < 0) (h4 : sp.toNatClampNeg + n.toNatClampNeg ≤ n0) (h5 : dp.toNatClampNeg + n.toNatClampNeg ≤ n1)
    (hframes : 1 ≤ R.frames) (hlocals : (rest.map fun v => v.category).sum + (nativeFrameWords "java/lang/System" "arraycopy" 5 + 11) ≤ R.locals) (hw : ∀ h, w.set q1 (ad, .inl (cJ, n1, .inr (.inl h))) = Wn h) (h : Nat → Int64) (hh : ∀ k, k < n1 → h k = va_cpy f g sp.toNatClampNeg dp.toNatClampNeg n.toNatClampNeg k) (hdg : decode cc pc = .ok (.invokestatic idx, 3))
    (kk : ∀ (H1 : Heap) (locs1 : List Loc), va_P (dC, dI) vwCl (Wn h) H1 → va_D A (Wn h) → va_S A s.heap H1 locs1 → W p l e R s m args below meth c H1 locs1 cells slots Q (F0 m (pc + 3) ls rest)) : W p l e R s m args below meth c H locs cells slots Q (F0 m pc ls (.int n :: .int dp :: .ref ad :: .int sp :: .ref ad0 :: rest)) := by
  refine va_copyl X.1.1 X.1.2.1 (X.1.2.2.1.trans hls.symm) X.1.2.2.2.1 hlink hnat hstat hini X.2.2.2 hP hD hS q0 q1 1 1 ha0 ha1 rfl rfl rfl h1 h2 h3 h4 h5 (fun _ _ => rfl) hframes hlocals hdg (fun H1 locs1 k1 k2 k3 => ?_)
  have k1 := z_swapP (e' := (ad, .inl (cJ, n1, .inr (.inl h)))) k1 (fun q => by
    have q : H1[ad]? = some (arrV cJ n1 (fun j => .long (va_cpy f g sp.toNatClampNeg dp.toNatClampNeg n.toNatClampNeg j))) := q
    show H1[ad]? = some (arrV cJ n1 (fun j => .long (h j)))
    rw [q, arrV_c (fun k hk => by show _ = Value.long (h k); rw [hh k hk])])
  have k2 := z_swapD (e' := (ad, .inl (cJ, n1, .inr (.inl h)))) k2 rfl
  rw [hw] at k1 k2
  exact kk H1 locs1 k1 k2 k3
end ZB4
abbrev zTerms : Type := Int32 × Int32 × Int32 × Int32
abbrev zTotals : Type := Int32 × Int32 × Int32 × Int32 × Int32
abbrev zSegs : Type := (Nat → Int64) × (Nat → Int32) × (Nat → Int32) × (Nat → Int32) × Int32
abbrev zTree : Type := (Nat → Int64) × (Nat → Int32) × Int32
abbrev zColl : Type := (Nat → Int64) × Int32 × Int32 × Int32
abbrev zDiary : Type := (Nat → Int32) × Int32
abbrev zState : Type := zTerms × zTotals × zSegs × zTree × zColl × zDiary × Int32 × Int32 × Int32
abbrev zTape : Type := (Nat → Int32) × (Nat → Int32) × Int32 × Int32 × Int32 × Int32 × Int32
abbrev zModel : Type := Int32 × (Nat → Int32) × (Nat → Int32) × (Nat → Int32) × (Nat → Int32) × (Nat → Int32) × Int32 × Int32 × Int32 × (Nat → Int32) × Int32 × Int32 × Int32 × Int32 × (Nat → Int32) × (Nat → Int32) × Int32
abbrev cl_X7 (cI cJ : ClassId) (a : Nat → Nat) (u : zTerms) : va_W := [(a 0, .inr (6, [.int u.1, .int u.2.1, .int u.2.2.1, .int u.2.2.2]))]
abbrev cl_X8 (cI cJ : ClassId) (a : Nat → Nat) (u : zTotals) : va_W := [(a 0, .inr (7, [.int u.1, .int u.2.1, .int u.2.2.1, .int u.2.2.2.1, .int u.2.2.2.2]))]
abbrev cl_X4 (cI cJ : ClassId) (a : Nat → Nat) (u : zSegs) : va_W := [(a 0, .inr (3, [.ref (a 1), .ref (a 2), .ref (a 3), .ref (a 4), .int u.2.2.2.2])), (a 1, .inl (cJ, 600, .inr (.inl u.1))), (a 2, .inl (cI, 12, .inl u.2.1)), (a 3, .inl (cI, 12, .inl u.2.2.1)), (a 4, .inl (cI, 12, .inl u.2.2.2.1))]
abbrev cl_X9 (cI cJ : ClassId) (a : Nat → Nat) (u : zTree) : va_W := [(a 0, .inr (8, [.ref (a 1), .ref (a 2), .int u.2.2])), (a 1, .inl (cJ, 384, .inr (.inl u.1))), (a 2, .inl (cI, 6, .inl u.2.1))]
abbrev cl_X1 (cI cJ : ClassId) (a : Nat → Nat) (u : zColl) : va_W := [(a 0, .inr (0, [.ref (a 1), .int u.2.1, .int u.2.2.1, .int u.2.2.2])), (a 1, .inl (cJ, 50, .inr (.inl u.1)))]
abbrev cl_X2 (cI cJ : ClassId) (a : Nat → Nat) (u : zDiary) : va_W := [(a 0, .inr (1, [.ref (a 1), .int u.2])), (a 1, .inl (cI, 90, .inl u.1))]
abbrev cl_X5 (cI cJ : ClassId) (a : Nat → Nat) (u : zState) : va_W := [(a 0, .inr (4, [.ref (a 1), .ref (a 2), .ref (a 3), .ref (a 8), .ref (a 11), .ref (a 13), .int u.2.2.2.2.2.2.1, .int u.2.2.2.2.2.2.2.1, .int u.2.2.2.2.2.2.2.2])), (a 1, .inr (6, [.int u.1.1, .int u.1.2.1, .int u.1.2.2.1, .int u.1.2.2.2])), (a 2, .inr (7, [.int u.2.1.1, .int u.2.1.2.1, .int u.2.1.2.2.1, .int u.2.1.2.2.2.1, .int u.2.1.2.2.2.2])), (a 3, .inr (3, [.ref (a 4), .ref (a 5), .ref (a 6), .ref (a 7), .int u.2.2.1.2.2.2.2])), (a 4, .inl (cJ, 600, .inr (.inl u.2.2.1.1))), (a 5, .inl (cI, 12, .inl u.2.2.1.2.1)), (a 6, .inl (cI, 12, .inl u.2.2.1.2.2.1)), (a 7, .inl (cI, 12, .inl u.2.2.1.2.2.2.1)), (a 8, .inr (8, [.ref (a 9), .ref (a 10), .int u.2.2.2.1.2.2])), (a 9, .inl (cJ, 384, .inr (.inl u.2.2.2.1.1))), (a 10, .inl (cI, 6, .inl u.2.2.2.1.2.1)), (a 11, .inr (0, [.ref (a 12), .int u.2.2.2.2.1.2.1, .int u.2.2.2.2.1.2.2.1, .int u.2.2.2.2.1.2.2.2])), (a 12, .inl (cJ, 50, .inr (.inl u.2.2.2.2.1.1))), (a 13, .inr (1, [.ref (a 14), .int u.2.2.2.2.2.1.2])), (a 14, .inl (cI, 90, .inl u.2.2.2.2.2.1.1))]
abbrev cl_X6 (cI cJ : ClassId) (a : Nat → Nat) (u : zTape) : va_W := [(a 0, .inr (5, [.ref (a 1), .ref (a 2), .int u.2.2.1, .int u.2.2.2.1, .int u.2.2.2.2.1, .int u.2.2.2.2.2.1, .int u.2.2.2.2.2.2])), (a 1, .inl (cI, 400, .inl u.1)), (a 2, .inl (cI, 4, .inl u.2.1))]
abbrev cl_X11 (cI cJ : ClassId) (a : Nat → Nat) (u : zModel) : va_W := [(a 0, .inr (10, [.int u.1, .ref (a 1), .ref (a 2), .ref (a 3), .ref (a 4), .ref (a 5), .int u.2.2.2.2.2.2.1, .int u.2.2.2.2.2.2.2.1, .int u.2.2.2.2.2.2.2.2.1, .ref (a 6), .int u.2.2.2.2.2.2.2.2.2.2.1, .int u.2.2.2.2.2.2.2.2.2.2.2.1, .int u.2.2.2.2.2.2.2.2.2.2.2.2.1, .int u.2.2.2.2.2.2.2.2.2.2.2.2.2.1, .ref (a 7), .ref (a 8), .int u.2.2.2.2.2.2.2.2.2.2.2.2.2.2.2.2])), (a 1, .inl (cI, 5497, .inl u.2.1)), (a 2, .inl (cI, 5497, .inl u.2.2.1)), (a 3, .inl (cI, 5497, .inl u.2.2.2.1)), (a 4, .inl (cI, 5497, .inl u.2.2.2.2.1)), (a 5, .inl (cI, 43976, .inl u.2.2.2.2.2.1)), (a 6, .inl (cI, 400, .inl u.2.2.2.2.2.2.2.2.2.1)), (a 7, .inl (cI, 64, .inl u.2.2.2.2.2.2.2.2.2.2.2.2.2.2.1)), (a 8, .inl (cI, 64, .inl u.2.2.2.2.2.2.2.2.2.2.2.2.2.2.2.1))]
