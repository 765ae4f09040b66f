/-! constructors -/
/-- what constructors rest on: words of nest mates, the row of States -/
def zFc : zFact := fun _ U _ => va_Nw (.methodLinkNest RX5 11 yX7_init "AsideStore") U ∧ va_Nw (.methodLinkNest RX5 20 yX8_init "AsideStore") U ∧ va_Nw (.methodLinkNest RX5 27 yX4_init "AsideStore") U ∧ va_Nw (.methodLinkNest RX5 34 yX9_init "AsideStore") U ∧ va_Nw (.methodLinkNest RX5 41 yX1_init "AsideStore") U ∧ va_Nw (.methodLinkNest RX5 48 yX2_init "AsideStore") U ∧ va_Nw (.methodLinkNest RX10 31 yX6_init "AsideStore") U ∧ va_AO "AsideStore$State" U
theorem fro_AO (C : String) : zFro (fun _ U _ => va_AO C U) := ⟨fun hW z => va_AO.moved hW.alike z, fun e z => va_AO.moved (by rw [e]; exact Vm.Alike.refl _) z, fun z _ => z, fun z _ => z⟩
theorem fro_Fc : zFro zFc := (fro_Nm _ _ _ _).and ((fro_Nm _ _ _ _).and ((fro_Nm _ _ _ _).and ((fro_Nm _ _ _ _).and ((fro_Nm _ _ _ _).and ((fro_Nm _ _ _ _).and ((fro_Nm _ _ _ _).and (fro_AO _)))))))
section ZC1
variable {p : Program} {l : Launch} {e : Env} {R : Room} {s : State} {m : MethodId} {args : Array Value} {below : List Frame} {meth : Method} {c : Code} {H : Heap} {locs : List Loc} {cells slots : Nat} {Q : State → Prop} {dC : Nat → ClassId} {dI : Nat → Nat → Nat} {cI cJ cS : ClassId}
  {cc : ByteArray} {nL : Nat} {own C host : String} {pc : Nat} {ls : Array Slot} {A : Nat → Prop} {y : MethodName} {bytes : ByteArray} {maxL idx n : Nat} {ret ret0 : Option FieldType} {rm : Room} {b : Nat} {As rest st : List Value} {w wc wr w' : va_W} {F : zFact}
theorem z_enterC {av : List Value} {sz : Nat} {Qc : (Nat → Prop) → Array Value → State → Outcome → State → Prop} {mc ms : Nat}
    (hy : plainName y.cls = true) (hy1 : y.name = "<init>") (hn : (lg_sl av).length ≤ maxL)
    (body : ∀ (p : Program) (e : Env) (s : State) (m : MethodId) (below : List Frame) (meth : Method) (c : Code) (ls : Array Slot) (A : Nat → Prop), zX p s m av.toArray meth c cc maxL ret y.cls dC dI cI cJ cS → meth.name = "<init>" → va_P (dC, dI) vwCl w s.heap → va_D A w → va_S A s.heap s.heap [] → (∀ q : Nat, s.heap.size ≤ q → A q) → F A s s.heap → lv_has ls maxL (lv_args 0 av) →
      W p l e rm s m av.toArray below meth c s.heap [] 0 0 (MQ below (Qc A) av.toArray s mc ms A) (F0 m 0 ls [])) : Met l y (Cond.code y cc maxL ret :: zT) rm (zPmF F dC dI cI cJ cS w av sz) (Qc (va_A w sz)) mc ms (va_A w sz) := by
  refine Met.ofW (cc := cc) (maxL := maxL) (ret := ret) hy rfl ?_
  intro p e s m args below meth c s₁ B hml hv
  obtain ⟨rfl, hsz, hP, hK, hD0, hF⟩ := hv
  subst hsz
  have hD := hD0.self (sz := s.heap.size)
  have hl := lv_entry av (n := maxL) hn
  rw [lg_entry_eq]
  generalize (lg_sl av ++ List.replicate (maxL - (lg_sl av).length) Slot.unset).toArray = ls at hl ⊢
  exact body p e s m below meth c ls _ ⟨⟨B.exec, B.bytes, hml, findClass_of_methodNamed B.named, fun w h => atoms_spec (ws := Cond.code y cc maxL ret :: zT) B.pre w (List.mem_cons_of_mem _ h)⟩, B.returns, B.notSynchronized, hK⟩ ((name_of_methodNamed B.named B.method).1.trans hy1) hP hD va_S.rf (fun q h => Or.inr h) hF hl
/-- a final field written in a constructor -/
theorem z_putF {ref Cn : String} {T : u_T} {N ci index ad : Nat} (X : zX p s m args meth c cc nL ret0 own dC dI cI cJ cS) (hin : ∀ w ∈ u_ws Cn T N, w ∈ zT) (ty0 : Nat → FieldType) (hty : ∀ k, k < N → parseFieldDescriptor (T k).2.2.1 = some (ty0 k)) (hnm : ∀ a, a < N → ∀ b, b < N → a ≠ b → (T a).2.1 ≠ (T b).2.1)
    (hP : va_P (dC, dI) vwCl w H) (hD : va_D A w) (hS : va_S A s.heap H locs) (q0 : Nat) {fs : List Value} (he : w[q0]? = some (ad, .inr (ci, fs))) (hc : vwCl[ci]? = some (Cn, T, N)) (k : Nat) (hk : k < N) (hlink : (Cond.fieldLink own index ref (T k).2.1 (T k).2.2.1).before args s = true) (hsame : ∀ x, s.fieldFound? (T k).1 (T k).2.1 (T k).2.2.1 = some x → s.fieldFound? ref (T k).2.1 (T k).2.2.1 = some x) (hfin : (T k).2.2.2 = true) (hin2 : meth.name = "<init>") (hdecl : (T k).1 = own) {ty : FieldType} {v : Value} (hd : parseFieldDescriptor (T k).2.2.1 = some ty) (hn : narrow ty v = v) (hfit : fits ty v = true) (hl : k < fs.length)
    (hw : w.set q0 (ad, .inr (ci, fs.set k v)) = w') (hdg : decode cc pc = .ok (.putfield index, 3))
    (kk : ∀ (H1 : Heap) (locs1 : List Loc), va_P (dC, dI) vwCl w' H1 → va_D A w' → va_S A s.heap H1 locs1 → W p l e R s m args below meth c H1 locs1 cells slots Q (F0 m (pc + 3) ls rest)) : W p l e R s m args below meth c H locs cells slots Q (F0 m pc ls (v :: .ref ad :: rest)) := by
  subst hw
  exact va_putF X.1.1 X.1.2.1 X.1.2.2.2.2 hin ty0 hty hnm X.1.2.2.2.1 X.2.2.2 hP hD hS q0 he hc k hk hlink hsame hfin hin2 hdecl hd hn hfit hl hdg kk
theorem z_newI {n : Int32} {N : Nat} (X : zX p s m args meth c cc nL ret0 own dC dI cI cJ cS) (hP : va_P (dC, dI) vwCl w H) (hD : va_D A w) (hS : va_S A s.heap H locs) (hA : ∀ q : Nat, s.heap.size ≤ q → A q) (hn : ¬ n < 0) (hN : n.toNatClampNeg = N) (hbytes : N * componentBytes .int ≤ 536870912) (hcs : cells + 1 ≤ R.cells ∧ slots + N ≤ R.slots) (hdg : decode cc pc = .ok (.newarray .int, 2))
    (kk : ∀ (q : Nat) (H1 : Heap), va_P (dC, dI) vwCl (w ++ [(q, .inl (cI, N, .inl (fun _ => 0)))]) H1 → va_D A (w ++ [(q, .inl (cI, N, .inl (fun _ => 0)))]) → va_S A s.heap H1 locs → W p l e R s m args below meth c H1 locs (cells + 1) (slots + N) Q (F0 m (pc + 2) ls (.ref q :: rest))) : W p l e R s m args below meth c H locs cells slots Q (F0 m pc ls (.int n :: rest)) := by
  refine va_newa (atype := .int) (a0 := (N, .inl (fun _ => 0))) X.1.1 X.1.2.1 (X.1.2.2.2.2 _ q_ac_int) (ty := .int) rfl X.2.2.2 hP hD hS hA (fun _ => rfl) hn hN hbytes hcs.1 hcs.2 hdg (fun q cA H1 hK1 hP1 hD1 hS1 => ?_)
  have e1 : s.vm.findClass ("[" ++ (FieldType.int).toString) = some cA := (hK1.2 3 (cA, .int) rfl).2
  have e2 : s.vm.findClass ("[" ++ (FieldType.int).toString) = some cI := (X.2.2.2.2 0 (cI, .int) rfl).2
  have e3 : cI = cA := Option.some.inj (e2.symm.trans e1)
  subst e3
  exact kk q H1 hP1 hD1 hS1
theorem z_newJ {n : Int32} {N : Nat} (X : zX p s m args meth c cc nL ret0 own dC dI cI cJ cS) (hP : va_P (dC, dI) vwCl w H) (hD : va_D A w) (hS : va_S A s.heap H locs) (hA : ∀ q : Nat, s.heap.size ≤ q → A q) (hn : ¬ n < 0) (hN : n.toNatClampNeg = N) (hbytes : N * componentBytes .long ≤ 536870912) (hcs : cells + 1 ≤ R.cells ∧ slots + N ≤ R.slots) (hdg : decode cc pc = .ok (.newarray .long, 2))
    (kk : ∀ (q : Nat) (H1 : Heap), va_P (dC, dI) vwCl (w ++ [(q, .inl (cJ, N, .inr (.inl (fun _ => 0))))]) H1 → va_D A (w ++ [(q, .inl (cJ, N, .inr (.inl (fun _ => 0))))]) → va_S A s.heap H1 locs → W p l e R s m args below meth c H1 locs (cells + 1) (slots + N) Q (F0 m (pc + 2) ls (.ref q :: rest))) : W p l e R s m args below meth c H locs cells slots Q (F0 m pc ls (.int n :: rest)) := by
  refine va_newa (atype := .long) (a0 := (N, .inr (.inl (fun _ => 0)))) X.1.1 X.1.2.1 (X.1.2.2.2.2 _ q_ac_long) (ty := .long) rfl X.2.2.2 hP hD hS hA (fun _ => rfl) hn hN hbytes hcs.1 hcs.2 hdg (fun q cA H1 hK1 hP1 hD1 hS1 => ?_)
  have e1 : s.vm.findClass ("[" ++ (FieldType.long).toString) = some cA := (hK1.2 3 (cA, .long) rfl).2
  have e2 : s.vm.findClass ("[" ++ (FieldType.long).toString) = some cJ := (X.2.2.2.2 1 (cJ, .long) rfl).2
  have e3 : cJ = cA := Option.some.inj (e2.symm.trans e1)
  subst e3
  exact kk q H1 hP1 hD1 hS1
theorem z_newS {n : Int32} {N index : Nat} (X : zX p s m args meth c cc nL ret0 own dC dI cI cJ cS) (hAO : va_AO "AsideStore$State" s) (hcl : Cond.classLink own index "AsideStore$State" ∈ zT) (hP : va_P (dC, dI) vwCl w H) (hD : va_D A w) (hS : va_S A s.heap H locs) (hA : ∀ q : Nat, s.heap.size ≤ q → A q) (hn : ¬ n < 0) (hN : n.toNatClampNeg = N) (hbytes : N * 4 ≤ 536870912) (hcs : cells + 1 ≤ R.cells ∧ slots + N ≤ R.slots) (hdg : decode cc pc = .ok (.anewarray index, 3))
    (kk : ∀ (q : Nat) (H1 : Heap), va_P (dC, dI) vwCl (w ++ [(q, .inl (cS, N, .inr (.inr (.inr (.inr (fun _ => none))))))]) H1 → va_D A (w ++ [(q, .inl (cS, N, .inr (.inr (.inr (.inr (fun _ => none))))))]) → va_S A s.heap H1 locs → W p l e R s m args below meth c H1 locs (cells + 1) (slots + N) Q (F0 m (pc + 3) ls (.ref q :: rest))) : W p l e R s m args below meth c H locs cells slots Q (F0 m pc ls (.int n :: rest)) := by
  refine va_newq X.1.1 X.1.2.1 X.1.2.2.2.1 (X.1.2.2.2.2 _ hcl) hAO X.2.2.2 hP hD hS hA hn hN hbytes hcs.1 hcs.2 hdg (fun q cA H1 hK1 hP1 hD1 hS1 => ?_)
  obtain ⟨k1, m1, -, -, -, e1⟩ := (hK1.2 3 (cA, .object "AsideStore$State") rfl).2
  obtain ⟨k2, m2, -, -, -, e2⟩ := (X.2.2.2.2 2 (cS, .object "AsideStore$State") rfl).2
  have e3 : cS = cA := Option.some.inj (e2.symm.trans e1)
  subst e3
  exact kk q H1 hP1 hD1 hS1
/-- 'new' of a class of ours -/
theorem z_newO {T : u_T} {N ci index : Nat} {fs : List Value} (X : zX p s m args meth c cc nL ret0 own dC dI cI cJ cS) (hin : ∀ w ∈ u_ws C T N, w ∈ zT) (ty : Nat → FieldType) (hty : ∀ k, k < N → parseFieldDescriptor (T k).2.2.1 = some (ty k)) (hcl : Cond.classLink own index C ∈ zT) (hinst : Cond.instantiable C N ∈ zT) (hini : Cond.initialized C ∈ zT) (hP : va_P (dC, dI) vwCl w H) (hD : va_D A w) (hS : va_S A s.heap H locs) (hA : ∀ q : Nat, s.heap.size ≤ q → A q) (hc : vwCl[ci]? = some (C, T, N)) (hfs : ∀ j, j < N → defaultValue (ty j) = vp_V fs j) (hcs : cells + 1 ≤ R.cells ∧ slots + N ≤ R.slots) (hdg : decode cc pc = .ok (.new index, 3))
    (kk : ∀ (q : Nat) (H1 : Heap), va_P (dC, dI) vwCl (w ++ [(q, .inr (ci, fs))]) H1 → va_D A (w ++ [(q, .inr (ci, fs))]) → va_S A s.heap H1 locs → W p l e R s m args below meth c H1 locs (cells + 1) (slots + N) Q (F0 m (pc + 3) ls (.ref q :: rest))) : W p l e R s m args below meth c H locs cells slots Q (F0 m pc ls rest) :=
  va_new X.1.1 X.1.2.1 X.1.2.2.2.2 hin ty hty X.1.2.2.2.1 (X.1.2.2.2.2 _ hcl) (X.1.2.2.2.2 _ hinst) (X.1.2.2.2.2 _ hini) X.2.2.2 hP hD hS hA hc hfs hcs.1 hcs.2 hdg kk
/-- a constructor called on what was just made -/
theorem z_cI {S : Type} {Wf : S → va_W} {post : S → Prop} {x : va_E} {mc ms : Nat} (X : zX p s m args meth c cc nL ret0 own dC dI cI cJ cS) (hFr : zFro F) (hF : F A s s.heap) (hM : Met l y (Cond.code y bytes maxL none :: zT) rm (zPmF F dC dI cI cJ cS [(b, x)] [.ref b] H.size) (va_Qv post (zB dC dI cI cJ cS (va_A [(b, x)] H.size) Wf) (va_A [(b, x)] H.size)) mc ms (va_A [(b, x)] H.size)) (hG : Cond.instanceMethod y ∈ zT ∧ Cond.initialized y.cls ∈ zT ∧ Cond.code y bytes maxL none ∈ zT ∧ zN y 0) (hy1 : y.name = "<init>") (hml : Cond.methodLink own idx y ∈ zT) (hrm : rm.cells = mc ∧ rm.slots = ms) (hR : rm.frames + 1 ≤ R.frames ∧ 8 + (maxL + 11) + rm.locals ≤ R.locals)
    (hP : va_P (dC, dI) vwCl (w ++ [(b, x)]) H) (hD : va_D A (w ++ [(b, x)])) (hS : va_S A s.heap H locs) (hA : ∀ q : Nat, s.heap.size ≤ q → A q) (hl : ls.size = nL) (hroom : (rest.map fun v => v.category).sum ≤ 8) (hcs : cells + mc ≤ R.cells ∧ slots + ms ≤ R.slots) (hdg : decode cc pc = .ok (.invokespecial idx, 3))
    (kk : ∀ (u : S) (H1 : Heap) (locs1 : List Loc), post u → va_P (dC, dI) vwCl (w ++ Wf u) H1 → va_D A (w ++ Wf u) → va_S A s.heap H1 locs1 → W p l e R s m args below meth c H1 locs1 (cells + mc) (slots + ms) Q (F0 m (pc + 3) ls rest)) : W p l e R s m args below meth c H locs cells slots Q (F0 m pc ls (.ref b :: rest)) := by
  have hFc := z_freeP hD hS hA (List.Perm.refl (w ++ [(b, x)]))
  refine va_callv (va_runI (As := []) (g := F0 m pc ls (.ref b :: rest)) X.1 hM (cwI 0 X.1.2.2.2.2 (zT_in (fun w hw => (List.mem_cons.mp hw).elim (fun e => by rw [e]; exact hG.2.2.1) id)) rfl hrm.1 hrm.2 (X.1.2.2.2.2 _ hG.2.1) (X.1.2.2.2.2 _ hml) (X.1.2.2.2.2 _ hG.1) hy1 hG.2.2.2 hR) ⟨zPmF_blind hFr, fun U hU hW => ⟨rfl, by rw [hU], by rw [hU]; exact hP.r, va_K.moved hW.alike X.2.2.2, hD.r.weaken (fun _ _ _ _ => trivial), by rw [hU]; exact hFr.at hF hS hFc hW⟩⟩ rfl rfl hl rfl (lv_room (rest := .ref b :: rest) hroom) hdg hcs) hS (fun q _ h => hFc q h) hFc (fun u t H1 locs1 ht hvm hq hB hz1 hk1 hS1 => ?_)
  obtain ⟨hP2, hD2⟩ := z_backP (Wn := fun u => w ++ Wf u) hP hD (List.Perm.refl _) (fun _ => List.Perm.refl _) hk1 hFc ht hB
  exact kk u H1 locs1 hq hP2 hD2 hS1
theorem z_cIN {S : Type} {Wf : S → va_W} {post : S → Prop} {x : va_E} {mc ms : Nat} (X : zX p s m args meth c cc nL ret0 own dC dI cI cJ cS) (hFr : zFro F) (hF : F A s s.heap) (hM : Met l y (Cond.code y bytes maxL none :: zT) rm (zPmF F dC dI cI cJ cS [(b, x)] [.ref b] H.size) (va_Qv post (zB dC dI cI cJ cS (va_A [(b, x)] H.size) Wf) (va_A [(b, x)] H.size)) mc ms (va_A [(b, x)] H.size)) (hG : Cond.instanceMethod y ∈ zT ∧ Cond.initialized y.cls ∈ zT ∧ Cond.code y bytes maxL none ∈ zT ∧ zN y 0) (hy1 : y.name = "<init>") (hml : va_Nw (.methodLinkNest own idx y host) s) (hrm : rm.cells = mc ∧ rm.slots = ms) (hR : rm.frames + 1 ≤ R.frames ∧ 8 + (maxL + 11) + rm.locals ≤ R.locals)
    (hP : va_P (dC, dI) vwCl (w ++ [(b, x)]) H) (hD : va_D A (w ++ [(b, x)])) (hS : va_S A s.heap H locs) (hA : ∀ q : Nat, s.heap.size ≤ q → A q) (hl : ls.size = nL) (hroom : (rest.map fun v => v.category).sum ≤ 8) (hcs : cells + mc ≤ R.cells ∧ slots + ms ≤ R.slots) (hdg : decode cc pc = .ok (.invokespecial idx, 3))
    (kk : ∀ (u : S) (H1 : Heap) (locs1 : List Loc), post u → va_P (dC, dI) vwCl (w ++ Wf u) H1 → va_D A (w ++ Wf u) → va_S A s.heap H1 locs1 → W p l e R s m args below meth c H1 locs1 (cells + mc) (slots + ms) Q (F0 m (pc + 3) ls rest)) : W p l e R s m args below meth c H locs cells slots Q (F0 m pc ls (.ref b :: rest)) := by
  have hFc := z_freeP hD hS hA (List.Perm.refl (w ++ [(b, x)]))
  refine va_callv (va_runIN (As := []) (g := F0 m pc ls (.ref b :: rest)) X.1 hM ⟨va_cnB 0 X.1.2.2.2.2 (zT_in (fun w hw => (List.mem_cons.mp hw).elim (fun e => by rw [e]; exact hG.2.2.1) id)) rfl hrm.1 hrm.2 hml (X.1.2.2.2.2 _ hG.2.1) hG.2.2.2 hR, hy1, X.1.2.2.2.2 _ hG.1⟩ ⟨zPmF_blind hFr, fun U hU hW => ⟨rfl, by rw [hU], by rw [hU]; exact hP.r, va_K.moved hW.alike X.2.2.2, hD.r.weaken (fun _ _ _ _ => trivial), by rw [hU]; exact hFr.at hF hS hFc hW⟩⟩ rfl rfl hl rfl (lv_room (rest := .ref b :: rest) hroom) hdg hcs) hS (fun q _ h => hFc q h) hFc (fun u t H1 locs1 ht hvm hq hB hz1 hk1 hS1 => ?_)
  obtain ⟨hP2, hD2⟩ := z_backP (Wn := fun u => w ++ Wf u) hP hD (List.Perm.refl _) (fun _ => List.Perm.refl _) hk1 hFc ht hB
  exact kk u H1 locs1 hq hP2 hD2 hS1
theorem z_obj {a : Nat} (X : zX p s m args meth c cc nL ret0 own dC dI cI cJ cS) (hml : Cond.methodLink own idx objectInit ∈ zT) (hl : ls.size = nL) (hR : 1 ≤ R.frames ∧ (rest.map fun v => v.category).sum + 12 ≤ R.locals) (hdg : decode cc pc = .ok (.invokespecial idx, 3))
    (kk : W p l e R s m args below meth c H locs cells slots Q (F0 m (pc + 3) ls rest)) : W p l e R s m args below meth c H locs cells slots Q (F0 m pc ls (.ref a :: rest)) :=
  W.objInit (g := F0 m pc ls (.ref a :: rest)) X.1.1 X.1.2.1 X.1.2.2.2.1 (X.1.2.2.2.2 _ hml) (X.1.2.2.2.2 _ q_im_obj) (X.1.2.2.2.2 _ q_cd_obj) rfl (hl.trans X.1.2.2.1.symm) rfl hdg hR.1 (by show 2 * 0 + _ + 12 ≤ _; omega) kk
end ZC1
