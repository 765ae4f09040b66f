/-! frozen facts: what a method may read and nothing changes -/
abbrev zFact : Type := (Nat → Prop) → State → Heap → Prop
def zFro (F : zFact) : Prop := (∀ {A : Nat → Prop} {s U : State} {H : Heap}, s.WarmedH U.vm → F A s H → F A U H) ∧ (∀ {A : Nat → Prop} {u U : State} {H : Heap}, U.vm = u.vm → F A u H → F A U H) ∧ (∀ {A : Nat → Prop} {U : State} {H H1 : Heap}, F A U H → (∀ a : Nat, a < H.size → ¬ A a → H1[a]? = H[a]?) → F A U H1) ∧ (∀ {A B : Nat → Prop} {U : State} {H : Heap}, F A U H → (∀ q, B q → A q) → F B U H)
theorem zFro.warm {F : zFact} (h : zFro F) {A : Nat → Prop} {s U : State} {H : Heap} (hW : s.WarmedH U.vm) (z : F A s H) : F A U H := h.1 hW z
theorem zFro.same {F : zFact} (h : zFro F) {A : Nat → Prop} {u U : State} {H : Heap} (e : U.vm = u.vm) (z : F A u H) : F A U H := h.2.1 e z
theorem zFro.kept {F : zFact} (h : zFro F) {A : Nat → Prop} {U : State} {H H1 : Heap} (z : F A U H) (k : ∀ a : Nat, a < H.size → ¬ A a → H1[a]? = H[a]?) : F A U H1 := h.2.2.1 z k
theorem zFro.narrow {F : zFact} (h : zFro F) {A B : Nat → Prop} {U : State} {H : Heap} (z : F A U H) (k : ∀ q, B q → A q) : F B U H := h.2.2.2 z k
theorem fro_al {F : zFact} (h1 : ∀ {A : Nat → Prop} {u U : State} {H : Heap}, u.vm.Alike U.vm → F A u H → F A U H) (h2 : ∀ {A : Nat → Prop} {U : State} {H H1 : Heap}, F A U H → (∀ a : Nat, a < H.size → ¬ A a → H1[a]? = H[a]?) → F A U H1) (h3 : ∀ {A B : Nat → Prop} {U : State} {H : Heap}, F A U H → (∀ q, B q → A q) → F B U H) : zFro F :=
  ⟨fun hW h => h1 hW.alike h, fun e h => h1 (by rw [e]; exact Vm.Alike.refl _) h, h2, h3⟩
theorem fro_Z (C n d : String) (v : Value) : zFro (va_Z C n d v) := fro_al va_Z.moved va_Z.kept va_Z.narrow
theorem fro_Zq (C n d : String) : zFro (va_Zq C n d) := fro_al va_Zq.moved va_Zq.kept va_Zq.narrow
theorem fro_T (ty : FieldType) (t N : Nat) (f : Nat → Value) : zFro (va_T ty t N f) := fro_al va_T.moved va_T.kept va_T.narrow
theorem fro_O (E : String) (t : Nat) : zFro (va_O E t) := fro_al va_O.moved va_O.kept va_O.narrow
theorem fro_OF (o n d : String) (v : Value) (t : Nat) : zFro (va_OF o n d v t) := fro_al va_OF.moved va_OF.kept va_OF.narrow
theorem fro_R (own : String) (k : Nat) (tx : String) (a : Nat) : zFro (fun _ U _ => vk_R own k tx a U) := ⟨fun hW h => vk_R.warm hW h, fun e h => vk_R.same e h, fun h _ => h, fun h _ => h⟩
theorem zFro.and {F G : zFact} (h1 : zFro F) (h2 : zFro G) : zFro (fun A U H => F A U H ∧ G A U H) :=
  ⟨fun hW h => ⟨h1.warm hW h.1, h2.warm hW h.2⟩, fun e h => ⟨h1.same e h.1, h2.same e h.2⟩, fun h q => ⟨h1.kept h.1 q, h2.kept h.2 q⟩, fun h q => ⟨h1.narrow h.1 q, h2.narrow h.2 q⟩⟩
theorem zFro.ex {F : Nat → zFact} (h : ∀ q, zFro (F q)) : zFro (fun A U H => ∃ q, F q A U H) :=
  ⟨fun hW w => w.elim (fun q z => ⟨q, (h q).warm hW z⟩), fun e w => w.elim (fun q z => ⟨q, (h q).same e z⟩), fun w k => w.elim (fun q z => ⟨q, (h q).kept z k⟩), fun w k => w.elim (fun q z => ⟨q, (h q).narrow z k⟩)⟩
theorem zFro.all {F : Nat → zFact} (h : ∀ q, zFro (F q)) : zFro (fun A U H => ∀ q, F q A U H) :=
  ⟨fun hW z q => (h q).warm hW (z q), fun e z q => (h q).same e (z q), fun z k q => (h q).kept (z q) k, fun z k q => (h q).narrow (z q) k⟩
theorem zFro.at {F : zFact} (h : zFro F) {A B : Nat → Prop} {s U : State} {H : Heap} {locs : List Loc} (hF : F A s s.heap) (hS : va_S A s.heap H locs) (hB : ∀ q, B q → A q) (hW : s.WarmedH U.vm) : F B U H := h.warm hW (h.narrow (h.kept hF hS.2.1) hB)
/-- what the JDK's strings rest on -/
def zJk : zFact := fun A U H => va_Z "java/lang/String" "COMPACT_STRINGS" "Z" (.int 1) A U H ∧ va_Zq "jdk/internal/util/Preconditions" "SIOOBE_FORMATTER" "Ljava/util/function/BiFunction;" A U H
theorem fro_Jk : zFro zJk := (fro_Z _ _ _ _).and (fro_Zq _ _ _)
/-- a string of Latin letters -/
def zStr (bs : List Int32) (q : Nat) : zFact := fun A U H => va_O "java/lang/String" q A U H ∧ va_OF "java/lang/String" "coder" "B" (.int 0) q A U H ∧ ∃ v : Nat, va_OF "java/lang/String" "value" "[B" (.ref v) q A U H ∧ va_T .byte v bs.length (fun j => .int (bs.getD j 0)) A U H
theorem fro_Str (bs : List Int32) (q : Nat) : zFro (zStr bs q) := (fro_O _ _).and ((fro_OF _ _ _ _ _).and (zFro.ex (fun v => (fro_OF _ _ _ (.ref v) _).and (fro_T _ _ _ _))))
def zFs (bs : List Int32) (q : Nat) : zFact := fun A U H => zJk A U H ∧ zStr bs q A U H
theorem fro_Fs (bs : List Int32) (q : Nat) : zFro (zFs bs q) := fro_Jk.and (fro_Str bs q)
def zTxt (bs : List Int32) : Prop := bs.length < 400 ∧ ∀ k, k < bs.length → ((bs.getD k 0 &&& 255).toUInt32 % 65536).toInt32 = bs.getD k 0 ∧ narrow .char (.int (bs.getD k 0)) = .int (bs.getD k 0)
/-- a reader that rests on frozen facts alone -/
abbrev zPj (F : zFact) (av : List Value) : Array Value → State → Prop := va_Pc av (fun U => F (fun _ => False) U U.heap)
/-- it gives one value and changes nothing -/
def zRv (o : Option Value) : Array Value → State → Outcome → State → Prop := fun _ st oc t => oc = .returned o ∧ t.heap = st.heap
theorem zPj_blind {F : zFact} (hF : zFro F) {av : List Value} : FrameBlind (zPj F av) := fun a U g mk q => by
  obtain ⟨q0, q1⟩ := q
  exact ⟨q0, hF.same (u := U) (U := U.calling g mk a) rfl q1⟩
section ZJ
variable {p : Program} {l : Launch} {e : Env} {R : Room} {s : State} {m : MethodId} {args : Array Value} {below : List Frame} {meth : Method} {c : Code} {H : Heap} {locs : List Loc} {cells slots : Nat} {Q : State → Prop}
  {cc : ByteArray} {nL : Nat} {own C : String} {pc : Nat} {ls : Array Slot} {A : Nat → Prop} {y : MethodName} {bytes : ByteArray} {maxL idx n : Nat} {ret : Option FieldType} {rm : Room} {b : Nat} {As rest st : List Value} {F : zFact} {o : Option Value}
theorem z_enterJ {av : List Value} {Qc : Array Value → State → Outcome → State → Prop} {mc ms : Nat} {free : Addr → Prop}
    (hy : plainName y.cls = true) (hn : (lg_sl av).length ≤ maxL)
    (body : ∀ (p : Program) (e : Env) (s : State) (m : MethodId) (below : List Frame) (meth : Method) (c : Code) (ls : Array Slot), CallFix p m c cc maxL s av.toArray zT y.cls → meth.sig.returnType = ret → meth.locks = false → F (fun _ => False) s s.heap → lv_has ls maxL (lv_args 0 av) →
      W p l e rm s m av.toArray below meth c s.heap [] 0 0 (MQ below Qc av.toArray s mc ms free) (F0 m 0 ls [])) : Met l y (Cond.code y cc maxL ret :: zT) rm (zPj F av) Qc mc ms free := by
  refine Met.ofW (cc := cc) (maxL := maxL) (ret := ret) hy rfl ?_
  intro p e s m args below meth c s₁ B hml hv
  obtain ⟨rfl, hF⟩ := hv
  have hl := lv_entry av (n := maxL) hn
  rw [lg_entry_eq]
  generalize (lg_sl av ++ List.replicate (maxL - (lg_sl av).length) Slot.unset).toArray = ls at hl ⊢
  exact body p e s m below meth c ls ⟨B.exec, B.bytes, hml, findClass_of_methodNamed B.named, fun w h => atoms_spec (ws := Cond.code y cc maxL ret :: zT) B.pre w (List.mem_cons_of_mem _ h)⟩ B.returns B.notSynchronized hF hl
theorem z_callJ {a : Array Value} {st0 : List Value} (hr : CallRun p l e R s m args below meth c H locs cells slots 0 0 (F0 m pc ls st0) rest (zRv o a) (fun _ => False))
    (kk : W p l e R s m args below meth c H locs cells slots Q (F0 m (pc + 3) ls (o.toList ++ rest))) : W p l e R s m args below meth c H locs cells slots Q (F0 m pc ls st0) := by
  intro T hT X
  obtain ⟨v, st₀, t, T', L, h0, X', hL, e1, ⟨hv, hh⟩, st⟩ := hr T hT X
  cases hv
  obtain ⟨t2, a1, b1⟩ := kk T' (by rw [e1, hh, h0]) (Stand.forget X' (fun q h => (hL q h).elim))
  exact ⟨t2, st t2 a1, b1⟩
/-- a string's own method called -/
theorem z_jV (X : CallFix p m c cc nL s args zT own) (hFr : zFro F) (hF : F A s s.heap) (hO : va_O C b A s s.heap) (hS : va_S A s.heap H locs) (hM : Met l y (Cond.code y bytes maxL ret :: zT) rm (zPj F (.ref b :: As)) (zRv o) 0 0 (fun _ => False)) (hG : zCalV C y bytes maxL ret n) (hml : Cond.methodLink own idx y ∈ zT) (hrm : rm.cells = 0 ∧ rm.slots = 0) (hR : rm.frames + 1 ≤ R.frames ∧ 8 + (maxL + 11) + rm.locals ≤ R.locals)
    (hl : ls.size = nL) (hn : As.length = n) (hst : st = As.reverse ++ .ref b :: rest) (hroom : (rest.map fun v => v.category).sum ≤ 8) (hcs : cells ≤ R.cells ∧ slots ≤ R.slots) (hdg : decode cc pc = .ok (.invokevirtual idx, 3))
    (kk : W p l e R s m args below meth c H locs cells slots Q (F0 m (pc + 3) ls (o.toList ++ rest))) : W p l e R s m args below meth c H locs cells slots Q (F0 m pc ls st) :=
  z_callJ (W.runV (g := F0 m pc ls st) X hM (cwV n X.2.2.2.2 (hG.good hml) rfl hrm.1 hrm.2 ⟨hG.2.2.2.2.2, hG.2.2.2.2.1⟩ hR) ⟨zPj_blind hFr, va_Orecv hO hS, fun U hU hW => ⟨rfl, by show F (fun _ => False) U U.heap; rw [hU]; exact hFr.at hF hS (fun _ h => h.elim) hW⟩⟩ rfl hn hl hst (lv_room (rest := st) hroom) hdg hcs) kk
theorem z_jS (X : CallFix p m c cc nL s args zT own) (hFr : zFro F) (hF : F A s s.heap) (hS : va_S A s.heap H locs) (hM : Met l y (Cond.code y bytes maxL ret :: zT) rm (zPj F As) (zRv o) 0 0 (fun _ => False)) (hG : zCalS y bytes maxL ret n) (hml : Cond.methodLink own idx y ∈ zT) (hrm : rm.cells = 0 ∧ rm.slots = 0) (hR : rm.frames + 1 ≤ R.frames ∧ 8 + (maxL + 11) + rm.locals ≤ R.locals)
    (hl : ls.size = nL) (hn : As.length = n) (hst : st = As.reverse ++ rest) (hroom : (rest.map fun v => v.category).sum ≤ 8) (hcs : cells ≤ R.cells ∧ slots ≤ R.slots) (hdg : decode cc pc = .ok (.invokestatic idx, 3))
    (kk : W p l e R s m args below meth c H locs cells slots Q (F0 m (pc + 3) ls (o.toList ++ rest))) : W p l e R s m args below meth c H locs cells slots Q (F0 m pc ls st) :=
  z_callJ (W.runS (g := F0 m pc ls st) X hM (va_cwS n X.2.2.2.2 (hG.good hml) rfl hrm.1 hrm.2 hG.2.2.2 hR) ⟨zPj_blind hFr, fun U hU hW => ⟨rfl, by show F (fun _ => False) U U.heap; rw [hU]; exact hFr.at hF hS (fun _ h => h.elim) hW⟩⟩ rfl hn hl hst (lv_room (rest := st) hroom) hdg hcs) kk
end ZJ

theorem q_in_J0 : (.initialized RJ0 : Cond) ∈ zT := zT_mem (List.mem_of_getElem? (i := 114) (by decide +kernel)) (by decide +kernel)
theorem q_in_J1 : (.initialized RJ1 : Cond) ∈ zT := zT_mem (List.mem_of_getElem? (i := 115) (by decide +kernel)) (by decide +kernel)
theorem q_in_J3 : (.initialized RJ3 : Cond) ∈ zT := zT_mem (List.mem_of_getElem? (i := 116) (by decide +kernel)) (by decide +kernel)
theorem q_im_J0_length_8abf5 : (.instanceMethod yJ0_length_8abf5 : Cond) ∈ zT := zT_mem (List.mem_of_getElem? (i := 865) (by decide +kernel)) (by decide +kernel)
theorem q_se_J0_length_8abf5 : (.selects RJ0 yJ0_length_8abf5 yJ0_length_8abf5 : Cond) ∈ zT := zT_mem (List.mem_of_getElem? (i := 866) (by decide +kernel)) (by decide +kernel)
theorem q_cd_J0_length_8abf5 : (.code yJ0_length_8abf5 cJ0_length_8abf5 1 (some .int) : Cond) ∈ zT := zT_mem (List.mem_of_getElem? (i := 867) (by decide +kernel)) (by decide +kernel)
theorem zc_J0_length_8abf5 : zCalV RJ0 yJ0_length_8abf5 cJ0_length_8abf5 1 (some .int) 0 := ⟨q_im_J0_length_8abf5, q_se_J0_length_8abf5, q_in_J0, q_cd_J0_length_8abf5, ⟨by decide, by decide, by decide +kernel⟩, rfl⟩
theorem q_im_J0_coder_7d493 : (.instanceMethod yJ0_coder_7d493 : Cond) ∈ zT := zT_mem (List.mem_of_getElem? (i := 869) (by decide +kernel)) (by decide +kernel)
theorem q_se_J0_coder_7d493 : (.selects RJ0 yJ0_coder_7d493 yJ0_coder_7d493 : Cond) ∈ zT := zT_mem (List.mem_of_getElem? (i := 870) (by decide +kernel)) (by decide +kernel)
theorem q_cd_J0_coder_7d493 : (.code yJ0_coder_7d493 cJ0_coder_7d493 1 (some .byte) : Cond) ∈ zT := zT_mem (List.mem_of_getElem? (i := 871) (by decide +kernel)) (by decide +kernel)
theorem zc_J0_coder_7d493 : zCalV RJ0 yJ0_coder_7d493 cJ0_coder_7d493 1 (some .byte) 0 := ⟨q_im_J0_coder_7d493, q_se_J0_coder_7d493, q_in_J0, q_cd_J0_coder_7d493, ⟨by decide, by decide, by decide +kernel⟩, rfl⟩
theorem q_im_J0_isLatin1_aae02 : (.instanceMethod yJ0_isLatin1_aae02 : Cond) ∈ zT := zT_mem (List.mem_of_getElem? (i := 879) (by decide +kernel)) (by decide +kernel)
theorem q_se_J0_isLatin1_aae02 : (.selects RJ0 yJ0_isLatin1_aae02 yJ0_isLatin1_aae02 : Cond) ∈ zT := zT_mem (List.mem_of_getElem? (i := 880) (by decide +kernel)) (by decide +kernel)
theorem q_cd_J0_isLatin1_aae02 : (.code yJ0_isLatin1_aae02 cJ0_isLatin1_aae02 1 (some .boolean) : Cond) ∈ zT := zT_mem (List.mem_of_getElem? (i := 881) (by decide +kernel)) (by decide +kernel)
theorem zc_J0_isLatin1_aae02 : zCalV RJ0 yJ0_isLatin1_aae02 cJ0_isLatin1_aae02 1 (some .boolean) 0 := ⟨q_im_J0_isLatin1_aae02, q_se_J0_isLatin1_aae02, q_in_J0, q_cd_J0_isLatin1_aae02, ⟨by decide, by decide, by decide +kernel⟩, rfl⟩
theorem q_im_J0_charAt_5068e : (.instanceMethod yJ0_charAt_5068e : Cond) ∈ zT := zT_mem (List.mem_of_getElem? (i := 875) (by decide +kernel)) (by decide +kernel)
theorem q_se_J0_charAt_5068e : (.selects RJ0 yJ0_charAt_5068e yJ0_charAt_5068e : Cond) ∈ zT := zT_mem (List.mem_of_getElem? (i := 876) (by decide +kernel)) (by decide +kernel)
theorem q_cd_J0_charAt_5068e : (.code yJ0_charAt_5068e cJ0_charAt_5068e 2 (some .char) : Cond) ∈ zT := zT_mem (List.mem_of_getElem? (i := 877) (by decide +kernel)) (by decide +kernel)
theorem zc_J0_charAt_5068e : zCalV RJ0 yJ0_charAt_5068e cJ0_charAt_5068e 2 (some .char) 1 := ⟨q_im_J0_charAt_5068e, q_se_J0_charAt_5068e, q_in_J0, q_cd_J0_charAt_5068e, ⟨by decide, by decide, by decide +kernel⟩, rfl⟩
theorem q_st_J1_charAt_3b067 : (.static yJ1_charAt_3b067 : Cond) ∈ zT := zT_mem (List.mem_of_getElem? (i := 883) (by decide +kernel)) (by decide +kernel)
theorem q_cd_J1_charAt_3b067 : (.code yJ1_charAt_3b067 cJ1_charAt_3b067 2 (some .char) : Cond) ∈ zT := zT_mem (List.mem_of_getElem? (i := 884) (by decide +kernel)) (by decide +kernel)
theorem zc_J1_charAt_3b067 : zCalS yJ1_charAt_3b067 cJ1_charAt_3b067 2 (some .char) 2 := ⟨q_st_J1_charAt_3b067, q_in_J1, q_cd_J1_charAt_3b067, ⟨by decide, by decide, by decide +kernel⟩⟩
theorem q_st_J0_checkIndex_df160 : (.static yJ0_checkIndex_df160 : Cond) ∈ zT := zT_mem (List.mem_of_getElem? (i := 886) (by decide +kernel)) (by decide +kernel)
theorem q_cd_J0_checkIndex_df160 : (.code yJ0_checkIndex_df160 cJ0_checkIndex_df160 2 none : Cond) ∈ zT := zT_mem (List.mem_of_getElem? (i := 887) (by decide +kernel)) (by decide +kernel)
theorem zc_J0_checkIndex_df160 : zCalS yJ0_checkIndex_df160 cJ0_checkIndex_df160 2 none 2 := ⟨q_st_J0_checkIndex_df160, q_in_J0, q_cd_J0_checkIndex_df160, ⟨by decide, by decide, by decide +kernel⟩⟩
theorem q_st_J3_checkIndex_8e157 : (.static yJ3_checkIndex_8e157 : Cond) ∈ zT := zT_mem (List.mem_of_getElem? (i := 891) (by decide +kernel)) (by decide +kernel)
theorem q_cd_J3_checkIndex_8e157 : (.code yJ3_checkIndex_8e157 cJ3_checkIndex_8e157 3 (some .int) : Cond) ∈ zT := zT_mem (List.mem_of_getElem? (i := 892) (by decide +kernel)) (by decide +kernel)
theorem zc_J3_checkIndex_8e157 : zCalS yJ3_checkIndex_8e157 cJ3_checkIndex_8e157 3 (some .int) 3 := ⟨q_st_J3_checkIndex_8e157, q_in_J3, q_cd_J3_checkIndex_8e157, ⟨by decide, by decide, by decide +kernel⟩⟩
theorem j_ml_J0_335 : (.methodLink RJ0 335 yJ0_coder_7d493 : Cond) ∈ zT := zT_mem (List.mem_of_getElem? (i := 868) (by decide +kernel)) (by decide +kernel)
theorem j_ml_J0_492 : (.methodLink RJ0 492 yJ0_isLatin1_aae02 : Cond) ∈ zT := zT_mem (List.mem_of_getElem? (i := 878) (by decide +kernel)) (by decide +kernel)
theorem j_ml_J0_495 : (.methodLink RJ0 495 yJ1_charAt_3b067 : Cond) ∈ zT := zT_mem (List.mem_of_getElem? (i := 882) (by decide +kernel)) (by decide +kernel)
theorem j_ml_J1_9 : (.methodLink RJ1 9 yJ0_checkIndex_df160 : Cond) ∈ zT := zT_mem (List.mem_of_getElem? (i := 885) (by decide +kernel)) (by decide +kernel)
theorem j_ml_J0_1059 : (.methodLink RJ0 1059 yJ3_checkIndex_8e157 : Cond) ∈ zT := zT_mem (List.mem_of_getElem? (i := 890) (by decide +kernel)) (by decide +kernel)
theorem j_ml_X6_67 : (.methodLink RX6 67 yJ0_length_8abf5 : Cond) ∈ zT := zT_mem (List.mem_of_getElem? (i := 864) (by decide +kernel)) (by decide +kernel)
theorem j_ml_X6_72 : (.methodLink RX6 72 yJ0_charAt_5068e : Cond) ∈ zT := zT_mem (List.mem_of_getElem? (i := 874) (by decide +kernel)) (by decide +kernel)
theorem j_ml_X11_178 : (.methodLink RX11 178 yJ0_length_8abf5 : Cond) ∈ zT := zT_mem (List.mem_of_getElem? (i := 1453) (by decide +kernel)) (by decide +kernel)
theorem j_ml_X11_183 : (.methodLink RX11 183 yJ0_charAt_5068e : Cond) ∈ zT := zT_mem (List.mem_of_getElem? (i := 1454) (by decide +kernel)) (by decide +kernel)
theorem q_fl_J0_38 : (.fieldLink RJ0 38 "java/lang/String" "COMPACT_STRINGS" "Z" : Cond) ∈ zT := zT_mem (List.mem_of_getElem? (i := 872) (by decide +kernel)) (by decide +kernel)
theorem q_fl_J0_9 : (.fieldLink RJ0 9 "java/lang/String" "value" "[B" : Cond) ∈ zT := zT_mem (List.mem_of_getElem? (i := 1884) (by decide +kernel)) (by decide +kernel)
theorem q_fl_J0_15 : (.fieldLink RJ0 15 "java/lang/String" "coder" "B" : Cond) ∈ zT := zT_mem (List.mem_of_getElem? (i := 1885) (by decide +kernel)) (by decide +kernel)
theorem q_fl_J0_1053 : (.fieldLink RJ0 1053 "jdk/internal/util/Preconditions" "SIOOBE_FORMATTER" "Ljava/util/function/BiFunction;" : Cond) ∈ zT := zT_mem (List.mem_of_getElem? (i := 888) (by decide +kernel)) (by decide +kernel)
