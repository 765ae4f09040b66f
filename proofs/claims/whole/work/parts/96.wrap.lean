theorem w_cl_0 : (.classLink RL 13 (exC 0) : Cond) ∈ zT := zT_mem (List.mem_of_getElem? (i := 814) (by decide +kernel)) (by decide +kernel)
theorem w_cl_1 : (.classLink RL 25 (exC 1) : Cond) ∈ zT := zT_mem (List.mem_of_getElem? (i := 1031) (by decide +kernel)) (by decide +kernel)
theorem w_cl_2 : (.classLink RL 23 (exC 2) : Cond) ∈ zT := zT_mem (List.mem_of_getElem? (i := 1030) (by decide +kernel)) (by decide +kernel)
theorem w_cl_3 : (.classLink RL 47 (exC 3) : Cond) ∈ zT := zT_mem (List.mem_of_getElem? (i := 1124) (by decide +kernel)) (by decide +kernel)
/-- which of the four is no other -/
def zCa : zFact := fun _ U _ => va_Nc (exC 0) (exC 2) U ∧ va_Nc (exC 1) (exC 2) U ∧ va_Nc (exC 1) (exC 0) U ∧ va_Nc (exC 3) (exC 2) U ∧ va_Nc (exC 3) (exC 0) U
theorem fro_Ca (C T : String) : zFro (fun _ U _ => va_Nc C T U) := ⟨fun hW z => va_Nc.moved hW.alike z, fun e z => va_Nc.moved (by rw [e]; exact Vm.Alike.refl _) z, fun z _ => z, fun z _ => z⟩
theorem fro_zCa : zFro zCa := (fro_Ca _ _).and ((fro_Ca _ _).and ((fro_Ca _ _).and ((fro_Ca _ _).and (fro_Ca _ _))))
def zFw : zFact := fun A U H => zFy A U H ∧ zCa A U H
theorem fro_Fw : zFro zFw := fro_Fy.and fro_zCa
def zCalL (y : MethodName) (bytes : ByteArray) (maxL : Nat) (ret : Option FieldType) (hh : List (Nat × Nat × Nat × Nat)) (n : Nat) : Prop := Cond.static y ∈ zT ∧ Cond.initialized y.cls ∈ zT ∧ Cond.codeWith y bytes maxL ret hh ∈ zT ∧ zN y n
theorem zCalL.good {own : String} {y : MethodName} {bytes : ByteArray} {maxL n idx : Nat} {ret : Option FieldType} {hh : List (Nat × Nat × Nat × Nat)} (h : zCalL y bytes maxL ret hh n) (hml : Cond.methodLink own idx y ∈ zT) : GoodIn zT (va_wsS own idx y (Cond.codeWith y bytes maxL ret hh :: zT)) := zT_in (fun w hw => by
  rcases List.mem_append.mp hw with hw | hw
  · simp only [List.mem_cons, List.not_mem_nil, or_false] at hw
    rcases hw with rfl | rfl | rfl
    · exact hml
    · exact h.1
    · exact h.2.1
  · rcases List.mem_cons.mp hw with rfl | hw
    · exact h.2.2.1
    · exact hw)
section ZW1
variable {p : Program} {l : Launch} {e : Env} {R : Room} {s : State} {m : MethodId} {args : Array Value} {below : List Frame} {meth : Method} {c : Code} {H : Heap} {locs : List Loc} {cells slots : Nat} {Q : State → Prop} {dC : Nat → ClassId} {dI : Nat → Nat → Nat} {cI cJ cS : ClassId}
  {cc : ByteArray} {nL : Nat} {own C : String} {pc : Nat} {ls : Array Slot} {A : Nat → Prop} {y : MethodName} {bytes : ByteArray} {maxL idx n : Nat} {ret ret0 : Option FieldType} {rm : Room} {b : Nat} {As rest st : List Value} {w wc wr : va_W} {F : zFact} {hh : List (Nat × Nat × Nat × Nat)}
theorem z_enterL {av : List Value} {sz : Nat} {Qc : (Nat → Prop) → Array Value → State → Outcome → State → Prop} {mc ms : Nat}
    (hy : plainName y.cls = true) (hn : (lg_sl av).length ≤ maxL)
    (body : ∀ (p : Program) (e : Env) (s : State) (m : MethodId) (below : List Frame) (meth : Method) (c : Code) (ls : Array Slot) (A : Nat → Prop), zX p s m av.toArray meth c cc maxL ret y.cls dC dI cI cJ cS → c.exceptionTable.toList = tableOf hh → va_P (dC, dI) vwCl w s.heap → va_D A w → va_S A s.heap s.heap [] → (∀ q : Nat, s.heap.size ≤ q → A q) → F A s s.heap → lv_has ls maxL (lv_args 0 av) →
      W p l e rm s m av.toArray below meth c s.heap [] 0 0 (MQ below (Qc A) av.toArray s mc ms A) (F0 m 0 ls [])) : Met l y (Cond.codeWith y cc maxL ret hh :: zT) rm (zPmF F dC dI cI cJ cS w av sz) (Qc (va_A w sz)) mc ms (va_A w sz) := by
  refine va_MetW (cc := cc) (maxL := maxL) (ret := ret) (hh := hh) hy rfl ?_
  intro p e s m args below meth c s₁ B hml hv
  obtain ⟨rfl, hsz, hP, hK, hD0, hF⟩ := hv
  subst hsz
  have hD := hD0.self (sz := s.heap.size)
  have hl := lv_entry av (n := maxL) hn
  have htb := vx_table (x := y) B (atoms_spec (ws := Cond.codeWith y cc maxL ret hh :: zT) B.pre _ List.mem_cons_self)
  rw [lg_entry_eq]
  generalize (lg_sl av ++ List.replicate (maxL - (lg_sl av).length) Slot.unset).toArray = ls at hl ⊢
  exact body p e s m below meth c ls _ ⟨⟨B.exec, B.bytes, hml, findClass_of_methodNamed B.named, fun w h => atoms_spec (ws := Cond.codeWith y cc maxL ret hh :: zT) B.pre w (List.mem_cons_of_mem _ h)⟩, B.returns, B.notSynchronized, hK⟩ htb hP hD va_S.rf (fun q h => Or.inr h) hF hl
/-- a wrapper called -/
theorem z_wL {S : Type} {Wf Wn : S → va_W} {Qf : Int32 → S → Prop} {mc ms : Nat} (X : zX p s m args meth c cc nL ret0 own dC dI cI cJ cS) (hFr : zFro F) (hF : F A s s.heap) (hM : Met l y (Cond.codeWith y bytes maxL ret hh :: zT) rm (zPmF F dC dI cI cJ cS wc As H.size) (va_Qi Qf (zB dC dI cI cJ cS (va_A wc H.size) Wf) (va_A wc H.size)) mc ms (va_A wc H.size)) (hG : zCalL y bytes maxL ret hh n) (hml : Cond.methodLink own idx y ∈ zT) (hrm : rm.cells = mc ∧ rm.slots = ms) (hR : rm.frames + 1 ≤ R.frames ∧ 8 + (maxL + 11) + rm.locals ≤ R.locals)
    (hP : va_P (dC, dI) vwCl w H) (hD : va_D A w) (hS : va_S A s.heap H locs) (hA : ∀ q : Nat, s.heap.size ≤ q → A q) (hp : w.Perm (wr ++ wc)) (hWn : ∀ u, (Wn u).Perm (wr ++ Wf u))
    (hl : ls.size = nL) (hn : As.length = n) (hst : st = As.reverse ++ rest) (hroom : (rest.map fun v => v.category).sum ≤ 8) (hcs : cells + mc ≤ R.cells ∧ slots + ms ≤ R.slots) (hdg : decode cc pc = .ok (.invokestatic idx, 3))
    (kk : ∀ (r : Int32) (u : S) (H1 : Heap) (locs1 : List Loc), Qf r u → va_P (dC, dI) vwCl (Wn u) H1 → va_D A (Wn u) → va_S A s.heap H1 locs1 → W p l e R s m args below meth c H1 locs1 (cells + mc) (slots + ms) Q (F0 m (pc + 3) ls (.int r :: rest))) : W p l e R s m args below meth c H locs cells slots Q (F0 m pc ls st) := by
  have hPc := (hP.perm hp).r
  have hDc := (hD.perm hp).r
  have hFc := z_freeP hD hS hA hp
  refine va_calli (vx_runSW (g := F0 m pc ls st) X.1 hM (vx_cwSW n X.1.2.2.2.2 (hG.good hml) rfl hrm.1 hrm.2 hG.2.2.2 hR) ⟨zPmF_blind hFr, fun U hU hW => ⟨rfl, by rw [hU], by rw [hU]; exact hPc, va_K.moved hW.alike X.2.2.2, hDc.weaken (fun _ _ _ _ => trivial), by rw [hU]; exact hFr.at hF hS hFc hW⟩⟩ rfl hn hl hst (lv_room (rest := st) hroom) hdg hcs) hS (fun q _ h => hFc q h) hFc (fun r u t H1 locs1 ht hvm hq hB hz1 hk1 hS1 => ?_)
  obtain ⟨hP2, hD2⟩ := z_backP (Wn := Wn) hP hD hp hWn hk1 hFc ht hB
  exact kk r u H1 locs1 hq hP2 hD2 hS1
/-- caught -/
theorem z_cat {j : Nat} {ce : Cell} {q : Addr} (X : zX p s m args meth c cc nL ret0 RL dC dI cI cJ cS) (hT : zTh A s s.heap) (pre : List ExceptionTableEntry) (x : ExceptionTableEntry) (suf : List ExceptionTableEntry) (hsplit : c.exceptionTable.toList = pre ++ x :: suf)
    (hpass : ∀ z ∈ pre, z.catchType ≠ 0 ∧ ∃ k : Nat, Cond.classLink RL z.catchType (exC k) ∈ zT ∧ va_Nc (exC j) (exC k) s) (hx : covers x pc = true) (h0 : x.catchType ≠ 0)
    (hlink : Cond.classLink RL x.catchType (exC j) ∈ zT) (hcell : H[q]? = some ce) (hv : ce.vm = .none) (hcl : s.vm.findClass (exC j) = some ce.cls)
    (kk : W p l e R s m args below meth c H locs cells slots Q (F0 m x.handlerPc ls [.ref q])) : vx_W p l e R s m args below meth c H locs cells slots Q (F0 m pc ls rest) q :=
  vx_catch X.1.2.2.2.1 pre x suf hsplit (fun z hz => by
    obtain ⟨h1, k, h2, h3⟩ := hpass z hz
    exact Or.inr ⟨h1, exC k, X.1.2.2.2.2 _ h2, h3⟩) hx h0 (X.1.2.2.2.2 _ hlink) (va_any rfl (hT.2.2.2.1 j)) hcell hv hcl kk
end ZW1
abbrev wO (cJ : ClassId) (o : Nat) (f : Nat → Int64) : va_W := [(o, .inl (cJ, 1, .inr (.inl f)))]

theorem w_cw_put : zCalL yL_put cL_put 6 (some .int) [(0, 12, 15, 23), (0, 12, 19, 13), (0, 12, 23, 25)] 5 := ⟨zT_mem (List.mem_of_getElem? (i := 1028) (by decide +kernel)) (by decide +kernel), q_in_L, zT_mem (List.mem_of_getElem? (i := 1029) (by decide +kernel)) (by decide +kernel), ⟨by decide, by decide, by decide +kernel⟩⟩
abbrev rm_L_put : Room := { frames := 8, cells := 2, slots := 12, locals := 213 }
set_option maxHeartbeats 4000000 in
set_option maxRecDepth 100000 in
theorem c_L_put (l : Launch) (hlt : l.stackTraces = false) (dC : Nat → ClassId) (dI : Nat → Nat → Nat) (cI cJ cS : ClassId) (a : Nat → Nat) (u : zCls) (o : Nat) (f : Nat → Int64) (x1 : Int32) (x2 : Int32) (x3 : Int32) (Q : Int32 → zCls × (Nat → Int64) → Prop) (hf : s_X10_put u x1 x2 x3 (fun r z => Q 0 (z, vp_updL f 0 r.toInt64)) (fun E z => (E = exC 2 ∧ Q 1 (z, f)) ∨ (E = exC 0 ∧ Q 2 (z, f)) ∨ (E = exC 1 ∧ Q 3 (z, f)))) : ∀ sz : Nat, Met l yL_put (Cond.codeWith yL_put cL_put 6 (some .int) [(0, 12, 15, 23), (0, 12, 19, 13), (0, 12, 23, 25)] :: zT) rm_L_put (zPmF zFw dC dI cI cJ cS (wO cJ o f ++ cl_X10 cI cJ cS a u) [.ref (a 0), .int x1, .int x2, .int x3, .ref o] sz) (va_Qi Q (zB dC dI cI cJ cS (va_A (wO cJ o f ++ cl_X10 cI cJ cS a u) sz) (fun z : zCls × (Nat → Int64) => wO cJ o z.2 ++ cl_X10 cI cJ cS a z.1)) (va_A (wO cJ o f ++ cl_X10 cI cJ cS a u) sz)) 2 12 (va_A (wO cJ o f ++ cl_X10 cI cJ cS a u) sz) := by
  intro sz
  refine z_enterL (Qc := fun A => va_Qi Q (zB dC dI cI cJ cS A (fun z : zCls × (Nat → Int64) => wO cJ o z.2 ++ cl_X10 cI cJ cS a z.1)) A) (cc := cL_put) (maxL := 6) (ret := some .int) (hh := [(0, 12, 15, 23), (0, 12, 19, 13), (0, 12, 23, 25)]) (by decide) (Nat.le_of_ble_eq_true rfl) ?_
  intro p e s m below meth c ls A X htb hP hD hS hA hF hl
  obtain ⟨⟨hx, hb, hml, hown, hts⟩, hr, hlk, hK⟩ := id X
  have hl : lv_has ls 6 [(0, .ref (a 0)), (1, .int x1), (2, .int x2), (3, .int x3), (4, .ref o)] := hl
  refine lv_aload hx hb dL_put_0 (lv_at hl 4 rfl) ?_
  refine lv_iconst (v := 0) hx hb dL_put_2 (by decide) ?_
  refine lv_aload_n hx hb dL_put_3 rfl (lv_at hl 0 rfl) ?_
  refine lv_iload_n hx hb dL_put_4 rfl (lv_at hl 1 rfl) ?_
  refine lv_iload_n hx hb dL_put_5 rfl (lv_at hl 2 rfl) ?_
  refine lv_iload_n hx hb dL_put_6 rfl (lv_at hl 3 rfl) ?_
  refine z_xVi (Wn := fun z => wO cJ o f ++ cl_X10 cI cJ cS a z) (wr := wO cJ o f) (As := [.int x1, .int x2, .int x3]) (rest := [.int 0, .ref o]) X fro_Fy hF.1 (c_X10_put l hlt dC dI cI cJ cS a u x1 x2 x3 (fun r z => Q 0 (z, vp_updL f 0 r.toInt64)) (fun E z => (E = exC 2 ∧ Q 1 (z, f)) ∨ (E = exC 0 ∧ Q 2 (z, f)) ∨ (E = exC 1 ∧ Q 3 (z, f))) hf _) zc_X10_put q_ml_L_19 ⟨rfl, rfl⟩ ⟨Nat.le_of_ble_eq_true rfl, Nat.le_of_ble_eq_true rfl⟩ hP hD hS hA (List.Perm.refl _) (fun _ => List.Perm.refl _) 9 rfl rfl hl.1 rfl rfl (Nat.le_of_ble_eq_true rfl) ⟨Nat.le_of_ble_eq_true rfl, Nat.le_of_ble_eq_true rfl⟩ dL_put_7 (fun E z H locs q9 ce hq hP hD hS hce hcv hcl => ?_) (fun r z H locs hq hP hD hS => ?_)
  · rcases hq with ⟨rfl, hq⟩ | ⟨rfl, hq⟩ | ⟨rfl, hq⟩
    · refine z_cat (j := 2) X hF.1.2.2.2 [] ⟨0, 12, 15, 23⟩ [⟨0, 12, 19, 13⟩, ⟨0, 12, 23, 25⟩] htb (fun z hz => absurd hz (List.not_mem_nil)) rfl (by decide) w_cl_2 hce hcv hcl ?_
      refine lv_astore (lv' := [(5, .ref q9), (0, .ref (a 0)), (1, .int x1), (2, .int x2), (3, .int x3), (4, .ref o)]) hx hb dL_put_15 hl (by decide) rfl (fun ls hl => ?_)
      refine lv_iconst (v := 1) hx hb dL_put_17 (by decide) ?_
      exact z_retMi (Wf := (fun z : zCls × (Nat → Int64) => wO cJ o z.2 ++ cl_X10 cI cJ cS a z.1)) (u := (z, f)) X hq hP hD hS dL_put_18
    · refine z_cat (j := 0) X hF.1.2.2.2 [⟨0, 12, 15, 23⟩] ⟨0, 12, 19, 13⟩ [⟨0, 12, 23, 25⟩] htb (fun z hz => by
        simp only [List.mem_cons, List.not_mem_nil, or_false] at hz
        rcases hz with rfl
        · exact ⟨by decide, 2, w_cl_2, hF.2.1⟩) rfl (by decide) w_cl_0 hce hcv hcl ?_
      refine lv_astore (lv' := [(5, .ref q9), (0, .ref (a 0)), (1, .int x1), (2, .int x2), (3, .int x3), (4, .ref o)]) hx hb dL_put_19 hl (by decide) rfl (fun ls hl => ?_)
      refine lv_iconst (v := 2) hx hb dL_put_21 (by decide) ?_
      exact z_retMi (Wf := (fun z : zCls × (Nat → Int64) => wO cJ o z.2 ++ cl_X10 cI cJ cS a z.1)) (u := (z, f)) X hq hP hD hS dL_put_22
    · refine z_cat (j := 1) X hF.1.2.2.2 [⟨0, 12, 15, 23⟩, ⟨0, 12, 19, 13⟩] ⟨0, 12, 23, 25⟩ [] htb (fun z hz => by
        simp only [List.mem_cons, List.not_mem_nil, or_false] at hz
        rcases hz with rfl | rfl
        · exact ⟨by decide, 2, w_cl_2, hF.2.2.1⟩
        · exact ⟨by decide, 0, w_cl_0, hF.2.2.2.1⟩) rfl (by decide) w_cl_1 hce hcv hcl ?_
      refine lv_astore (lv' := [(5, .ref q9), (0, .ref (a 0)), (1, .int x1), (2, .int x2), (3, .int x3), (4, .ref o)]) hx hb dL_put_23 hl (by decide) rfl (fun ls hl => ?_)
      refine lv_iconst (v := 3) hx hb dL_put_25 (by decide) ?_
      exact z_retMi (Wf := (fun z : zCls × (Nat → Int64) => wO cJ o z.2 ++ cl_X10 cI cJ cS a z.1)) (u := (z, f)) X hq hP hD hS dL_put_26
  · refine lv_i2l (v := r.toInt64) hx hb dL_put_10 rfl ?_
    refine z_last (Wn := fun g => wO cJ o g ++ cl_X10 cI cJ cS a z) (n := 1) (f := f) X hP hD hS 0 1 rfl rfl (vp_in_nI (n := 0) (by decide) (by decide)) (fun _ => rfl) dL_put_11 (fun g H locs eg hP hD hS => ?_)
    refine lv_goto (tgt := 27) hx hb dL_put_12 (by decide) ?_
    refine lv_iconst (v := 0) hx hb dL_put_27 (by decide) ?_
    subst eg
    exact z_retMi (Wf := (fun z : zCls × (Nat → Int64) => wO cJ o z.2 ++ cl_X10 cI cJ cS a z.1)) (u := (z, _)) X hq hP hD hS dL_put_28
