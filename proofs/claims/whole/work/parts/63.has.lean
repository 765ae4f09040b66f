/-! what stays all through: words, their strings -/
def wdS (i : Nat) : String := match i with
  | 0 => "store"
  | 1 => "put"
  | 2 => "drop"
  | 3 => "sync"
  | 4 => "flush"
  | 5 => "crash"
  | 6 => "pick"
  | 7 => "step"
  | 8 => "quit"
  | _ => "merge"
def wiM (i : Nat) : Nat := match i with
  | 0 => 203
  | 1 => 212
  | 2 => 217
  | 3 => 222
  | 4 => 224
  | 5 => 226
  | 6 => 231
  | 7 => 236
  | 8 => 241
  | _ => 246
def wiT (i : Nat) : Nat := match i with
  | 0 => 76
  | 1 => 78
  | 2 => 80
  | 3 => 82
  | 4 => 84
  | 5 => 86
  | 6 => 88
  | 7 => 90
  | 8 => 92
  | _ => 94
/-- the words of one class's pool -/
def zWd (own : String) (ix : Nat → Nat) : zFact := fun A U H => ∀ i : Nat, ∃ q : Nat, vk_R own (ix i) (wdS i) q U ∧ zStr (wdL i) q A U H
theorem fro_Wd (own : String) (ix : Nat → Nat) : zFro (zWd own ix) := zFro.all (fun _ => zFro.ex (fun _ => (fro_R _ _ _ _).and (fro_Str _ _)))
/-- a row of ints that a class keeps -/
def zRow (C n : String) (N : Nat) (f : Nat → Int32) : zFact := fun A U H => ∃ t : Nat, va_Z C n "[I" (.ref t) A U H ∧ va_T .int t N (fun j => .int (f j)) A U H
theorem fro_Row (C n : String) (N : Nat) (f : Nat → Int32) : zFro (zRow C n N f) := zFro.ex (fun _ => (fro_Z _ _ _ _).and (fro_T _ _ _ _))
/-- how many numbers an ACT has, and their bounds, as the class keeps them -/
def rWan (k : Nat) : Int32 := nI (nN k)
def rLo (j : Nat) : Int32 := nLo (j / 4) (j % 4)
def rHi (j : Nat) : Int32 := nHi (j / 4) (j % 4)
def zFz : zFact := fun A U H => zJk A U H ∧ zWd RX11 wiM A U H ∧ zWd RX6 wiT A U H ∧ zRow RX10 "WANTED" 10 rWan A U H ∧ zRow RX10 "LEAST" 40 rLo A U H ∧ zRow RX10 "GREATEST" 40 rHi A U H
theorem fro_Fz : zFro zFz := fro_Jk.and ((fro_Wd _ _).and ((fro_Wd _ _).and ((fro_Row _ _ _ _).and ((fro_Row _ _ _ _).and (fro_Row _ _ _ _)))))
def zFzs (q : Nat) (bs : List Int32) : zFact := fun A U H => zFz A U H ∧ zStr bs q A U H
theorem fro_Fzs (q : Nat) (bs : List Int32) : zFro (zFzs q bs) := fro_Fz.and (fro_Str bs q)
section ZF1
variable {p : Program} {l : Launch} {e : Env} {R : Room} {s : State} {m : MethodId} {args : Array Value} {below : List Frame} {meth : Method} {c : Code} {H : Heap} {locs : List Loc} {cells slots : Nat} {Q : State → Prop} {dC : Nat → ClassId} {dI : Nat → Nat → Nat} {cI cJ cS : ClassId}
  {cc : ByteArray} {nL : Nat} {own C : String} {pc : Nat} {ls : Array Slot} {A : Nat → Prop} {y : MethodName} {bytes : ByteArray} {maxL idx n : Nat} {ret ret0 : Option FieldType} {rm : Room} {b : Nat} {As rest st : List Value} {w wc wr : va_W} {F : zFact}
/-- a writer's start, with what stays -/
abbrev zPmF (F : zFact) (dC : Nat → ClassId) (dI : Nat → Nat → Nat) (cI cJ cS : ClassId) (w : va_W) (av : List Value) (sz : Nat) : Array Value → State → Prop := va_Pc av (fun U => U.heap.size = sz ∧ va_P (dC, dI) vwCl w U.heap ∧ va_K (dC, dI) vwCl (zTy cI cJ cS) U ∧ va_D (fun _ => True) w ∧ F (va_A w sz) U U.heap)
theorem zPmF_blind (hF : zFro F) {av : List Value} {sz : Nat} : FrameBlind (zPmF F dC dI cI cJ cS w av sz) := fun a U g mk q => by
  obtain ⟨q0, q1, qP, qK, qD, qF⟩ := q
  exact ⟨q0, q1, qP, va_K.moved (u := U) (U := U.calling g mk a) (Vm.Alike.refl U.vm) qK, qD, hF.same (u := U) (U := U.calling g mk a) rfl qF⟩
theorem z_enterMF {av : List Value} {sz : Nat} {Qc : (Nat → Prop) → Array Value → State → Outcome → State → Prop} {mc ms : Nat}
    (hy : plainName y.cls = true) (hn : (lg_sl av).length ≤ maxL)
    (body : ∀ (p : Program) (e : Env) (s : State) (m : MethodId) (below : List Frame) (meth : Method) (c : Code) (ls : Array Slot) (A : Nat → Prop), zX p s m av.toArray meth c cc maxL ret y.cls dC dI cI cJ cS → va_P (dC, dI) vwCl w s.heap → va_D A w → va_S A s.heap s.heap [] → (∀ q : Nat, s.heap.size ≤ q → A q) → F A s s.heap → lv_has ls maxL (lv_args 0 av) →
      W p l e rm s m av.toArray below meth c s.heap [] 0 0 (MQ below (Qc A) av.toArray s mc ms A) (F0 m 0 ls [])) : Met l y (Cond.code y cc maxL ret :: zT) rm (zPmF F dC dI cI cJ cS w av sz) (Qc (va_A w sz)) mc ms (va_A w sz) := by
  refine Met.ofW (cc := cc) (maxL := maxL) (ret := ret) hy rfl ?_
  intro p e s m args below meth c s₁ B hml hv
  obtain ⟨rfl, hsz, hP, hK, hD0, hF⟩ := hv
  subst hsz
  have hD := hD0.self (sz := s.heap.size)
  have hl := lv_entry av (n := maxL) hn
  rw [lg_entry_eq]
  generalize (lg_sl av ++ List.replicate (maxL - (lg_sl av).length) Slot.unset).toArray = ls at hl ⊢
  exact body p e s m below meth c ls _ ⟨⟨B.exec, B.bytes, hml, findClass_of_methodNamed B.named, fun w h => atoms_spec (ws := Cond.code y cc maxL ret :: zT) B.pre w (List.mem_cons_of_mem _ h)⟩, B.returns, B.notSynchronized, hK⟩ hP hD va_S.rf (fun q h => Or.inr h) hF hl
theorem z_mViF {S : Type} {Wf Wn : S → va_W} {Qf : Int32 → S → Prop} (X : zX p s m args meth c cc nL ret0 own dC dI cI cJ cS) (hFr : zFro F) (hF : F A s s.heap) (hM : Met l y (Cond.code y bytes maxL ret :: zT) rm (zPmF F dC dI cI cJ cS wc (.ref b :: As) H.size) (va_Qi Qf (zB dC dI cI cJ cS (va_A wc H.size) Wf) (va_A wc H.size)) 0 0 (va_A wc H.size)) (hG : zCalV C y bytes maxL ret n) (hml : Cond.methodLink own idx y ∈ zT) (hrm : rm.cells = 0 ∧ rm.slots = 0) (hR : rm.frames + 1 ≤ R.frames ∧ 8 + (maxL + 11) + rm.locals ≤ R.locals)
    (hP : va_P (dC, dI) vwCl w H) (hD : va_D A w) (hS : va_S A s.heap H locs) (hA : ∀ q : Nat, s.heap.size ≤ q → A q) (isC isR : List Nat) (hC : isC.map (fun i => w[i]?) = wc.map some) (hnc : va_nd isC = true) (hRr : isR.map (fun i => w[i]?) = wr.map some) (hnd : va_nd isR = true) (hdis : ∀ i ∈ isR, i ∉ isC) (is2 : List Nat) (hn2 : va_nd is2 = true) (hWn : ∀ u, is2.map (fun i => (wr ++ Wf u)[i]?) = (Wn u).map some)
    (ci : Nat) {T : u_T} {N : Nat} (hc : vwCl[ci]? = some (C, T, N)) {fs : List Value} (he : wc[0]? = some (b, .inr (ci, fs))) (hl : ls.size = nL) (hn : As.length = n) (hst : st = As.reverse ++ .ref b :: rest) (hroom : (rest.map fun v => v.category).sum ≤ 8) (hcs : cells ≤ R.cells ∧ slots ≤ R.slots) (hdg : decode cc pc = .ok (.invokevirtual idx, 3))
    (kk : ∀ (r : Int32) (u : S) (H1 : Heap) (locs1 : List Loc), Qf r u → va_P (dC, dI) vwCl (Wn u) H1 → va_D A (Wn u) → va_S A s.heap H1 locs1 → W p l e R s m args below meth c H1 locs1 cells slots Q (F0 m (pc + 3) ls (.int r :: rest))) : W p l e R s m args below meth c H locs cells slots Q (F0 m pc ls st) := by
  have hPc := hP.sub isC (z_fm hC)
  have hDc := hD.sub isC hnc hC
  have hFc := va_free (wc := wc) hD hS hA isC hC
  refine va_calli (va_runV (g := F0 m pc ls st) X.1 hM (cwV n X.1.2.2.2.2 (hG.good hml) rfl hrm.1 hrm.2 ⟨hG.2.2.2.2.2, hG.2.2.2.2.1⟩ hR) ⟨zPmF_blind hFr, va_recv X.2.2.2 hPc hc he, fun U hU hW => ⟨rfl, by rw [hU], by rw [hU]; exact hPc, va_K.moved hW.alike X.2.2.2, hDc.weaken (fun _ _ _ _ => trivial), by rw [hU]; exact hFr.at hF hS hFc hW⟩⟩ rfl hn hl hst (lv_room (rest := st) hroom) hdg hcs) hS (fun q _ h => hFc q h) hFc (fun r u t H1 locs1 ht hvm hq hB hz1 hk1 hS1 => ?_)
  obtain ⟨hP2, hD2⟩ := z_back (s' := s) (Wn := Wn) hP hD isC isR hC hRr hnd hdis is2 hn2 hWn hk1 hFc ht hB
  exact kk r u H1 locs1 hq hP2 hD2 hS1
end ZF1

def t_X11_has_e (u : zModel) (bs1 : List Int32) (K5 : Int32 → zModel → Prop) (K60 : Int32 → Int32 → zModel → Prop) (Q : Int32 → zModel → Prop) : Prop := s_X11_here u (fun (r_1 : Int32) (u_2 : zModel) => K5 r_1 u_2)
def t_X11_has_5 (bs1 : List Int32) (y2 : Int32) (z : zModel) (K5 : Int32 → zModel → Prop) (K60 : Int32 → Int32 → zModel → Prop) (Q : Int32 → zModel → Prop) : Prop := ((z.2.2.2.2.2.2.2.2.2.2.2.1 ≤ y2 → ((¬ z.2.2.2.2.2.2.2.2.2.2.2.2.2.1 = (-1 : Int32) → Q (0 : Int32) z) ∧ (z.2.2.2.2.2.2.2.2.2.2.2.2.2.1 = (-1 : Int32) → (((y2 - z.2.2.2.2.2.2.2.2.2.2.2.2.1) = (nI bs1.length) → K60 y2 (0 : Int32) z) ∧ (¬ (y2 - z.2.2.2.2.2.2.2.2.2.2.2.2.1) = (nI bs1.length) → Q (0 : Int32) z))))) ∧ (¬ z.2.2.2.2.2.2.2.2.2.2.2.1 ≤ y2 → vp_in y2 400 ∧ s_X11_isIn (z.2.2.2.2.2.2.2.2.2.1 y2.toNatClampNeg) (97 : Int32) (122 : Int32) (fun r_8 : Int32 => ((r_8 = 0 → ((¬ z.2.2.2.2.2.2.2.2.2.2.2.2.2.1 = (-1 : Int32) → Q (0 : Int32) z) ∧ (z.2.2.2.2.2.2.2.2.2.2.2.2.2.1 = (-1 : Int32) → (((y2 - z.2.2.2.2.2.2.2.2.2.2.2.2.1) = (nI bs1.length) → K60 y2 (0 : Int32) z) ∧ (¬ (y2 - z.2.2.2.2.2.2.2.2.2.2.2.2.1) = (nI bs1.length) → Q (0 : Int32) z))))) ∧ (¬ r_8 = 0 → ∀ x_13 : Int32, x_13 = y2 + (1 : Int32) → K5 x_13 z)))))
def t_X11_has_60 (bs1 : List Int32) (y2 : Int32) (y3 : Int32) (z : zModel) (K5 : Int32 → zModel → Prop) (K60 : Int32 → Int32 → zModel → Prop) (Q : Int32 → zModel → Prop) : Prop := (((nI bs1.length) ≤ y3 → Q (1 : Int32) (z.1, z.2.1, z.2.2.1, z.2.2.2.1, z.2.2.2.2.1, z.2.2.2.2.2.1, z.2.2.2.2.2.2.1, z.2.2.2.2.2.2.2.1, z.2.2.2.2.2.2.2.2.1, z.2.2.2.2.2.2.2.2.2.1, z.2.2.2.2.2.2.2.2.2.2.1, z.2.2.2.2.2.2.2.2.2.2.2.1, y2, z.2.2.2.2.2.2.2.2.2.2.2.2.2)) ∧ (¬ (nI bs1.length) ≤ y3 → vp_in (z.2.2.2.2.2.2.2.2.2.2.2.2.1 + y3) 400 ∧ (∃ k_16 : Nat, y3 = nI k_16 ∧ k_16 < bs1.length ∧ zTxt bs1 ∧ (((z.2.2.2.2.2.2.2.2.2.1 (z.2.2.2.2.2.2.2.2.2.2.2.2.1 + y3).toNatClampNeg) = (bs1.getD k_16 0) → ∀ x_18 : Int32, x_18 = y3 + (1 : Int32) → K60 y2 x_18 z) ∧ (¬ (z.2.2.2.2.2.2.2.2.2.1 (z.2.2.2.2.2.2.2.2.2.2.2.2.1 + y3).toNatClampNeg) = (bs1.getD k_16 0) → Q (0 : Int32) z)))))
theorem zc_X11_has : zCalV RX11 yX11_has cX11_has 4 (some .boolean) 1 := ⟨q_im_X11_has, q_se_X11_has, q_in_X11, q_cd_X11_has, ⟨by decide, by decide, by decide +kernel⟩, rfl⟩
abbrev rm_X11_has : Room := { frames := 4, cells := 0, slots := 0, locals := 85 }
def v_X11_has (u : zModel) (bs1 : List Int32) (Q : Int32 → zModel → Prop) : Prop := ∃ I5 : Nat → Int32 → zModel → Prop, ∃ I60 : Nat → Int32 → Int32 → zModel → Prop, (∀ (n : Nat) (y2 : Int32) (z : zModel), I5 n y2 z → t_X11_has_5 bs1 y2 z (fun q0 q1 => ∃ k : Nat, k < n ∧ I5 k q0 q1) (fun q0 q1 q2 => ∃ k : Nat, k < n ∧ I60 k q0 q1 q2) Q) ∧ (∀ (n : Nat) (y2 : Int32) (y3 : Int32) (z : zModel), I60 n y2 y3 z → t_X11_has_60 bs1 y2 y3 z (fun q0 q1 => ∃ k : Nat, k < n ∧ I5 k q0 q1) (fun q0 q1 q2 => ∃ k : Nat, k < n ∧ I60 k q0 q1 q2) Q) ∧ t_X11_has_e u bs1 (fun q0 q1 => ∃ k : Nat, I5 k q0 q1) (fun q0 q1 q2 => ∃ k : Nat, I60 k q0 q1 q2) Q
set_option maxHeartbeats 4000000 in
set_option maxRecDepth 100000 in
theorem L_X11_has (l : Launch) (dC : Nat → ClassId) (dI : Nat → Nat → Nat) (cI cJ cS : ClassId) (a : Nat → Nat) (q1 : Nat) (u : zModel) (bs1 : List Int32) (Q : Int32 → zModel → Prop) (I5 : Nat → Int32 → zModel → Prop) (I60 : Nat → Int32 → Int32 → zModel → Prop) (h5 : ∀ (n : Nat) (y2 : Int32) (z : zModel), I5 n y2 z → t_X11_has_5 bs1 y2 z (fun q0 q1 => ∃ k : Nat, k < n ∧ I5 k q0 q1) (fun q0 q1 q2 => ∃ k : Nat, k < n ∧ I60 k q0 q1 q2) Q) (h60 : ∀ (n : Nat) (y2 : Int32) (y3 : Int32) (z : zModel), I60 n y2 y3 z → t_X11_has_60 bs1 y2 y3 z (fun q0 q1 => ∃ k : Nat, k < n ∧ I5 k q0 q1) (fun q0 q1 q2 => ∃ k : Nat, k < n ∧ I60 k q0 q1 q2) Q) (hf : t_X11_has_e u bs1 (fun q0 q1 => ∃ k : Nat, I5 k q0 q1) (fun q0 q1 q2 => ∃ k : Nat, I60 k q0 q1 q2) Q) : ∀ sz : Nat, Met l yX11_has (Cond.code yX11_has cX11_has 4 (some .boolean) :: zT) rm_X11_has (zPmF (zFzs q1 bs1) dC dI cI cJ cS (cl_X11 cI cJ a u) [.ref (a 0), .ref q1] sz) (va_Qi (fun r u => (r = 0 ∨ r = 1) ∧ Q r u) (zB dC dI cI cJ cS (va_A (cl_X11 cI cJ a u) sz) (fun z => cl_X11 cI cJ a z)) (va_A (cl_X11 cI cJ a u) sz)) 0 0 (va_A (cl_X11 cI cJ a u) sz) := by
  intro sz
  refine z_enterMF (Qc := fun A => va_Qi (fun r u => (r = 0 ∨ r = 1) ∧ Q r u) (zB dC dI cI cJ cS A (fun z => cl_X11 cI cJ a z)) A) (cc := cX11_has) (maxL := 4) (ret := (some .boolean)) (by decide) (Nat.le_of_ble_eq_true rfl) ?_
  intro p e s m below meth c ls A X hP hD hS hA hF hl
  obtain ⟨hF, hs1⟩ := hF
  obtain ⟨⟨hx, hb, hml, hown, hts⟩, hr, hlk, hK⟩ := id X
  have hl : lv_has ls 4 [(0, .ref (a 0)), (1, .ref q1)] := hl
  have LP : ∀ n : Nat, (∀ (y2 : Int32) (z : zModel) (H : Heap) (locs : List Loc) (ls : Array Slot), I5 n y2 z → va_P (dC, dI) vwCl (cl_X11 cI cJ a z) H → va_D A (cl_X11 cI cJ a z) → va_S A s.heap H locs → lv_has ls 4 [(0, .ref (a 0)), (1, .ref q1), (2, .int y2)] → W p l e rm_X11_has s m [.ref (a 0), .ref q1].toArray below meth c H locs 0 0 (MQ below (va_Qi (fun r u => (r = 0 ∨ r = 1) ∧ Q r u) (zB dC dI cI cJ cS A (fun z => cl_X11 cI cJ a z)) A) [.ref (a 0), .ref q1].toArray s 0 0 A) (F0 m 5 ls [])) ∧ (∀ (y2 : Int32) (y3 : Int32) (z : zModel) (H : Heap) (locs : List Loc) (ls : Array Slot), I60 n y2 y3 z → va_P (dC, dI) vwCl (cl_X11 cI cJ a z) H → va_D A (cl_X11 cI cJ a z) → va_S A s.heap H locs → lv_has ls 4 [(0, .ref (a 0)), (1, .ref q1), (2, .int y2), (3, .int y3)] → W p l e rm_X11_has s m [.ref (a 0), .ref q1].toArray below meth c H locs 0 0 (MQ below (va_Qi (fun r u => (r = 0 ∨ r = 1) ∧ Q r u) (zB dC dI cI cJ cS A (fun z => cl_X11 cI cJ a z)) A) [.ref (a 0), .ref q1].toArray s 0 0 A) (F0 m 60 ls [])) := by
    intro n
    induction n using Nat.strongRecOn with
    | _ n ih =>
      refine ⟨?_, ?_⟩
      · intro y2 z H locs ls hI hP hD hS hl
        have hf := h5 n y2 z hI
        unfold t_X11_has_5 at hf
        refine lv_iload_n hx hb dX11_has_5 rfl (lv_at hl 2 rfl) ?_
        refine lv_aload_n hx hb dX11_has_6 rfl (lv_at hl 0 rfl) ?_
        refine va_get (D := (dC, dI)) (ci := 10) (v := .int z.2.2.2.2.2.2.2.2.2.2.2.1) (C := RX11) (T := TX11) (N := 17) hx hb hts inX11 hown hK hP 0 rfl rfl 11 (by decide) (hts _ q_fl_X11_172) (fun _ h9 => h9) rfl dX11_has_7 ?_
        refine lv_icmp_ge (tgt := 35) hx hb dX11_has_10 (by decide) (fun c_4 => ?_) (fun c_4 => ?_)
        · have hf := hf.1 c_4
          refine lv_aload_n hx hb dX11_has_35 rfl (lv_at hl 0 rfl) ?_
          refine va_get (D := (dC, dI)) (ci := 10) (v := .int z.2.2.2.2.2.2.2.2.2.2.2.2.2.1) (C := RX11) (T := TX11) (N := 17) hx hb hts inX11 hown hK hP 0 rfl rfl 13 (by decide) (hts _ q_fl_X11_29) (fun _ h9 => h9) rfl dX11_has_36 ?_
          refine lv_iconst (v := (-1)) hx hb dX11_has_39 (by decide) ?_
          refine lv_icmp_ne (tgt := 56) hx hb dX11_has_40 (by decide) (fun c_5 => ?_) (fun c_5 => ?_)
          · have hf := hf.1 c_5
            refine lv_iconst (v := 0) hx hb dX11_has_56 (by decide) ?_
            exact z_retMz (Wf := (fun z => cl_X11 cI cJ a z)) (u := z) X (Or.inl rfl) hf hP hD hS dX11_has_57
          · have hf := hf.2 c_5
            refine lv_iload_n hx hb dX11_has_43 rfl (lv_at hl 2 rfl) ?_
            refine lv_aload_n hx hb dX11_has_44 rfl (lv_at hl 0 rfl) ?_
            refine va_get (D := (dC, dI)) (ci := 10) (v := .int z.2.2.2.2.2.2.2.2.2.2.2.2.1) (C := RX11) (T := TX11) (N := 17) hx hb hts inX11 hown hK hP 0 rfl rfl 12 (by decide) (hts _ q_fl_X11_169) (fun _ h9 => h9) rfl dX11_has_45 ?_
            refine lv_isub hx hb dX11_has_48 ?_
            refine lv_aload_n hx hb dX11_has_49 rfl (lv_at hl 1 rfl) ?_
            refine z_jV (C := RJ0) (As := []) (rest := [.int (y2 - z.2.2.2.2.2.2.2.2.2.2.2.2.1)]) X.1 (fro_Fs bs1 q1) ⟨hF.1, hs1⟩ hs1.1 hS (c_J0_length l bs1 q1) zc_J0_length_8abf5 j_ml_X11_178 ⟨rfl, rfl⟩ ⟨Nat.le_of_ble_eq_true rfl, Nat.le_of_ble_eq_true rfl⟩ hl.1 rfl rfl (Nat.le_of_ble_eq_true rfl) ⟨Nat.zero_le _, Nat.zero_le _⟩ dX11_has_50 ?_
            refine lv_icmp_eq (tgt := 58) hx hb dX11_has_53 (by decide) (fun c_6 => ?_) (fun c_6 => ?_)
            · have hf := hf.1 c_6
              refine lv_iconst (v := 0) hx hb dX11_has_58 (by decide) ?_
              refine lv_istore_n (lv' := [(3, .int (0 : Int32)), (0, .ref (a 0)), (1, .ref q1), (2, .int y2)]) hx hb dX11_has_59 rfl hl (by decide) rfl (fun ls hl => ?_)
              obtain ⟨k_7, hk_7, hf⟩ := hf
              exact (ih k_7 hk_7).2 _ _ z _ _ ls hf hP hD hS (lv_sub hl [1, 2, 3, 0] rfl)
            · have hf := hf.2 c_6
              refine lv_iconst (v := 0) hx hb dX11_has_56 (by decide) ?_
              exact z_retMz (Wf := (fun z => cl_X11 cI cJ a z)) (u := z) X (Or.inl rfl) hf hP hD hS dX11_has_57
        · have hf := hf.2 c_4
          refine lv_aload_n hx hb dX11_has_13 rfl (lv_at hl 0 rfl) ?_
          refine va_get (D := (dC, dI)) (ci := 10) (v := .ref (a 6)) (C := RX11) (T := TX11) (N := 17) hx hb hts inX11 hown hK hP 0 rfl rfl 9 (by decide) (hts _ q_fl_X11_26) (fun _ h9 => h9) rfl dX11_has_14 ?_
          refine lv_iload_n hx hb dX11_has_17 rfl (lv_at hl 2 rfl) ?_
          obtain ⟨hg, hf⟩ := hf
          refine va_iald hx hb hK hP 6 0 rfl rfl hg dX11_has_18 ?_
          refine lv_bipush (v := 97) hx hb dX11_has_19 (by decide) ?_
          refine lv_bipush (v := 122) hx hb dX11_has_21 (by decide) ?_
          refine z_cSi (As := [.int (z.2.2.2.2.2.2.2.2.2.1 y2.toNatClampNeg), .int (97 : Int32), .int (122 : Int32)]) (rest := []) X (c_X11_isIn l dC dI cI cJ cS   (z.2.2.2.2.2.2.2.2.2.1 y2.toNatClampNeg) (97 : Int32) (122 : Int32) _ hf) zc_X11_isIn q_ml_X11_165 ⟨rfl, rfl⟩ ⟨Nat.le_of_ble_eq_true rfl, Nat.le_of_ble_eq_true rfl⟩ hP [] rfl hl.1 rfl rfl (Nat.le_of_ble_eq_true rfl) ⟨Nat.zero_le _, Nat.zero_le _⟩ dX11_has_23 (fun r_8 hf => ?_)
          obtain ⟨hbr_8, hf⟩ := hf
          refine lv_if_eq (tgt := 35) hx hb dX11_has_26 (by decide) (fun c_9 => ?_) (fun c_9 => ?_)
          · have hf := hf.1 c_9
            refine lv_aload_n hx hb dX11_has_35 rfl (lv_at hl 0 rfl) ?_
            refine va_get (D := (dC, dI)) (ci := 10) (v := .int z.2.2.2.2.2.2.2.2.2.2.2.2.2.1) (C := RX11) (T := TX11) (N := 17) hx hb hts inX11 hown hK hP 0 rfl rfl 13 (by decide) (hts _ q_fl_X11_29) (fun _ h9 => h9) rfl dX11_has_36 ?_
            refine lv_iconst (v := (-1)) hx hb dX11_has_39 (by decide) ?_
            refine lv_icmp_ne (tgt := 56) hx hb dX11_has_40 (by decide) (fun c_10 => ?_) (fun c_10 => ?_)
            · have hf := hf.1 c_10
              refine lv_iconst (v := 0) hx hb dX11_has_56 (by decide) ?_
              exact z_retMz (Wf := (fun z => cl_X11 cI cJ a z)) (u := z) X (Or.inl rfl) hf hP hD hS dX11_has_57
            · have hf := hf.2 c_10
              refine lv_iload_n hx hb dX11_has_43 rfl (lv_at hl 2 rfl) ?_
              refine lv_aload_n hx hb dX11_has_44 rfl (lv_at hl 0 rfl) ?_
              refine va_get (D := (dC, dI)) (ci := 10) (v := .int z.2.2.2.2.2.2.2.2.2.2.2.2.1) (C := RX11) (T := TX11) (N := 17) hx hb hts inX11 hown hK hP 0 rfl rfl 12 (by decide) (hts _ q_fl_X11_169) (fun _ h9 => h9) rfl dX11_has_45 ?_
              refine lv_isub hx hb dX11_has_48 ?_
              refine lv_aload_n hx hb dX11_has_49 rfl (lv_at hl 1 rfl) ?_
              refine z_jV (C := RJ0) (As := []) (rest := [.int (y2 - z.2.2.2.2.2.2.2.2.2.2.2.2.1)]) X.1 (fro_Fs bs1 q1) ⟨hF.1, hs1⟩ hs1.1 hS (c_J0_length l bs1 q1) zc_J0_length_8abf5 j_ml_X11_178 ⟨rfl, rfl⟩ ⟨Nat.le_of_ble_eq_true rfl, Nat.le_of_ble_eq_true rfl⟩ hl.1 rfl rfl (Nat.le_of_ble_eq_true rfl) ⟨Nat.zero_le _, Nat.zero_le _⟩ dX11_has_50 ?_
              refine lv_icmp_eq (tgt := 58) hx hb dX11_has_53 (by decide) (fun c_11 => ?_) (fun c_11 => ?_)
              · have hf := hf.1 c_11
                refine lv_iconst (v := 0) hx hb dX11_has_58 (by decide) ?_
                refine lv_istore_n (lv' := [(3, .int (0 : Int32)), (0, .ref (a 0)), (1, .ref q1), (2, .int y2)]) hx hb dX11_has_59 rfl hl (by decide) rfl (fun ls hl => ?_)
                obtain ⟨k_12, hk_12, hf⟩ := hf
                exact (ih k_12 hk_12).2 _ _ z _ _ ls hf hP hD hS (lv_sub hl [1, 2, 3, 0] rfl)
              · have hf := hf.2 c_11
                refine lv_iconst (v := 0) hx hb dX11_has_56 (by decide) ?_
                exact z_retMz (Wf := (fun z => cl_X11 cI cJ a z)) (u := z) X (Or.inl rfl) hf hP hD hS dX11_has_57
          · have hf := hf.2 c_9
            obtain ⟨x_13, ex_13⟩ : ∃ y : Int32, y = y2 + (1 : Int32) := ⟨_, rfl⟩
            have hf := hf x_13 ex_13
            refine lv_iinc (v := x_13) (lv' := [(2, .int x_13), (0, .ref (a 0)), (1, .ref q1)]) hx hb dX11_has_29 hl (k := 2) rfl (by rw [ex_13]; rfl) (by decide) rfl (fun ls hl => ?_)
            refine lv_goto (tgt := 5) hx hb dX11_has_32 (by decide) ?_
            obtain ⟨k_14, hk_14, hf⟩ := hf
            exact (ih k_14 hk_14).1 _ z _ _ ls hf hP hD hS (lv_sub hl [1, 2, 0] rfl)
      · intro y2 y3 z H locs ls hI hP hD hS hl
        have hf := h60 n y2 y3 z hI
        unfold t_X11_has_60 at hf
        refine lv_iload_n hx hb dX11_has_60 rfl (lv_at hl 3 rfl) ?_
        refine lv_aload_n hx hb dX11_has_61 rfl (lv_at hl 1 rfl) ?_
        refine z_jV (C := RJ0) (As := []) (rest := [.int y3]) X.1 (fro_Fs bs1 q1) ⟨hF.1, hs1⟩ hs1.1 hS (c_J0_length l bs1 q1) zc_J0_length_8abf5 j_ml_X11_178 ⟨rfl, rfl⟩ ⟨Nat.le_of_ble_eq_true rfl, Nat.le_of_ble_eq_true rfl⟩ hl.1 rfl rfl (Nat.le_of_ble_eq_true rfl) ⟨Nat.zero_le _, Nat.zero_le _⟩ dX11_has_62 ?_
        refine lv_icmp_ge (tgt := 95) hx hb dX11_has_65 (by decide) (fun c_15 => ?_) (fun c_15 => ?_)
        · have hf := hf.1 c_15
          refine lv_aload_n hx hb dX11_has_95 rfl (lv_at hl 0 rfl) ?_
          refine lv_iload_n hx hb dX11_has_96 rfl (lv_at hl 2 rfl) ?_
          refine z_put (w' := cl_X11 cI cJ a (z.1, z.2.1, z.2.2.1, z.2.2.2.1, z.2.2.2.2.1, z.2.2.2.2.2.1, z.2.2.2.2.2.2.1, z.2.2.2.2.2.2.2.1, z.2.2.2.2.2.2.2.2.1, z.2.2.2.2.2.2.2.2.2.1, z.2.2.2.2.2.2.2.2.2.2.1, z.2.2.2.2.2.2.2.2.2.2.2.1, y2, z.2.2.2.2.2.2.2.2.2.2.2.2.2)) (ci := 10) (v := .int y2) (ty := .int) (Cn := RX11) (T := TX11) (N := 17) X inX11 tyX11 tyX11_ok nmX11 hP hD hS 0 rfl rfl 12 (by decide) (hts _ q_fl_X11_169) (fun _ h9 => h9) rfl (tyX11_ok 12 (by decide)) rfl rfl (Nat.le_of_ble_eq_true rfl) rfl dX11_has_97 (fun H locs hP hD hS => ?_)
          refine lv_iconst (v := 1) hx hb dX11_has_100 (by decide) ?_
          exact z_retMz (Wf := (fun z => cl_X11 cI cJ a z)) (u := (z.1, z.2.1, z.2.2.1, z.2.2.2.1, z.2.2.2.2.1, z.2.2.2.2.2.1, z.2.2.2.2.2.2.1, z.2.2.2.2.2.2.2.1, z.2.2.2.2.2.2.2.2.1, z.2.2.2.2.2.2.2.2.2.1, z.2.2.2.2.2.2.2.2.2.2.1, z.2.2.2.2.2.2.2.2.2.2.2.1, y2, z.2.2.2.2.2.2.2.2.2.2.2.2.2)) X (Or.inr rfl) hf hP hD hS dX11_has_101
        · have hf := hf.2 c_15
          refine lv_aload_n hx hb dX11_has_68 rfl (lv_at hl 0 rfl) ?_
          refine va_get (D := (dC, dI)) (ci := 10) (v := .ref (a 6)) (C := RX11) (T := TX11) (N := 17) hx hb hts inX11 hown hK hP 0 rfl rfl 9 (by decide) (hts _ q_fl_X11_26) (fun _ h9 => h9) rfl dX11_has_69 ?_
          refine lv_aload_n hx hb dX11_has_72 rfl (lv_at hl 0 rfl) ?_
          refine va_get (D := (dC, dI)) (ci := 10) (v := .int z.2.2.2.2.2.2.2.2.2.2.2.2.1) (C := RX11) (T := TX11) (N := 17) hx hb hts inX11 hown hK hP 0 rfl rfl 12 (by decide) (hts _ q_fl_X11_169) (fun _ h9 => h9) rfl dX11_has_73 ?_
          refine lv_iload_n hx hb dX11_has_76 rfl (lv_at hl 3 rfl) ?_
          refine lv_iadd hx hb dX11_has_77 ?_
          obtain ⟨hg, hf⟩ := hf
          refine va_iald hx hb hK hP 6 0 rfl rfl hg dX11_has_78 ?_
          refine lv_aload_n hx hb dX11_has_79 rfl (lv_at hl 1 rfl) ?_
          refine lv_iload_n hx hb dX11_has_80 rfl (lv_at hl 3 rfl) ?_
          obtain ⟨k_16, ek_16, lk_16, tk_16, hf⟩ := hf
          refine z_jV (C := RJ0) (As := [.int (nI k_16)]) (rest := [.int (z.2.2.2.2.2.2.2.2.2.1 (z.2.2.2.2.2.2.2.2.2.2.2.2.1 + y3).toNatClampNeg)]) X.1 (fro_Fs bs1 q1) ⟨hF.1, hs1⟩ hs1.1 hS (c_J0_charAt l bs1 q1 k_16 tk_16 lk_16) zc_J0_charAt_5068e j_ml_X11_183 ⟨rfl, rfl⟩ ⟨Nat.le_of_ble_eq_true rfl, Nat.le_of_ble_eq_true rfl⟩ hl.1 rfl (by rw [ek_16]; rfl) (Nat.le_of_ble_eq_true rfl) ⟨Nat.zero_le _, Nat.zero_le _⟩ dX11_has_81 ?_
          refine lv_icmp_eq (tgt := 89) hx hb dX11_has_84 (by decide) (fun c_17 => ?_) (fun c_17 => ?_)
          · have hf := hf.1 c_17
            obtain ⟨x_18, ex_18⟩ : ∃ y : Int32, y = y3 + (1 : Int32) := ⟨_, rfl⟩
            have hf := hf x_18 ex_18
            refine lv_iinc (v := x_18) (lv' := [(3, .int x_18), (0, .ref (a 0)), (1, .ref q1), (2, .int y2)]) hx hb dX11_has_89 hl (k := 3) rfl (by rw [ex_18]; rfl) (by decide) rfl (fun ls hl => ?_)
            refine lv_goto (tgt := 60) hx hb dX11_has_92 (by decide) ?_
            obtain ⟨k_19, hk_19, hf⟩ := hf
            exact (ih k_19 hk_19).2 _ _ z _ _ ls hf hP hD hS (lv_sub hl [1, 2, 3, 0] rfl)
          · have hf := hf.2 c_17
            refine lv_iconst (v := 0) hx hb dX11_has_87 (by decide) ?_
            exact z_retMz (Wf := (fun z => cl_X11 cI cJ a z)) (u := z) X (Or.inl rfl) hf hP hD hS dX11_has_88
  unfold t_X11_has_e at hf
  refine lv_aload_n hx hb dX11_has_0 rfl (lv_at hl 0 rfl) ?_
  refine z_mVi (Wn := (fun u_2 => cl_X11 cI cJ a u_2)) (As := []) (rest := []) (wr := []) X (c_X11_here l dC dI cI cJ cS a u  _ hf _) zc_X11_here q_ml_X11_175 ⟨rfl, rfl⟩ ⟨Nat.le_of_ble_eq_true rfl, Nat.le_of_ble_eq_true rfl⟩ hP hD hS hA [0, 1, 2, 3, 4, 5, 6, 7, 8] [] rfl (by decide) rfl (by decide) (by decide) [0, 1, 2, 3, 4, 5, 6, 7, 8] (by decide) (fun _ => rfl) 10 rfl rfl hl.1 rfl rfl (Nat.le_of_ble_eq_true rfl) ⟨Nat.zero_le _, Nat.zero_le _⟩ dX11_has_1 (fun r_1 u_2 H locs hf hP hD hS => ?_)
  refine lv_istore_n (lv' := [(2, .int r_1), (0, .ref (a 0)), (1, .ref q1)]) hx hb dX11_has_4 rfl hl (by decide) rfl (fun ls hl => ?_)
  obtain ⟨k_3, hf⟩ := hf
  exact (LP k_3).1 _ u_2 _ _ ls hf hP hD hS (lv_sub hl [1, 2, 0] rfl)
/-- a word stands from p to e -/
def isBs (t : Nat → Int32) (p e : Nat) (bs : List Int32) : Bool := decide (e = p + bs.length ∧ ∀ j, j < bs.length → t (p + j) = bs.getD j 0)
def s_X11_has (u : zModel) (bs1 : List Int32) (Q : Int32 → zModel → Prop) : Prop := ∃ N p : Nat, mTx u N p ∧ zTxt bs1 ∧ u.2.2.2.2.2.2.2.2.2.2.2.2.2.1 = -1 ∧ (isBs (mTp u) (pSk (mTp u) N p) (wdE (mTp u) N (pSk (mTp u) N p)) bs1 = true → Q 1 (mAt u (nI (wdE (mTp u) N (pSk (mTp u) N p))))) ∧ (isBs (mTp u) (pSk (mTp u) N p) (wdE (mTp u) N (pSk (mTp u) N p)) bs1 = false → Q 0 (mAt u (nI (pSk (mTp u) N p))))
theorem st_X11_has {u : zModel} {bs1 : List Int32} {Q : Int32 → zModel → Prop} (h : s_X11_has u bs1 Q) : v_X11_has u bs1 Q := by
  obtain ⟨N, p, ⟨hN, hp, eN, ep⟩, hb, hf, h1, h0⟩ := h
  have hq := pSk_le (mTp u) hp
  generalize eq : pSk (mTp u) N p = q at h1 h0 hq
  have heN : wdE (mTp u) N q ≤ N := pRun_le _ hq
  have heq : q ≤ wdE (mTp u) N q := pRun_ge _ _ _
  generalize ee : wdE (mTp u) N q = e at h1 h0 heN heq
  have hlen := hb.1
  have fin : ∀ (n : Nat), bs1.length < n → ((¬ u.2.2.2.2.2.2.2.2.2.2.2.2.2.1 = (-1 : Int32) → Q (0 : Int32) (mAt u (nI q))) ∧ (u.2.2.2.2.2.2.2.2.2.2.2.2.2.1 = (-1 : Int32) → (((nI e - nI q) = (nI bs1.length) → ∃ k, k < n ∧ ∃ j : Nat, j ≤ bs1.length ∧ k = bs1.length - j ∧ nI e = nI e ∧ (0 : Int32) = nI j ∧ mAt u (nI q) = mAt u (nI q) ∧ e = q + bs1.length ∧ ∀ i, i < j → mTp u (q + i) = bs1.getD i 0) ∧ (¬ (nI e - nI q) = (nI bs1.length) → Q (0 : Int32) (mAt u (nI q)))))) := by
    intro n hn
    refine ⟨fun c => absurd hf c, fun _ => ⟨fun c => ?_, fun c => h0 (decide_eq_false (fun z => c ?_))⟩⟩
    · rw [lN_subI heq] at c
      have := (nI_eq (by omega) (by omega)).mp c
      exact ⟨bs1.length - 0, by omega, 0, by omega, rfl, rfl, rfl, rfl, by omega, fun i hi => absurd hi (Nat.not_lt_zero i)⟩
    · rw [lN_subI heq, z.1, Nat.add_sub_cancel_left]
  refine ⟨fun n y2 z => ∃ k : Nat, q ≤ k ∧ k ≤ N ∧ n = N - k + bs1.length + 1 ∧ y2 = nI k ∧ z = mAt u (nI q) ∧ e = wdE (mTp u) N k, fun n y2 y3 z => ∃ j : Nat, j ≤ bs1.length ∧ n = bs1.length - j ∧ y2 = nI e ∧ y3 = nI j ∧ z = mAt u (nI q) ∧ e = q + bs1.length ∧ ∀ i, i < j → mTp u (q + i) = bs1.getD i 0, ?_, ?_, ?_⟩
  · rintro n y2 z ⟨k, hk, hkN, rfl, rfl, rfl, er⟩
    have stop : ¬ (k < N ∧ isLw (mTp u) k = true) → e = k := fun c => er.trans (pRun_no c)
    refine ⟨fun c => ?_, fun c => ⟨?_, isIn_of (fun d => ⟨fun q => absurd q (by decide), fun _ x ex => ?_⟩) (fun d => ⟨fun _ => ?_, fun q => absurd rfl q⟩)⟩⟩
    · have c : u.2.2.2.2.2.2.2.2.2.2.2.1 ≤ nI k := c
      rw [eN] at c
      have := (nI_leI (by omega) (by omega)).mp c
      have e1 : e = k := stop (fun z => by omega)
      subst e1
      exact fin _ (by omega)
    · have c : ¬ u.2.2.2.2.2.2.2.2.2.2.2.1 ≤ nI k := c
      rw [eN] at c
      have : ¬ N ≤ k := fun z => c (nI_le z (by omega))
      exact vp_in_nI (by omega) (by decide)
    · have c : ¬ u.2.2.2.2.2.2.2.2.2.2.2.1 ≤ nI k := c
      rw [eN] at c
      have hkl : ¬ N ≤ k := fun z => c (nI_le z (by omega))
      have d : inR (mTp u (nI k).toNatClampNeg) 97 122 := d
      rw [nI_clamp (by omega)] at d
      exact ⟨N - (k + 1) + bs1.length + 1, by omega, k + 1, by omega, by omega, rfl, by rw [ex, nI_1], rfl, er.trans (pRun_yes (by omega) (decide_eq_true d))⟩
    · have d : ¬ inR (mTp u (nI k).toNatClampNeg) 97 122 := d
      rw [nI_clamp (by omega)] at d
      have e1 : e = k := stop (fun z => d (of_decide_eq_true z.2))
      subst e1
      exact fin _ (by omega)
  · rintro n y2 y3 z ⟨j, hj, rfl, rfl, rfl, rfl, hl, hall⟩
    refine ⟨fun c => ?_, fun c => ?_⟩
    · have := (nI_leI (by omega) (by omega)).mp c
      have e1 : j = bs1.length := by omega
      subst e1
      exact h1 (decide_eq_true ⟨hl, hall⟩)
    · have hj2 : j < bs1.length := by
        have : ¬ bs1.length ≤ j := fun z => c (nI_le z (by omega))
        omega
      show vp_in (nI q + nI j) 400 ∧ ∃ k : Nat, nI j = nI k ∧ k < bs1.length ∧ zTxt bs1 ∧ ((mTp u (nI q + nI j).toNatClampNeg = bs1.getD k 0 → _) ∧ (¬ mTp u (nI q + nI j).toNatClampNeg = bs1.getD k 0 → _))
      rw [nI_add, nI_clamp (by omega)]
      refine ⟨vp_in_nI (by omega) (by decide), j, rfl, hj2, hb, fun d x ex => ?_, fun d => ?_⟩
      · refine ⟨bs1.length - (j + 1), by omega, j + 1, hj2, rfl, rfl, by rw [ex, nI_1], rfl, hl, fun i hi => ?_⟩
        by_cases q2 : i = j
        · rw [q2]; exact d
        · exact hall i (by omega)
      · exact h0 (decide_eq_false (fun z => d (z.2 j hj2)))
  · refine ⟨N, p, ⟨hN, hp, eN, ep⟩, ?_⟩
    rw [eq]
    exact ⟨N - q + bs1.length + 1, q, by omega, hq, rfl, rfl, rfl, ee.symm⟩
theorem c_X11_has (l : Launch) (dC : Nat → ClassId) (dI : Nat → Nat → Nat) (cI cJ cS : ClassId) (a : Nat → Nat) (q1 : Nat) (u : zModel) (bs1 : List Int32) (Q : Int32 → zModel → Prop) (hf : s_X11_has u bs1 Q) : ∀ sz : Nat, Met l yX11_has (Cond.code yX11_has cX11_has 4 (some .boolean) :: zT) rm_X11_has (zPmF (zFzs q1 bs1) dC dI cI cJ cS (cl_X11 cI cJ a u) [.ref (a 0), .ref q1] sz) (va_Qi (fun r u => (r = 0 ∨ r = 1) ∧ Q r u) (zB dC dI cI cJ cS (va_A (cl_X11 cI cJ a u) sz) (fun z => cl_X11 cI cJ a z)) (va_A (cl_X11 cI cJ a u) sz)) 0 0 (va_A (cl_X11 cI cJ a u) sz) := by
  obtain ⟨I5, I60, h5, h60, hf⟩ := st_X11_has hf
  exact L_X11_has l dC dI cI cJ cS a q1 u bs1 Q I5 I60 h5 h60 hf
