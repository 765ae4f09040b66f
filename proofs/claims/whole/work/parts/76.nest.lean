/-! words of nest mates, of throws: frozen too -/
theorem fro_Nm (a : String) (i : Nat) (x : MethodName) (h : String) : zFro (fun _ U _ => va_Nw (.methodLinkNest a i x h) U) := ⟨fun hW z => va_Nw.warmM hW z, fun e z => va_Nw.same rfl e.symm z, fun z _ => z, fun z _ => z⟩
theorem fro_Nf (a : String) (i : Nat) (b n d h : String) : zFro (fun _ U _ => va_Nw (.fieldLinkNest a i b n d h) U) := ⟨fun hW z => va_Nw.warmF hW z, fun e z => va_Nw.same rfl e.symm z, fun z _ => z, fun z _ => z⟩
theorem fro_Nc (C T : String) : zFro (fun _ U _ => va_Nw (.castable C T) U) := ⟨fun hW z => va_Nw.warmC hW z, fun e z => va_Nw.same rfl e.symm z, fun z _ => z, fun z _ => z⟩
theorem fro_Nd (x : MethodName) : zFro (fun _ U _ => va_Nw (.declares x) U) := ⟨fun hW z => va_Nw.warmD hW z, fun e z => va_Nw.same rfl e.symm z, fun z _ => z, fun z _ => z⟩
theorem fro_Xq (C n d : String) : zFro (vx_Zq C n d) := fro_al vx_Zq.moved vx_Zq.kept vx_Zq.narrow
/-- what throws rest on -/
def zTh : zFact := fun A U H => vx_Zq Bundle.tN "UNASSIGNED_STACK" Bundle.steD A U H ∧ vx_Zq Bundle.tN "SUPPRESSED_SENTINEL" Bundle.listD A U H ∧ (∀ i : Nat, ∃ q : Nat, vk_R RX10 (exI i) (exS i) q U) ∧ (∀ j : Nat, va_Nw (.castable (exC j) (exC j)) U) ∧ va_Nw (.declares (Bundle.initS "java/lang/RuntimeException")) U ∧ va_Nw (.declares (Bundle.initS "java/lang/Exception")) U ∧ va_Nw (.declares (Bundle.initS Bundle.tN)) U
theorem fro_Th : zFro zTh := (fro_Xq _ _ _).and ((fro_Xq _ _ _).and ((zFro.all (fun _ => zFro.ex (fun _ => fro_R _ _ _ _))).and ((zFro.all (fun _ => fro_Nc _ _)).and ((fro_Nd _).and ((fro_Nd _).and (fro_Nd _))))))
/-- all that stays -/
def zFy : zFact := fun A U H => zFz A U H ∧ va_Nw (.fieldLinkNest RX6 96 "AsideStore" "WANTED" "[I" "AsideStore") U ∧ va_Nw (.methodLinkNest RX6 105 yX10_mayBe "AsideStore") U ∧ zTh A U H
theorem fro_Fy : zFro zFy := fro_Fz.and ((fro_Nf _ _ _ _ _ _).and ((fro_Nm _ _ _ _).and fro_Th))
section ZN1
variable {p : Program} {l : Launch} {e : Env} {R : Room} {s : State} {m : MethodId} {args : Array Value} {below : List Frame} {meth : Method} {c : Code} {H : Heap} {locs : List Loc} {cells slots : Nat} {Q : State → Prop}
  {cc : ByteArray} {nL : Nat} {own host C : String} {pc : Nat} {ls : Array Slot} {A : Nat → Prop} {y : MethodName} {bytes : ByteArray} {maxL idx n : Nat} {ret : Option FieldType} {rm : Room} {b : Nat} {As rest st : List Value} {F : zFact} {o : Option Value}
theorem z_callJv {a : Array Value} {st0 : List Value} (hr : va_Run p l e R s m args below meth c H locs cells slots 0 0 (F0 m pc ls st0) rest (zRv o a) (fun _ => False))
    (kk : W p l e R s m args below meth c H locs cells slots Q (F0 m (pc + 3) ls (o.toList ++ rest))) : W p l e R s m args below meth c H locs cells slots Q (F0 m pc ls st0) := by
  intro T hT X
  obtain ⟨v, st₀, t, T', L, h0, X', hL, e1, e2, ⟨hv, hh⟩, st⟩ := hr T hT X
  cases hv
  obtain ⟨t2, a1, b1⟩ := kk T' (by rw [e1, hh, h0]) (Stand.forget X' (fun q h => (hL q h).elim))
  exact ⟨t2, st t2 a1, b1⟩
/-- a nest mate's static method that only reads -/
theorem z_jSN (X : CallFix p m c cc nL s args zT own) (hFr : zFro F) (hF : F A s s.heap) (hS : va_S A s.heap H locs) (hM : Met l y (Cond.code y bytes maxL ret :: zT) rm (zPj F As) (zRv o) 0 0 (fun _ => False)) (hG : zCalS y bytes maxL ret n) (hml : va_Nw (.methodLinkNest own idx y host) s) (hrm : rm.cells = 0 ∧ rm.slots = 0) (hR : rm.frames + 1 ≤ R.frames ∧ 8 + (maxL + 11) + rm.locals ≤ R.locals)
    (hl : ls.size = nL) (hn : As.length = n) (hst : st = As.reverse ++ rest) (hroom : (rest.map fun v => v.category).sum ≤ 8) (hcs : cells ≤ R.cells ∧ slots ≤ R.slots) (hdg : decode cc pc = .ok (.invokestatic idx, 3))
    (kk : W p l e R s m args below meth c H locs cells slots Q (F0 m (pc + 3) ls (o.toList ++ rest))) : W p l e R s m args below meth c H locs cells slots Q (F0 m pc ls st) :=
  z_callJv (va_runSN (g := F0 m pc ls st) X hM ⟨va_cnB n X.2.2.2.2 (zT_in (fun w hw => (List.mem_cons.mp hw).elim (fun e => by rw [e]; exact hG.2.2.1) id)) rfl hrm.1 hrm.2 hml (X.2.2.2.2 _ hG.2.1) hG.2.2.2 hR, X.2.2.2.2 _ hG.1, trivial⟩ ⟨zPj_blind hFr, fun U hU hW => ⟨rfl, by show F (fun _ => False) U U.heap; rw [hU]; exact hFr.at hF hS (fun _ h => h.elim) hW⟩⟩ rfl hn hl hst (lv_room (rest := st) hroom) hdg hcs) kk
end ZN1

def t_X6_readNumber_e (u : zTape) (x1 : Int32) (K7 : Int32 → Int32 → zTape → Prop) (Q : Int32 → zTape → Prop) : Prop := ∀ x_1 : Int32, x_1 = u.2.2.2.1 → K7 x_1 (0 : Int32) u
def t_X6_readNumber_7 (x1 : Int32) (y2 : Int32) (y3 : Int32) (z : zTape) (K7 : Int32 → Int32 → zTape → Prop) (Q : Int32 → zTape → Prop) : Prop := ((z.2.2.1 ≤ z.2.2.2.1 → ((z.2.2.2.1 = y2 → s_X6_isWrong z y2 (fun (r_5 : Int32) (u_6 : zTape) => Q r_5 u_6)) ∧ (¬ z.2.2.2.1 = y2 → (∃ k_7 i_8 : Nat, z.2.2.2.2.1 = nI k_7 ∧ x1 = nI i_8 ∧ k_7 < 10 ∧ i_8 < 4 ∧ (((if inR y3 (nLo k_7 i_8) (nHi k_7 i_8) then (1 : Int32) else 0) = 0 → s_X6_isWrong z y2 (fun (r_10 : Int32) (u_11 : zTape) => Q r_10 u_11)) ∧ (¬ (if inR y3 (nLo k_7 i_8) (nHi k_7 i_8) then (1 : Int32) else 0) = 0 → ((x1 < 0 → s_X6_isWrong z y2 (fun (r_13 : Int32) (u_14 : zTape) => Q r_13 u_14)) ∧ (¬ x1 < 0 → ((x1 < (4 : Int32) → vp_in x1 4 ∧ ∀ f_16 : Nat → Int32, f_16 = upd z.2.1 x1.toNatClampNeg y3 → Q (1 : Int32) (z.1, f_16, z.2.2.1, z.2.2.2.1, z.2.2.2.2.1, z.2.2.2.2.2.1, z.2.2.2.2.2.2)) ∧ (¬ x1 < (4 : Int32) → s_X6_isWrong z y2 (fun (r_17 : Int32) (u_18 : zTape) => Q r_17 u_18))))))))))) ∧ (¬ z.2.2.1 ≤ z.2.2.2.1 → s_X6_isDigit z (fun r_19 : Int32 => ((r_19 = 0 → ((z.2.2.2.1 = y2 → s_X6_isWrong z y2 (fun (r_22 : Int32) (u_23 : zTape) => Q r_22 u_23)) ∧ (¬ z.2.2.2.1 = y2 → (∃ k_24 i_25 : Nat, z.2.2.2.2.1 = nI k_24 ∧ x1 = nI i_25 ∧ k_24 < 10 ∧ i_25 < 4 ∧ (((if inR y3 (nLo k_24 i_25) (nHi k_24 i_25) then (1 : Int32) else 0) = 0 → s_X6_isWrong z y2 (fun (r_27 : Int32) (u_28 : zTape) => Q r_27 u_28)) ∧ (¬ (if inR y3 (nLo k_24 i_25) (nHi k_24 i_25) then (1 : Int32) else 0) = 0 → ((x1 < 0 → s_X6_isWrong z y2 (fun (r_30 : Int32) (u_31 : zTape) => Q r_30 u_31)) ∧ (¬ x1 < 0 → ((x1 < (4 : Int32) → vp_in x1 4 ∧ ∀ f_33 : Nat → Int32, f_33 = upd z.2.1 x1.toNatClampNeg y3 → Q (1 : Int32) (z.1, f_33, z.2.2.1, z.2.2.2.1, z.2.2.2.2.1, z.2.2.2.2.2.1, z.2.2.2.2.2.2)) ∧ (¬ x1 < (4 : Int32) → s_X6_isWrong z y2 (fun (r_34 : Int32) (u_35 : zTape) => Q r_34 u_35))))))))))) ∧ (¬ r_19 = 0 → (((3 : Int32) ≤ (z.2.2.2.1 - y2) → ∀ x_37 : Int32, x_37 = (z.2.2.2.1 + (1 : Int32)) → K7 y2 (-1 : Int32) (z.1, z.2.1, z.2.2.1, x_37, z.2.2.2.2.1, z.2.2.2.2.2.1, z.2.2.2.2.2.2)) ∧ (¬ (3 : Int32) ≤ (z.2.2.2.1 - y2) → s_X6_here z (fun r_39 : Int32 => ∀ x_40 : Int32, x_40 = ((((10 : Int32) * y3) + r_39) - (48 : Int32)) → ∀ x_41 : Int32, x_41 = (z.2.2.2.1 + (1 : Int32)) → K7 y2 x_40 (z.1, z.2.1, z.2.2.1, x_41, z.2.2.2.2.1, z.2.2.2.2.2.1, z.2.2.2.2.2.2)))))))))
theorem zc_X6_readNumber : zCalV RX6 yX6_readNumber cX6_readNumber 4 (some .boolean) 1 := ⟨q_im_X6_readNumber, q_se_X6_readNumber, q_in_X6, q_cd_X6_readNumber, ⟨by decide, by decide, by decide +kernel⟩, rfl⟩
abbrev rm_X6_readNumber : Room := { frames := 2, cells := 0, slots := 0, locals := 40 }
def v_X6_readNumber (u : zTape) (x1 : Int32) (Q : Int32 → zTape → Prop) : Prop := ∃ I7 : Nat → Int32 → Int32 → zTape → Prop, (∀ (n : Nat) (y2 : Int32) (y3 : Int32) (z : zTape), I7 n y2 y3 z → t_X6_readNumber_7 x1 y2 y3 z (fun q0 q1 q2 => ∃ k : Nat, k < n ∧ I7 k q0 q1 q2) Q) ∧ t_X6_readNumber_e u x1 (fun q0 q1 q2 => ∃ k : Nat, I7 k q0 q1 q2) Q
set_option maxHeartbeats 4000000 in
set_option maxRecDepth 100000 in
theorem L_X6_readNumber (l : Launch) (dC : Nat → ClassId) (dI : Nat → Nat → Nat) (cI cJ cS : ClassId) (a : Nat → Nat) (u : zTape) (x1 : Int32) (Q : Int32 → zTape → Prop) (I7 : Nat → Int32 → Int32 → zTape → Prop) (h7 : ∀ (n : Nat) (y2 : Int32) (y3 : Int32) (z : zTape), I7 n y2 y3 z → t_X6_readNumber_7 x1 y2 y3 z (fun q0 q1 q2 => ∃ k : Nat, k < n ∧ I7 k q0 q1 q2) Q) (hf : t_X6_readNumber_e u x1 (fun q0 q1 q2 => ∃ k : Nat, I7 k q0 q1 q2) Q) : ∀ sz : Nat, Met l yX6_readNumber (Cond.code yX6_readNumber cX6_readNumber 4 (some .boolean) :: zT) rm_X6_readNumber (zPmF zFy dC dI cI cJ cS (cl_X6 cI cJ a u) [.ref (a 0), .int x1] sz) (va_Qi (fun r u => (r = 0 ∨ r = 1) ∧ Q r u) (zB dC dI cI cJ cS (va_A (cl_X6 cI cJ a u) sz) (fun z => cl_X6 cI cJ a z)) (va_A (cl_X6 cI cJ a u) sz)) 0 0 (va_A (cl_X6 cI cJ a u) sz) := by
  intro sz
  refine z_enterMF (Qc := fun A => va_Qi (fun r u => (r = 0 ∨ r = 1) ∧ Q r u) (zB dC dI cI cJ cS A (fun z => cl_X6 cI cJ a z)) A) (cc := cX6_readNumber) (maxL := 4) (ret := (some .boolean)) (by decide) (Nat.le_of_ble_eq_true rfl) ?_
  intro p e s m below meth c ls A X hP hD hS hA hF hl
  obtain ⟨⟨hx, hb, hml, hown, hts⟩, hr, hlk, hK⟩ := id X
  have hl : lv_has ls 4 [(0, .ref (a 0)), (1, .int x1)] := hl
  have LP : ∀ n : Nat, (∀ (y2 : Int32) (y3 : Int32) (z : zTape) (H : Heap) (locs : List Loc) (ls : Array Slot), I7 n y2 y3 z → va_P (dC, dI) vwCl (cl_X6 cI cJ a z) H → va_D A (cl_X6 cI cJ a z) → va_S A s.heap H locs → lv_has ls 4 [(0, .ref (a 0)), (1, .int x1), (2, .int y2), (3, .int y3)] → W p l e rm_X6_readNumber s m [.ref (a 0), .int x1].toArray below meth c H locs 0 0 (MQ below (va_Qi (fun r u => (r = 0 ∨ r = 1) ∧ Q r u) (zB dC dI cI cJ cS A (fun z => cl_X6 cI cJ a z)) A) [.ref (a 0), .int x1].toArray s 0 0 A) (F0 m 7 ls [])) := by
    intro n
    induction n using Nat.strongRecOn with
    | _ n ih =>
      intro y2 y3 z H locs ls hI hP hD hS hl
      have hf := h7 n y2 y3 z hI
      unfold t_X6_readNumber_7 at hf
      refine lv_aload_n hx hb dX6_readNumber_7 rfl (lv_at hl 0 rfl) ?_
      refine va_get (D := (dC, dI)) (ci := 5) (v := .int z.2.2.2.1) (C := RX6) (T := TX6) (N := 7) hx hb hts inX6 hown hK hP 0 rfl rfl 3 (by decide) (hts _ q_fl_X6_26) (fun _ h9 => h9) rfl dX6_readNumber_8 ?_
      refine lv_aload_n hx hb dX6_readNumber_11 rfl (lv_at hl 0 rfl) ?_
      refine va_get (D := (dC, dI)) (ci := 5) (v := .int z.2.2.1) (C := RX6) (T := TX6) (N := 7) hx hb hts inX6 hown hK hP 0 rfl rfl 2 (by decide) (hts _ q_fl_X6_18) (fun _ h9 => h9) rfl dX6_readNumber_12 ?_
      refine lv_icmp_ge (tgt := 65) hx hb dX6_readNumber_15 (by decide) (fun c_3 => ?_) (fun c_3 => ?_)
      · have hf := hf.1 c_3
        refine lv_aload_n hx hb dX6_readNumber_65 rfl (lv_at hl 0 rfl) ?_
        refine va_get (D := (dC, dI)) (ci := 5) (v := .int z.2.2.2.1) (C := RX6) (T := TX6) (N := 7) hx hb hts inX6 hown hK hP 0 rfl rfl 3 (by decide) (hts _ q_fl_X6_26) (fun _ h9 => h9) rfl dX6_readNumber_66 ?_
        refine lv_iload_n hx hb dX6_readNumber_69 rfl (lv_at hl 2 rfl) ?_
        refine lv_icmp_eq (tgt := 94) hx hb dX6_readNumber_70 (by decide) (fun c_4 => ?_) (fun c_4 => ?_)
        · have hf := hf.1 c_4
          refine lv_aload_n hx hb dX6_readNumber_94 rfl (lv_at hl 0 rfl) ?_
          refine lv_iload_n hx hb dX6_readNumber_95 rfl (lv_at hl 2 rfl) ?_
          refine z_mVi (Wn := (fun u_6 => cl_X6 cI cJ a u_6)) (As := [.int y2]) (rest := []) (wr := []) X (c_X6_isWrong l dC dI cI cJ cS a z y2 _ hf _) zc_X6_isWrong q_ml_X6_39 ⟨rfl, rfl⟩ ⟨Nat.le_of_ble_eq_true rfl, Nat.le_of_ble_eq_true rfl⟩ hP hD hS hA [0, 1, 2] [] rfl (by decide) rfl (by decide) (by decide) [0, 1, 2] (by decide) (fun _ => rfl) 5 rfl rfl hl.1 rfl rfl (Nat.le_of_ble_eq_true rfl) ⟨Nat.zero_le _, Nat.zero_le _⟩ dX6_readNumber_96 (fun r_5 u_6 H locs hf hP hD hS => ?_)
          obtain ⟨hbr_5, hf⟩ := hf
          exact z_retMz (Wf := (fun z => cl_X6 cI cJ a z)) (u := u_6) X hbr_5 hf hP hD hS dX6_readNumber_99
        · have hf := hf.2 c_4
          refine lv_aload_n hx hb dX6_readNumber_73 rfl (lv_at hl 0 rfl) ?_
          refine va_get (D := (dC, dI)) (ci := 5) (v := .int z.2.2.2.2.1) (C := RX6) (T := TX6) (N := 7) hx hb hts inX6 hown hK hP 0 rfl rfl 4 (by decide) (hts _ q_fl_X6_56) (fun _ h9 => h9) rfl dX6_readNumber_74 ?_
          refine lv_iload_n hx hb dX6_readNumber_77 rfl (lv_at hl 1 rfl) ?_
          refine lv_iload_n hx hb dX6_readNumber_78 rfl (lv_at hl 3 rfl) ?_
          obtain ⟨k_7, i_8, ek_7, ei_8, lk_7, li_8, hf⟩ := hf
          refine z_jSN (A := A) (F := zBd) (As := [.int (nI k_7), .int (nI i_8), .int y3]) (rest := []) X.1 fro_Bd ⟨hF.1.2.2.2.2.1, hF.1.2.2.2.2.2⟩ hS (c_X10_mayBe l k_7 i_8 lk_7 li_8 y3) zc_X10_mayBe hF.2.2.1 ⟨rfl, rfl⟩ ⟨Nat.le_of_ble_eq_true rfl, Nat.le_of_ble_eq_true rfl⟩ hl.1 rfl (by rw [ek_7, ei_8]; rfl) (Nat.le_of_ble_eq_true rfl) ⟨Nat.zero_le _, Nat.zero_le _⟩ dX6_readNumber_79 ?_
          refine lv_if_eq (tgt := 94) hx hb dX6_readNumber_82 (by decide) (fun c_9 => ?_) (fun c_9 => ?_)
          · have hf := hf.1 c_9
            refine lv_aload_n hx hb dX6_readNumber_94 rfl (lv_at hl 0 rfl) ?_
            refine lv_iload_n hx hb dX6_readNumber_95 rfl (lv_at hl 2 rfl) ?_
            refine z_mVi (Wn := (fun u_11 => cl_X6 cI cJ a u_11)) (As := [.int y2]) (rest := []) (wr := []) X (c_X6_isWrong l dC dI cI cJ cS a z y2 _ hf _) zc_X6_isWrong q_ml_X6_39 ⟨rfl, rfl⟩ ⟨Nat.le_of_ble_eq_true rfl, Nat.le_of_ble_eq_true rfl⟩ hP hD hS hA [0, 1, 2] [] rfl (by decide) rfl (by decide) (by decide) [0, 1, 2] (by decide) (fun _ => rfl) 5 rfl rfl hl.1 rfl rfl (Nat.le_of_ble_eq_true rfl) ⟨Nat.zero_le _, Nat.zero_le _⟩ dX6_readNumber_96 (fun r_10 u_11 H locs hf hP hD hS => ?_)
            obtain ⟨hbr_10, hf⟩ := hf
            exact z_retMz (Wf := (fun z => cl_X6 cI cJ a z)) (u := u_11) X hbr_10 hf hP hD hS dX6_readNumber_99
          · have hf := hf.2 c_9
            refine lv_iload_n hx hb dX6_readNumber_85 rfl (lv_at hl 1 rfl) ?_
            refine lv_if_lt (tgt := 94) hx hb dX6_readNumber_86 (by decide) (fun c_12 => ?_) (fun c_12 => ?_)
            · have hf := hf.1 c_12
              refine lv_aload_n hx hb dX6_readNumber_94 rfl (lv_at hl 0 rfl) ?_
              refine lv_iload_n hx hb dX6_readNumber_95 rfl (lv_at hl 2 rfl) ?_
              refine z_mVi (Wn := (fun u_14 => cl_X6 cI cJ a u_14)) (As := [.int y2]) (rest := []) (wr := []) X (c_X6_isWrong l dC dI cI cJ cS a z y2 _ hf _) zc_X6_isWrong q_ml_X6_39 ⟨rfl, rfl⟩ ⟨Nat.le_of_ble_eq_true rfl, Nat.le_of_ble_eq_true rfl⟩ hP hD hS hA [0, 1, 2] [] rfl (by decide) rfl (by decide) (by decide) [0, 1, 2] (by decide) (fun _ => rfl) 5 rfl rfl hl.1 rfl rfl (Nat.le_of_ble_eq_true rfl) ⟨Nat.zero_le _, Nat.zero_le _⟩ dX6_readNumber_96 (fun r_13 u_14 H locs hf hP hD hS => ?_)
              obtain ⟨hbr_13, hf⟩ := hf
              exact z_retMz (Wf := (fun z => cl_X6 cI cJ a z)) (u := u_14) X hbr_13 hf hP hD hS dX6_readNumber_99
            · have hf := hf.2 c_12
              refine lv_iload_n hx hb dX6_readNumber_89 rfl (lv_at hl 1 rfl) ?_
              refine lv_iconst (v := 4) hx hb dX6_readNumber_90 (by decide) ?_
              refine lv_icmp_lt (tgt := 100) hx hb dX6_readNumber_91 (by decide) (fun c_15 => ?_) (fun c_15 => ?_)
              · have hf := hf.1 c_15
                refine lv_aload_n hx hb dX6_readNumber_100 rfl (lv_at hl 0 rfl) ?_
                refine va_get (D := (dC, dI)) (ci := 5) (v := .ref (a 2)) (C := RX6) (T := TX6) (N := 7) hx hb hts inX6 hown hK hP 0 rfl rfl 1 (by decide) (hts _ q_fl_X6_15) (fun _ h9 => h9) rfl dX6_readNumber_101 ?_
                refine lv_iload_n hx hb dX6_readNumber_104 rfl (lv_at hl 1 rfl) ?_
                refine lv_iload_n hx hb dX6_readNumber_105 rfl (lv_at hl 3 rfl) ?_
                obtain ⟨hg, hf⟩ := hf
                refine z_iast (Wn := fun f_16 => cl_X6 cI cJ a (z.1, f_16, z.2.2.1, z.2.2.2.1, z.2.2.2.2.1, z.2.2.2.2.2.1, z.2.2.2.2.2.2)) X hP hD hS 2 0 rfl rfl hg (fun _ => rfl) dX6_readNumber_106 (fun f_16 H locs ef_16 hP hD hS => ?_)
                have hf := hf f_16 ef_16
                refine lv_iconst (v := 1) hx hb dX6_readNumber_107 (by decide) ?_
                exact z_retMz (Wf := (fun z => cl_X6 cI cJ a z)) (u := (z.1, f_16, z.2.2.1, z.2.2.2.1, z.2.2.2.2.1, z.2.2.2.2.2.1, z.2.2.2.2.2.2)) X (Or.inr rfl) hf hP hD hS dX6_readNumber_108
              · have hf := hf.2 c_15
                refine lv_aload_n hx hb dX6_readNumber_94 rfl (lv_at hl 0 rfl) ?_
                refine lv_iload_n hx hb dX6_readNumber_95 rfl (lv_at hl 2 rfl) ?_
                refine z_mVi (Wn := (fun u_18 => cl_X6 cI cJ a u_18)) (As := [.int y2]) (rest := []) (wr := []) X (c_X6_isWrong l dC dI cI cJ cS a z y2 _ hf _) zc_X6_isWrong q_ml_X6_39 ⟨rfl, rfl⟩ ⟨Nat.le_of_ble_eq_true rfl, Nat.le_of_ble_eq_true rfl⟩ hP hD hS hA [0, 1, 2] [] rfl (by decide) rfl (by decide) (by decide) [0, 1, 2] (by decide) (fun _ => rfl) 5 rfl rfl hl.1 rfl rfl (Nat.le_of_ble_eq_true rfl) ⟨Nat.zero_le _, Nat.zero_le _⟩ dX6_readNumber_96 (fun r_17 u_18 H locs hf hP hD hS => ?_)
                obtain ⟨hbr_17, hf⟩ := hf
                exact z_retMz (Wf := (fun z => cl_X6 cI cJ a z)) (u := u_18) X hbr_17 hf hP hD hS dX6_readNumber_99
      · have hf := hf.2 c_3
        refine lv_aload_n hx hb dX6_readNumber_18 rfl (lv_at hl 0 rfl) ?_
        refine z_cVi (As := []) (rest := []) X (c_X6_isDigit l dC dI cI cJ cS a z  _ hf) zc_X6_isDigit q_ml_X6_99 ⟨rfl, rfl⟩ ⟨Nat.le_of_ble_eq_true rfl, Nat.le_of_ble_eq_true rfl⟩ hP [0, 1, 2] rfl 5 rfl rfl hl.1 rfl rfl (Nat.le_of_ble_eq_true rfl) ⟨Nat.zero_le _, Nat.zero_le _⟩ dX6_readNumber_19 (fun r_19 hf => ?_)
        obtain ⟨hbr_19, hf⟩ := hf
        refine lv_if_eq (tgt := 65) hx hb dX6_readNumber_22 (by decide) (fun c_20 => ?_) (fun c_20 => ?_)
        · have hf := hf.1 c_20
          refine lv_aload_n hx hb dX6_readNumber_65 rfl (lv_at hl 0 rfl) ?_
          refine va_get (D := (dC, dI)) (ci := 5) (v := .int z.2.2.2.1) (C := RX6) (T := TX6) (N := 7) hx hb hts inX6 hown hK hP 0 rfl rfl 3 (by decide) (hts _ q_fl_X6_26) (fun _ h9 => h9) rfl dX6_readNumber_66 ?_
          refine lv_iload_n hx hb dX6_readNumber_69 rfl (lv_at hl 2 rfl) ?_
          refine lv_icmp_eq (tgt := 94) hx hb dX6_readNumber_70 (by decide) (fun c_21 => ?_) (fun c_21 => ?_)
          · have hf := hf.1 c_21
            refine lv_aload_n hx hb dX6_readNumber_94 rfl (lv_at hl 0 rfl) ?_
            refine lv_iload_n hx hb dX6_readNumber_95 rfl (lv_at hl 2 rfl) ?_
            refine z_mVi (Wn := (fun u_23 => cl_X6 cI cJ a u_23)) (As := [.int y2]) (rest := []) (wr := []) X (c_X6_isWrong l dC dI cI cJ cS a z y2 _ hf _) zc_X6_isWrong q_ml_X6_39 ⟨rfl, rfl⟩ ⟨Nat.le_of_ble_eq_true rfl, Nat.le_of_ble_eq_true rfl⟩ hP hD hS hA [0, 1, 2] [] rfl (by decide) rfl (by decide) (by decide) [0, 1, 2] (by decide) (fun _ => rfl) 5 rfl rfl hl.1 rfl rfl (Nat.le_of_ble_eq_true rfl) ⟨Nat.zero_le _, Nat.zero_le _⟩ dX6_readNumber_96 (fun r_22 u_23 H locs hf hP hD hS => ?_)
            obtain ⟨hbr_22, hf⟩ := hf
            exact z_retMz (Wf := (fun z => cl_X6 cI cJ a z)) (u := u_23) X hbr_22 hf hP hD hS dX6_readNumber_99
          · have hf := hf.2 c_21
            refine lv_aload_n hx hb dX6_readNumber_73 rfl (lv_at hl 0 rfl) ?_
            refine va_get (D := (dC, dI)) (ci := 5) (v := .int z.2.2.2.2.1) (C := RX6) (T := TX6) (N := 7) hx hb hts inX6 hown hK hP 0 rfl rfl 4 (by decide) (hts _ q_fl_X6_56) (fun _ h9 => h9) rfl dX6_readNumber_74 ?_
            refine lv_iload_n hx hb dX6_readNumber_77 rfl (lv_at hl 1 rfl) ?_
            refine lv_iload_n hx hb dX6_readNumber_78 rfl (lv_at hl 3 rfl) ?_
            obtain ⟨k_24, i_25, ek_24, ei_25, lk_24, li_25, hf⟩ := hf
            refine z_jSN (A := A) (F := zBd) (As := [.int (nI k_24), .int (nI i_25), .int y3]) (rest := []) X.1 fro_Bd ⟨hF.1.2.2.2.2.1, hF.1.2.2.2.2.2⟩ hS (c_X10_mayBe l k_24 i_25 lk_24 li_25 y3) zc_X10_mayBe hF.2.2.1 ⟨rfl, rfl⟩ ⟨Nat.le_of_ble_eq_true rfl, Nat.le_of_ble_eq_true rfl⟩ hl.1 rfl (by rw [ek_24, ei_25]; rfl) (Nat.le_of_ble_eq_true rfl) ⟨Nat.zero_le _, Nat.zero_le _⟩ dX6_readNumber_79 ?_
            refine lv_if_eq (tgt := 94) hx hb dX6_readNumber_82 (by decide) (fun c_26 => ?_) (fun c_26 => ?_)
            · have hf := hf.1 c_26
              refine lv_aload_n hx hb dX6_readNumber_94 rfl (lv_at hl 0 rfl) ?_
              refine lv_iload_n hx hb dX6_readNumber_95 rfl (lv_at hl 2 rfl) ?_
              refine z_mVi (Wn := (fun u_28 => cl_X6 cI cJ a u_28)) (As := [.int y2]) (rest := []) (wr := []) X (c_X6_isWrong l dC dI cI cJ cS a z y2 _ hf _) zc_X6_isWrong q_ml_X6_39 ⟨rfl, rfl⟩ ⟨Nat.le_of_ble_eq_true rfl, Nat.le_of_ble_eq_true rfl⟩ hP hD hS hA [0, 1, 2] [] rfl (by decide) rfl (by decide) (by decide) [0, 1, 2] (by decide) (fun _ => rfl) 5 rfl rfl hl.1 rfl rfl (Nat.le_of_ble_eq_true rfl) ⟨Nat.zero_le _, Nat.zero_le _⟩ dX6_readNumber_96 (fun r_27 u_28 H locs hf hP hD hS => ?_)
              obtain ⟨hbr_27, hf⟩ := hf
              exact z_retMz (Wf := (fun z => cl_X6 cI cJ a z)) (u := u_28) X hbr_27 hf hP hD hS dX6_readNumber_99
            · have hf := hf.2 c_26
              refine lv_iload_n hx hb dX6_readNumber_85 rfl (lv_at hl 1 rfl) ?_
              refine lv_if_lt (tgt := 94) hx hb dX6_readNumber_86 (by decide) (fun c_29 => ?_) (fun c_29 => ?_)
              · have hf := hf.1 c_29
                refine lv_aload_n hx hb dX6_readNumber_94 rfl (lv_at hl 0 rfl) ?_
                refine lv_iload_n hx hb dX6_readNumber_95 rfl (lv_at hl 2 rfl) ?_
                refine z_mVi (Wn := (fun u_31 => cl_X6 cI cJ a u_31)) (As := [.int y2]) (rest := []) (wr := []) X (c_X6_isWrong l dC dI cI cJ cS a z y2 _ hf _) zc_X6_isWrong q_ml_X6_39 ⟨rfl, rfl⟩ ⟨Nat.le_of_ble_eq_true rfl, Nat.le_of_ble_eq_true rfl⟩ hP hD hS hA [0, 1, 2] [] rfl (by decide) rfl (by decide) (by decide) [0, 1, 2] (by decide) (fun _ => rfl) 5 rfl rfl hl.1 rfl rfl (Nat.le_of_ble_eq_true rfl) ⟨Nat.zero_le _, Nat.zero_le _⟩ dX6_readNumber_96 (fun r_30 u_31 H locs hf hP hD hS => ?_)
                obtain ⟨hbr_30, hf⟩ := hf
                exact z_retMz (Wf := (fun z => cl_X6 cI cJ a z)) (u := u_31) X hbr_30 hf hP hD hS dX6_readNumber_99
              · have hf := hf.2 c_29
                refine lv_iload_n hx hb dX6_readNumber_89 rfl (lv_at hl 1 rfl) ?_
                refine lv_iconst (v := 4) hx hb dX6_readNumber_90 (by decide) ?_
                refine lv_icmp_lt (tgt := 100) hx hb dX6_readNumber_91 (by decide) (fun c_32 => ?_) (fun c_32 => ?_)
                · have hf := hf.1 c_32
                  refine lv_aload_n hx hb dX6_readNumber_100 rfl (lv_at hl 0 rfl) ?_
                  refine va_get (D := (dC, dI)) (ci := 5) (v := .ref (a 2)) (C := RX6) (T := TX6) (N := 7) hx hb hts inX6 hown hK hP 0 rfl rfl 1 (by decide) (hts _ q_fl_X6_15) (fun _ h9 => h9) rfl dX6_readNumber_101 ?_
                  refine lv_iload_n hx hb dX6_readNumber_104 rfl (lv_at hl 1 rfl) ?_
                  refine lv_iload_n hx hb dX6_readNumber_105 rfl (lv_at hl 3 rfl) ?_
                  obtain ⟨hg, hf⟩ := hf
                  refine z_iast (Wn := fun f_33 => cl_X6 cI cJ a (z.1, f_33, z.2.2.1, z.2.2.2.1, z.2.2.2.2.1, z.2.2.2.2.2.1, z.2.2.2.2.2.2)) X hP hD hS 2 0 rfl rfl hg (fun _ => rfl) dX6_readNumber_106 (fun f_33 H locs ef_33 hP hD hS => ?_)
                  have hf := hf f_33 ef_33
                  refine lv_iconst (v := 1) hx hb dX6_readNumber_107 (by decide) ?_
                  exact z_retMz (Wf := (fun z => cl_X6 cI cJ a z)) (u := (z.1, f_33, z.2.2.1, z.2.2.2.1, z.2.2.2.2.1, z.2.2.2.2.2.1, z.2.2.2.2.2.2)) X (Or.inr rfl) hf hP hD hS dX6_readNumber_108
                · have hf := hf.2 c_32
                  refine lv_aload_n hx hb dX6_readNumber_94 rfl (lv_at hl 0 rfl) ?_
                  refine lv_iload_n hx hb dX6_readNumber_95 rfl (lv_at hl 2 rfl) ?_
                  refine z_mVi (Wn := (fun u_35 => cl_X6 cI cJ a u_35)) (As := [.int y2]) (rest := []) (wr := []) X (c_X6_isWrong l dC dI cI cJ cS a z y2 _ hf _) zc_X6_isWrong q_ml_X6_39 ⟨rfl, rfl⟩ ⟨Nat.le_of_ble_eq_true rfl, Nat.le_of_ble_eq_true rfl⟩ hP hD hS hA [0, 1, 2] [] rfl (by decide) rfl (by decide) (by decide) [0, 1, 2] (by decide) (fun _ => rfl) 5 rfl rfl hl.1 rfl rfl (Nat.le_of_ble_eq_true rfl) ⟨Nat.zero_le _, Nat.zero_le _⟩ dX6_readNumber_96 (fun r_34 u_35 H locs hf hP hD hS => ?_)
                  obtain ⟨hbr_34, hf⟩ := hf
                  exact z_retMz (Wf := (fun z => cl_X6 cI cJ a z)) (u := u_35) X hbr_34 hf hP hD hS dX6_readNumber_99
        · have hf := hf.2 c_20
          refine lv_aload_n hx hb dX6_readNumber_25 rfl (lv_at hl 0 rfl) ?_
          refine va_get (D := (dC, dI)) (ci := 5) (v := .int z.2.2.2.1) (C := RX6) (T := TX6) (N := 7) hx hb hts inX6 hown hK hP 0 rfl rfl 3 (by decide) (hts _ q_fl_X6_26) (fun _ h9 => h9) rfl dX6_readNumber_26 ?_
          refine lv_iload_n hx hb dX6_readNumber_29 rfl (lv_at hl 2 rfl) ?_
          refine lv_isub hx hb dX6_readNumber_30 ?_
          refine lv_iconst (v := 3) hx hb dX6_readNumber_31 (by decide) ?_
          refine lv_icmp_ge (tgt := 50) hx hb dX6_readNumber_32 (by decide) (fun c_36 => ?_) (fun c_36 => ?_)
          · have hf := hf.1 c_36
            refine lv_iconst (v := (-1)) hx hb dX6_readNumber_50 (by decide) ?_
            refine lv_istore_n (lv' := [(3, .int (-1 : Int32)), (0, .ref (a 0)), (1, .int x1), (2, .int y2)]) hx hb dX6_readNumber_51 rfl hl (by decide) rfl (fun ls hl => ?_)
            refine lv_aload_n hx hb dX6_readNumber_52 rfl (lv_at hl 1 rfl) ?_
            refine lv_dup hx hb dX6_readNumber_53 rfl ?_
            refine va_get (D := (dC, dI)) (ci := 5) (v := .int z.2.2.2.1) (C := RX6) (T := TX6) (N := 7) hx hb hts inX6 hown hK hP 0 rfl rfl 3 (by decide) (hts _ q_fl_X6_26) (fun _ h9 => h9) rfl dX6_readNumber_54 ?_
            refine lv_iconst (v := 1) hx hb dX6_readNumber_57 (by decide) ?_
            refine lv_iadd hx hb dX6_readNumber_58 ?_
            refine lv_topi (fun x_37 ex_37 => ?_)
            have hf := hf x_37 ex_37
            refine z_put (w' := cl_X6 cI cJ a (z.1, z.2.1, z.2.2.1, x_37, z.2.2.2.2.1, z.2.2.2.2.2.1, z.2.2.2.2.2.2)) (ci := 5) (v := .int x_37) (ty := .int) (Cn := RX6) (T := TX6) (N := 7) X inX6 tyX6 tyX6_ok nmX6 hP hD hS 0 rfl rfl 3 (by decide) (hts _ q_fl_X6_26) (fun _ h9 => h9) rfl (tyX6_ok 3 (by decide)) rfl rfl (Nat.le_of_ble_eq_true rfl) rfl dX6_readNumber_59 (fun H locs hP hD hS => ?_)
            refine lv_goto (tgt := 7) hx hb dX6_readNumber_62 (by decide) ?_
            obtain ⟨k_38, hk_38, hf⟩ := hf
            exact (ih k_38 hk_38) _ _ (z.1, z.2.1, z.2.2.1, x_37, z.2.2.2.2.1, z.2.2.2.2.2.1, z.2.2.2.2.2.2) _ _ ls hf hP hD hS (lv_sub hl [1, 2, 3, 0] rfl)
          · have hf := hf.2 c_36
            refine lv_bipush (v := 10) hx hb dX6_readNumber_35 (by decide) ?_
            refine lv_iload_n hx hb dX6_readNumber_37 rfl (lv_at hl 3 rfl) ?_
            refine lv_imul hx hb dX6_readNumber_38 ?_
            refine lv_aload_n hx hb dX6_readNumber_39 rfl (lv_at hl 0 rfl) ?_
            refine z_cVi (As := []) (rest := [.int ((10 : Int32) * y3)]) X (c_X6_here l dC dI cI cJ cS a z  _ hf) zc_X6_here q_ml_X6_35 ⟨rfl, rfl⟩ ⟨Nat.le_of_ble_eq_true rfl, Nat.le_of_ble_eq_true rfl⟩ hP [0, 1, 2] rfl 5 rfl rfl hl.1 rfl rfl (Nat.le_of_ble_eq_true rfl) ⟨Nat.zero_le _, Nat.zero_le _⟩ dX6_readNumber_40 (fun r_39 hf => ?_)
            refine lv_iadd hx hb dX6_readNumber_43 ?_
            refine lv_bipush (v := 48) hx hb dX6_readNumber_44 (by decide) ?_
            refine lv_isub hx hb dX6_readNumber_46 ?_
            refine lv_goto (tgt := 51) hx hb dX6_readNumber_47 (by decide) ?_
            refine lv_topi (fun x_40 ex_40 => ?_)
            have hf := hf x_40 ex_40
            refine lv_istore_n (lv' := [(3, .int x_40), (0, .ref (a 0)), (1, .int x1), (2, .int y2)]) hx hb dX6_readNumber_51 rfl hl (by decide) rfl (fun ls hl => ?_)
            refine lv_aload_n hx hb dX6_readNumber_52 rfl (lv_at hl 1 rfl) ?_
            refine lv_dup hx hb dX6_readNumber_53 rfl ?_
            refine va_get (D := (dC, dI)) (ci := 5) (v := .int z.2.2.2.1) (C := RX6) (T := TX6) (N := 7) hx hb hts inX6 hown hK hP 0 rfl rfl 3 (by decide) (hts _ q_fl_X6_26) (fun _ h9 => h9) rfl dX6_readNumber_54 ?_
            refine lv_iconst (v := 1) hx hb dX6_readNumber_57 (by decide) ?_
            refine lv_iadd hx hb dX6_readNumber_58 ?_
            refine lv_topi (fun x_41 ex_41 => ?_)
            have hf := hf x_41 ex_41
            refine z_put (w' := cl_X6 cI cJ a (z.1, z.2.1, z.2.2.1, x_41, z.2.2.2.2.1, z.2.2.2.2.2.1, z.2.2.2.2.2.2)) (ci := 5) (v := .int x_41) (ty := .int) (Cn := RX6) (T := TX6) (N := 7) X inX6 tyX6 tyX6_ok nmX6 hP hD hS 0 rfl rfl 3 (by decide) (hts _ q_fl_X6_26) (fun _ h9 => h9) rfl (tyX6_ok 3 (by decide)) rfl rfl (Nat.le_of_ble_eq_true rfl) rfl dX6_readNumber_59 (fun H locs hP hD hS => ?_)
            refine lv_goto (tgt := 7) hx hb dX6_readNumber_62 (by decide) ?_
            obtain ⟨k_42, hk_42, hf⟩ := hf
            exact (ih k_42 hk_42) _ _ (z.1, z.2.1, z.2.2.1, x_41, z.2.2.2.2.1, z.2.2.2.2.2.1, z.2.2.2.2.2.2) _ _ ls hf hP hD hS (lv_sub hl [1, 2, 3, 0] rfl)
  unfold t_X6_readNumber_e at hf
  refine lv_aload_n hx hb dX6_readNumber_0 rfl (lv_at hl 0 rfl) ?_
  refine va_get (D := (dC, dI)) (ci := 5) (v := .int u.2.2.2.1) (C := RX6) (T := TX6) (N := 7) hx hb hts inX6 hown hK hP 0 rfl rfl 3 (by decide) (hts _ q_fl_X6_26) (fun _ h9 => h9) rfl dX6_readNumber_1 ?_
  refine lv_topi (fun x_1 ex_1 => ?_)
  have hf := hf x_1 ex_1
  refine lv_istore_n (lv' := [(2, .int x_1), (0, .ref (a 0)), (1, .int x1)]) hx hb dX6_readNumber_4 rfl hl (by decide) rfl (fun ls hl => ?_)
  refine lv_iconst (v := 0) hx hb dX6_readNumber_5 (by decide) ?_
  refine lv_istore_n (lv' := [(3, .int (0 : Int32)), (2, .int x_1), (0, .ref (a 0)), (1, .int x1)]) hx hb dX6_readNumber_6 rfl hl (by decide) rfl (fun ls hl => ?_)
  obtain ⟨k_2, hf⟩ := hf
  exact (LP k_2) _ _ u _ _ ls hf hP hD hS (lv_sub hl [2, 3, 1, 0] rfl)
theorem digit6 {u : zTape} {N p : Nat} {Q : Int32 → Prop} (h : tTx u N p) (h1 : p < N → isDg u.1 p = true → Q 1) (h0 : ¬ (p < N ∧ isDg u.1 p = true) → Q 0) : s_X6_isDigit u Q := by
  refine here6 h (fun hp => ⟨fun c => h0 (fun z => (of_decide_eq_true z.2).1 c), fun c => here6 h (fun _ => ⟨fun d => h0 (fun z => (of_decide_eq_true z.2).2 d), fun d => h1 hp (decide_eq_true ⟨c, d⟩)⟩) (fun z => absurd hp z)⟩) (fun hp => ⟨fun _ => h0 (fun z => hp z.1), fun c => absurd (by decide) c⟩)
def rnT (x1 y2 y3 : Int32) (z : zTape) (Q : Int32 → zTape → Prop) : Prop := ((z.2.2.2.1 = y2 → s_X6_isWrong z y2 (fun (r_5 : Int32) (u_6 : zTape) => Q r_5 u_6)) ∧ (¬ z.2.2.2.1 = y2 → (∃ k_7 i_8 : Nat, z.2.2.2.2.1 = nI k_7 ∧ x1 = nI i_8 ∧ k_7 < 10 ∧ i_8 < 4 ∧ (((if inR y3 (nLo k_7 i_8) (nHi k_7 i_8) then (1 : Int32) else 0) = 0 → s_X6_isWrong z y2 (fun (r_10 : Int32) (u_11 : zTape) => Q r_10 u_11)) ∧ (¬ (if inR y3 (nLo k_7 i_8) (nHi k_7 i_8) then (1 : Int32) else 0) = 0 → ((x1 < 0 → s_X6_isWrong z y2 (fun (r_13 : Int32) (u_14 : zTape) => Q r_13 u_14)) ∧ (¬ x1 < 0 → ((x1 < (4 : Int32) → vp_in x1 4 ∧ ∀ f_16 : Nat → Int32, f_16 = upd z.2.1 x1.toNatClampNeg y3 → Q (1 : Int32) (z.1, f_16, z.2.2.1, z.2.2.2.1, z.2.2.2.2.1, z.2.2.2.2.2.1, z.2.2.2.2.2.2)) ∧ (¬ x1 < (4 : Int32) → s_X6_isWrong z y2 (fun (r_17 : Int32) (u_18 : zTape) => Q r_17 u_18))))))))))
def s_X6_readNumber (u : zTape) (x1 : Int32) (Q : Int32 → zTape → Prop) : Prop := ∃ N p k i : Nat, tTx u N p ∧ pSk u.1 N p = p ∧ k < 10 ∧ i < 4 ∧ u.2.2.2.2.1 = nI k ∧ x1 = nI i ∧ (nmOk u.1 N (nLo k i) (nHi k i) p = true → Q 1 (u.1, upd u.2.1 i (nmV u.1 N p), u.2.2.1, nI (nmE u.1 N p), u.2.2.2.2.1, u.2.2.2.2.2.1, u.2.2.2.2.2.2)) ∧ (nmOk u.1 N (nLo k i) (nHi k i) p = false → Q 0 (u.1, u.2.1, u.2.2.1, nI (nmE u.1 N p), u.2.2.2.2.1, u.2.2.2.2.2.1, nI p))
theorem nLo_pos (k i : Nat) : (-1 : Int32) < nLo k i := by
  unfold nLo
  split <;> decide
theorem st_X6_readNumber {u : zTape} {x1 : Int32} {Q : Int32 → zTape → Prop} (h : s_X6_readNumber u x1 Q) : v_X6_readNumber u x1 Q := by
  obtain ⟨N, p, k, i, ht, hs, hk, hi, ek, rfl, h1, h0⟩ := h
  have hN := ht.1
  have hp := ht.2.1
  have eb : nmB u.1 N p = p := hs
  have fin : ∀ q : Nat, p ≤ q → q ≤ N → nmE u.1 N p = q → rnT (nI i) (nI p) (if q - p ≤ 3 then pV u.1 p (q - p) else -1) (tAt u (nI q)) Q := by
    intro q hpq hqN eq
    have eok : ∀ b : Bool, decide (1 ≤ q - p ∧ q - p ≤ 3 ∧ inR (pV u.1 p (q - p)) (nLo k i) (nHi k i)) = b → nmOk u.1 N (nLo k i) (nHi k i) p = b := fun b hb => by
      unfold nmOk nmV
      rw [eb, eq]; exact hb
    have ev : nmV u.1 N p = pV u.1 p (q - p) := by unfold nmV; rw [eb, eq]
    have bad : decide (1 ≤ q - p ∧ q - p ≤ 3 ∧ inR (pV u.1 p (q - p)) (nLo k i) (nHi k i)) = false → Q 0 (u.1, u.2.1, u.2.2.1, nI q, u.2.2.2.2.1, u.2.2.2.2.2.1, nI p) := fun hb => by
      have := h0 (eok _ hb)
      rw [eq] at this
      exact this
    refine ⟨fun c => bad (decide_eq_false (fun z => ?_)), fun c => ⟨k, i, ek, rfl, hk, hi, fun d => bad (decide_eq_false (fun z => ?_)), fun d => ⟨fun e => absurd e (nI_pos (by omega)), fun _ => ⟨fun _ => ⟨vp_in_nI hi (by decide), fun f ef => ?_⟩, fun e => absurd (nI_lt (b := 4) hi (by decide)) e⟩⟩⟩⟩
    · have c : nI q = nI p := c
      have := (nI_eq (by omega) (by omega)).mp c
      omega
    · rw [if_pos z.2.1, if_pos z.2.2] at d
      exact absurd d (by decide)
    · have hne : ¬ q = p := fun z => c (by rw [z]; rfl)
      have hin : inR (if q - p ≤ 3 then pV u.1 p (q - p) else -1) (nLo k i) (nHi k i) := by
        by_cases z : inR (if q - p ≤ 3 then pV u.1 p (q - p) else -1) (nLo k i) (nHi k i)
        · exact z
        · rw [if_neg z] at d; exact absurd rfl d
      have h3 : q - p ≤ 3 := by
        by_cases z : q - p ≤ 3
        · exact z
        · rw [if_neg z] at hin
          exact absurd (nLo_pos k i) hin.1
      rw [if_pos h3] at hin
      have := h1 (eok true (decide_eq_true ⟨by omega, h3, hin⟩))
      rw [ev, eq] at this
      rw [if_pos h3, nI_clamp (by omega)] at ef
      rw [ef]
      exact this
  refine ⟨fun n y2 y3 z => ∃ q : Nat, p ≤ q ∧ q ≤ N ∧ n = N - q ∧ y2 = nI p ∧ y3 = (if q - p ≤ 3 then pV u.1 p (q - p) else -1) ∧ z = tAt u (nI q) ∧ nmE u.1 N p = pRun (isDg u.1) N q, ?_, ?_⟩
  · rintro n y2 y3 z ⟨q, hpq, hqN, rfl, rfl, rfl, rfl, er⟩
    have stop : ¬ (q < N ∧ isDg u.1 q = true) → nmE u.1 N p = q := fun c => er.trans (pRun_no c)
    refine ⟨fun c => ?_, fun c => digit6 (ht.at hqN) (fun hl hd => ⟨fun z => absurd z (by decide), fun _ => ?_⟩) (fun hn => ⟨fun _ => fin q hpq hqN (stop hn), fun z => absurd rfl z⟩)⟩
    · have c : u.2.2.1 ≤ nI q := c
      rw [ht.2.2.1] at c
      have := (nI_leI (by omega) (by omega)).mp c
      exact fin q hpq hqN (stop (fun z => by omega))
    · have ers := er.trans (pRun_yes hl hd)
      show ((3 : Int32) ≤ nI q - nI p → _) ∧ (¬ (3 : Int32) ≤ nI q - nI p → _)
      rw [lN_subI hpq]
      refine ⟨fun d x ex => ⟨N - (q + 1), by omega, q + 1, by omega, hl, rfl, rfl, ?_, ?_, ers⟩, fun d => here6 (ht.at hqN) (fun _ x40 e40 x ex => ⟨N - (q + 1), by omega, q + 1, by omega, hl, rfl, rfl, ?_, ?_, ers⟩) (fun z => absurd hl z)⟩
      · have := (nI_leI (a := 3) (b := q - p) (by decide) (by omega)).mp d
        rw [if_neg (by omega)]
      · have ex : x = nI q + 1 := ex
        rw [ex, nI_1]; rfl
      · have d3 : ¬ 3 ≤ q - p := fun z => d (nI_le (a := 3) z (by omega))
        rw [if_pos (show q - p ≤ 3 by omega)] at e40
        rw [if_pos (show q + 1 - p ≤ 3 by omega), e40, show q + 1 - p = (q - p) + 1 by omega]
        show _ = ((10 : Int32) * pV u.1 p (q - p) + u.1 (p + (q - p))) - 48
        rw [show p + (q - p) = q by omega]
        rfl
      · have ex : x = nI q + 1 := ex
        rw [ex, nI_1]; rfl
  · intro x ex
    refine ⟨N - p, p, Nat.le_refl _, hp, rfl, ex.trans ht.2.2.2, ?_, ?_, ?_⟩
    · rw [Nat.sub_self]; rfl
    · show u = tAt u (nI p)
      rw [← ht.2.2.2]; rfl
    · unfold nmE
      rw [eb]
theorem c_X6_readNumber (l : Launch) (dC : Nat → ClassId) (dI : Nat → Nat → Nat) (cI cJ cS : ClassId) (a : Nat → Nat) (u : zTape) (x1 : Int32) (Q : Int32 → zTape → Prop) (hf : s_X6_readNumber u x1 Q) : ∀ sz : Nat, Met l yX6_readNumber (Cond.code yX6_readNumber cX6_readNumber 4 (some .boolean) :: zT) rm_X6_readNumber (zPmF zFy dC dI cI cJ cS (cl_X6 cI cJ a u) [.ref (a 0), .int x1] sz) (va_Qi (fun r u => (r = 0 ∨ r = 1) ∧ Q r u) (zB dC dI cI cJ cS (va_A (cl_X6 cI cJ a u) sz) (fun z => cl_X6 cI cJ a z)) (va_A (cl_X6 cI cJ a u) sz)) 0 0 (va_A (cl_X6 cI cJ a u) sz) := by
  obtain ⟨I7, h7, hf⟩ := st_X6_readNumber hf
  exact L_X6_readNumber l dC dI cI cJ cS a u x1 Q I7 h7 hf
