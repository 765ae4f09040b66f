/-! the memory -/
theorem zc_X3_latest : zCalV RX3 yX3_latest cX3_latest 1 (some (.object "AsideStore$State")) 0 := ⟨q_im_X3_latest, q_se_X3_latest, q_in_X3, q_cd_X3_latest, ⟨by decide, by decide, by decide +kernel⟩, rfl⟩
theorem zc_X3_remember : zCalV RX3 yX3_remember cX3_remember 3 none 1 := ⟨q_im_X3_remember, q_se_X3_remember, q_in_X3, q_cd_X3_remember, ⟨by decide, by decide, by decide +kernel⟩, rfl⟩
theorem zc_X3_takeBack : zCalV RX3 yX3_takeBack cX3_takeBack 3 (some .boolean) 1 := ⟨q_im_X3_takeBack, q_se_X3_takeBack, q_in_X3, q_cd_X3_takeBack, ⟨by decide, by decide, by decide +kernel⟩, rfl⟩
abbrev rm_X3_remember : Room := { frames := 3, cells := 0, slots := 0, locals := 90 }
abbrev rm_X3_takeBack : Room := { frames := 3, cells := 0, slots := 0, locals := 90 }
/-- which slot is the latest -/
def slK (f n : Nat) : Nat := (f + n + 7) % 8
theorem slK_lt (f n : Nat) : slK f n < 8 := Nat.mod_lt _ (by decide)
theorem rem8 {x : Nat} (h : x < 2 ^ 31) : nI x - nI x / (8 : Int32) * (8 : Int32) = nI (x % 8) := fa_rem (k := 3) h (by decide)
section X3S
variable {p : Program} {l : Launch} {e : Env} {R : Room} {s : State} {m : MethodId} {args : Array Value} {below : List Frame} {meth : Method} {c : Code} {H : Heap} {locs : List Loc} {cells slots : Nat} {Q : State → Prop} {dC : Nat → ClassId} {dI : Nat → Nat → Nat} {cI cJ cS : ClassId}
  {cc : ByteArray} {nL : Nat} {own C : String} {pc : Nat} {ls : Array Slot} {A : Nat → Prop} {y : MethodName} {bytes : ByteArray} {maxL idx n : Nat} {ret ret0 : Option FieldType} {rm : Room} {b : Nat} {As rest st : List Value} {w wc wr : va_W} {o : Option Value}
/-- a reader with one answer, called on the world as it is -/
theorem z_wVo (X : zX p s m args meth c cc nL ret0 own dC dI cI cJ cS) (hM : Met l y (Cond.code y bytes maxL ret :: zT) rm (zPp dC dI cI cJ cS wc (.ref b :: As)) (zRv o) 0 0 (fun _ => False)) (hG : zCalV C y bytes maxL ret n) (hml : Cond.methodLink own idx y ∈ zT) (hrm : rm.cells = 0 ∧ rm.slots = 0) (hR : rm.frames + 1 ≤ R.frames ∧ 8 + (maxL + 11) + rm.locals ≤ R.locals)
    (hPc : va_P (dC, dI) vwCl wc H) (ci : Nat) {T : u_T} {N : Nat} (hc : vwCl[ci]? = some (C, T, N)) {fs : List Value} (he : wc[0]? = some (b, .inr (ci, fs))) (hl : ls.size = nL) (hn : As.length = n) (hst : st = As.reverse ++ .ref b :: rest) (hroom : (rest.map fun v => v.category).sum ≤ 8) (hcs : cells ≤ R.cells ∧ slots ≤ R.slots) (hdg : decode cc pc = .ok (.invokevirtual idx, 3))
    (kk : W p l e R s m args below meth c H locs cells slots Q (F0 m (pc + 3) ls (o.toList ++ rest))) : W p l e R s m args below meth c H locs cells slots Q (F0 m pc ls st) :=
  z_callJ (W.runV (g := F0 m pc ls st) X.1 hM (cwV n X.1.2.2.2.2 (hG.good hml) rfl hrm.1 hrm.2 ⟨hG.2.2.2.2.2, hG.2.2.2.2.1⟩ hR) ⟨zPp_blind, va_recv X.2.2.2 hPc hc he, fun U hU hW => ⟨rfl, by rw [hU]; exact hPc, va_K.moved hW.alike X.2.2.2⟩⟩ rfl hn hl hst (lv_room (rest := st) hroom) hdg hcs) kk
end X3S
theorem c_X3_latest (l : Launch) (dC : Nat → ClassId) (dI : Nat → Nat → Nat) (cI cJ cS : ClassId) (a : Nat → Nat) (g : Nat → zState) (f n : Nat) (hf : f < 8) (hn : n ≤ 8) : Met l yX3_latest (Cond.code yX3_latest cX3_latest 1 (some (.object "AsideStore$State")) :: zT) (rm_J 0 0) (zPp dC dI cI cJ cS (cl_X3 cI cJ cS a (g, nI f, nI n)) [.ref (a 0)]) (zRv (some (.ref (a (2 + 15 * slK f n))))) 0 0 (fun _ => False) := by
  refine z_enterP (cc := cX3_latest) (maxL := 1) (ret := some (.object "AsideStore$State")) (by decide) (Nat.le_of_ble_eq_true rfl) ?_
  intro p e s m below meth c ls X hP hl
  obtain ⟨⟨hx, hb, hml, hown, hts⟩, hr, hlk, hK⟩ := id X
  have hl : lv_has ls 1 [(0, .ref (a 0))] := hl
  have hk := slK_lt f n
  refine lv_aload_n hx hb dX3_latest_0 rfl (lv_at hl 0 rfl) ?_
  refine va_get (D := (dC, dI)) (ci := 2) (v := .ref (a 1)) (C := RX3) (T := TX3) (N := 3) hx hb hts inX3 hown hK hP 0 rfl rfl 0 (by decide) (hts _ q_fl_X3_11) (fun _ h9 => h9) rfl dX3_latest_1 ?_
  refine lv_aload_n hx hb dX3_latest_4 rfl (lv_at hl 0 rfl) ?_
  refine va_get (D := (dC, dI)) (ci := 2) (v := .int (nI f)) (C := RX3) (T := TX3) (N := 3) hx hb hts inX3 hown hK hP 0 rfl rfl 1 (by decide) (hts _ q_fl_X3_22) (fun _ h9 => h9) rfl dX3_latest_5 ?_
  refine lv_aload_n hx hb dX3_latest_8 rfl (lv_at hl 0 rfl) ?_
  refine va_get (D := (dC, dI)) (ci := 2) (v := .int (nI n)) (C := RX3) (T := TX3) (N := 3) hx hb hts inX3 hown hK hP 0 rfl rfl 2 (by decide) (hts _ q_fl_X3_18) (fun _ h9 => h9) rfl dX3_latest_9 ?_
  refine lv_iadd hx hb dX3_latest_12 ?_
  refine lv_bipush (v := 8) hx hb dX3_latest_13 (by decide) ?_
  refine lv_iadd hx hb dX3_latest_15 ?_
  refine lv_iconst (v := 1) hx hb dX3_latest_16 (by decide) ?_
  refine lv_isub hx hb dX3_latest_17 ?_
  have e1 : nI f + nI n + 8 - 1 = nI (f + n + 7) := by
    rw [nI_add, show (8 : Int32) = nI 8 from rfl, nI_add, show f + n + 8 = (f + n + 7) + 1 by omega, nI_pred]
  rw [e1]
  refine lv_bipush (v := 8) hx hb dX3_latest_18 (by decide) ?_
  refine lv_irem hx hb dX3_latest_20 (by decide) ?_
  rw [rem8 (by omega)]
  have ec : (nI ((f + n + 7) % 8)).toNatClampNeg = slK f n := nI_clamp (by have : (f + n + 7) % 8 < 8 := hk; omega)
  refine va_aldq (C := "AsideStore$State") hx hb hK hP 1 2 rfl rfl (vp_in_nI hk (by decide)) dX3_latest_21 ?_
  rw [ec]
  exact W.aret hx hb hr (Or.inl ⟨_, rfl⟩) (Or.inr ⟨_, rfl⟩) (fun t ht hW => ⟨rfl, ht⟩) (fun _ h => by cases h) dX3_latest_22 hlk
/-- two worlds, the first with a slot taken out -/
theorem pm_s (w r sl b : va_W) (h : w.Perm (r ++ sl)) : (w ++ b).Perm (r ++ (sl ++ b)) := by
  rw [← List.append_assoc]
  exact List.Perm.append_right b h
theorem pm_sr (w r sl b : va_W) (h : w.Perm (r ++ sl)) : (w ++ b).Perm (r ++ (b ++ sl)) := (pm_s w r sl b h).trans (List.Perm.append_left r List.perm_append_comm)
/-- one more is remembered -/
def mRem (u : zMem) (f n : Nat) (v : zState) : zMem := if n = 8 then (updS u.1 f v, nI ((f + 1) % 8), nI 8) else (updS u.1 ((f + n) % 8) v, nI f, nI (n + 1))
def s_X3_remember (u : zMem) (v : zState) (Q : zMem × zState → Prop) : Prop := ∃ f n : Nat, f < 8 ∧ n ≤ 8 ∧ u.2.1 = nI f ∧ u.2.2 = nI n ∧ Q (mRem u f n v, v)
set_option maxHeartbeats 4000000 in
set_option maxRecDepth 100000 in
theorem c_X3_remember (l : Launch) (dC : Nat → ClassId) (dI : Nat → Nat → Nat) (cI cJ cS : ClassId) (a : Nat → Nat) (b : Nat → Nat) (u : zMem) (v : zState) (Q : zMem × zState → Prop) (hf : s_X3_remember u v Q) : ∀ sz : Nat, Met l yX3_remember (Cond.code yX3_remember cX3_remember 3 none :: zT) rm_X3_remember (zPm dC dI cI cJ cS (cl_X3 cI cJ cS a u ++ cl_X5 cI cJ b v) [.ref (a 0), .ref (b 0)] sz) (va_Qv Q (zB dC dI cI cJ cS (va_A (cl_X3 cI cJ cS a u ++ cl_X5 cI cJ b v) sz) (fun z => cl_X3 cI cJ cS a z.1 ++ cl_X5 cI cJ b z.2)) (va_A (cl_X3 cI cJ cS a u ++ cl_X5 cI cJ b v) sz)) 0 0 (va_A (cl_X3 cI cJ cS a u ++ cl_X5 cI cJ b v) sz) := by
  intro sz
  refine z_enterM (Qc := fun A => va_Qv Q (zB dC dI cI cJ cS A (fun z => cl_X3 cI cJ cS a z.1 ++ cl_X5 cI cJ b z.2)) A) (cc := cX3_remember) (maxL := 3) (ret := none) (by decide) (Nat.le_of_ble_eq_true rfl) ?_
  intro p e s m below meth c ls A X hP hD hS hA hl
  obtain ⟨⟨hx, hb, hml, hown, hts⟩, hr, hlk, hK⟩ := id X
  have hl : lv_has ls 3 [(0, .ref (a 0)), (1, .ref (b 0))] := hl
  obtain ⟨f, n, hf8, hn8, e1, e2, hQ⟩ := hf
  obtain ⟨g, uf, un⟩ := u
  have e1 : uf = nI f := e1
  have e2 : un = nI n := e2
  subst e1
  subst e2
  have tail : ∀ (f n : Nat), f < 8 → n ≤ 8 → Q ((updS g (slK f n) v, nI f, nI n), v) → ∀ (H : Heap) (locs : List Loc), va_P (dC, dI) vwCl (cl_X3 cI cJ cS a (g, nI f, nI n) ++ cl_X5 cI cJ b v) H → va_D A (cl_X3 cI cJ cS a (g, nI f, nI n) ++ cl_X5 cI cJ b v) → va_S A s.heap H locs → W p l e rm_X3_remember s m [Value.ref (a 0), .ref (b 0)].toArray below meth c H locs 0 0 (MQ below (va_Qv Q (zB dC dI cI cJ cS A (fun z => cl_X3 cI cJ cS a z.1 ++ cl_X5 cI cJ b z.2)) A) [Value.ref (a 0), .ref (b 0)].toArray s 0 0 A) (F0 m 35 ls []) := by
    intro f n hf8 hn8 hq H locs hP hD hS
    have hk := slK_lt f n
    refine lv_aload_n hx hb dX3_remember_35 rfl (lv_at hl 0 rfl) ?_
    refine z_wVo (As := []) (rest := []) X (c_X3_latest l dC dI cI cJ cS a g f n hf8 hn8) zc_X3_latest q_ml_X3_25 ⟨rfl, rfl⟩ ⟨Nat.le_of_ble_eq_true rfl, Nat.le_of_ble_eq_true rfl⟩ hP.l 2 rfl rfl hl.1 rfl rfl (Nat.le_of_ble_eq_true rfl) ⟨Nat.zero_le _, Nat.zero_le _⟩ dX3_remember_36 ?_
    refine lv_astore_n (lv' := [(2, .ref (a (2 + 15 * slK f n))), (0, .ref (a 0)), (1, .ref (b 0))]) hx hb dX3_remember_39 rfl hl (by decide) rfl (fun ls hl => ?_)
    refine lv_aload_n hx hb dX3_remember_40 rfl (lv_at hl 0 rfl) ?_
    refine lv_ifnull hx hb dX3_remember_41 ?_
    refine lv_aload_n hx hb dX3_remember_44 rfl (lv_at hl 0 rfl) ?_
    refine lv_aload_n hx hb dX3_remember_45 rfl (lv_at hl 2 rfl) ?_
    refine z_pVv (Wn := fun (z : zState × zState) => cl_X3 cI cJ cS a (updS g (slK f n) z.1, nI f, nI n) ++ cl_X5 cI cJ b z.2) (As := [.ref (b 0)]) (rest := []) (wr := rr_X3 cI cJ cS a (g, nI f, nI n) (slK f n)) X (c_X5_copyFrom l dC dI cI cJ cS (fun j => a (2 + (15 * slK f n + j))) b (g (slK f n)) v (fun z => Q ((updS g (slK f n) z.1, nI f, nI n), z.2)) hq _) zc_X5_copyFrom q_ml_X3_29 ⟨rfl, rfl⟩ ⟨Nat.le_of_ble_eq_true rfl, Nat.le_of_ble_eq_true rfl⟩ hP hD hS hA (pm_s _ _ _ _ (pm_X3 cI cJ cS a (g, nI f, nI n) (slK f n) hk)) (fun z => pm_s _ _ _ _ (pm_X3u cI cJ cS a (g, nI f, nI n) (slK f n) hk z.1)) 4 rfl rfl hl.1 rfl rfl (Nat.le_of_ble_eq_true rfl) ⟨Nat.zero_le _, Nat.zero_le _⟩ dX3_remember_46 (fun z H locs hq hP hD hS => ?_)
    exact z_retMv (Wf := fun z => cl_X3 cI cJ cS a z.1 ++ cl_X5 cI cJ b z.2) (u := ((updS g (slK f n) z.1, nI f, nI n), z.2)) X hq hP hD hS dX3_remember_49
  refine lv_aload_n hx hb dX3_remember_0 rfl (lv_at hl 0 rfl) ?_
  refine va_get (D := (dC, dI)) (ci := 2) (v := .int (nI n)) (C := RX3) (T := TX3) (N := 3) hx hb hts inX3 hown hK hP 0 rfl rfl 2 (by decide) (hts _ q_fl_X3_18) (fun _ h9 => h9) rfl dX3_remember_1 ?_
  refine lv_bipush (v := 8) hx hb dX3_remember_4 (by decide) ?_
  unfold mRem at hQ
  refine lv_icmp_ne (tgt := 25) hx hb dX3_remember_6 (by decide) (fun c8 => ?_) (fun c8 => ?_)
  · have hn : ¬ n = 8 := fun z => c8 (by rw [z]; rfl)
    rw [if_neg hn] at hQ
    refine lv_aload_n hx hb dX3_remember_25 rfl (lv_at hl 0 rfl) ?_
    refine lv_dup hx hb dX3_remember_26 rfl ?_
    refine va_get (D := (dC, dI)) (ci := 2) (v := .int (nI n)) (C := RX3) (T := TX3) (N := 3) hx hb hts inX3 hown hK hP 0 rfl rfl 2 (by decide) (hts _ q_fl_X3_18) (fun _ h9 => h9) rfl dX3_remember_27 ?_
    refine lv_iconst (v := 1) hx hb dX3_remember_30 (by decide) ?_
    refine lv_iadd hx hb dX3_remember_31 ?_
    rw [nI_1]
    refine z_put (w' := cl_X3 cI cJ cS a (g, nI f, nI (n + 1)) ++ cl_X5 cI cJ b v) (ci := 2) (v := .int (nI (n + 1))) (ty := .int) (Cn := RX3) (T := TX3) (N := 3) X inX3 tyX3 tyX3_ok nmX3 hP hD hS 0 rfl rfl 2 (by decide) (hts _ q_fl_X3_18) (fun _ h9 => h9) rfl (tyX3_ok 2 (by decide)) rfl rfl (Nat.le_of_ble_eq_true rfl) rfl dX3_remember_32 (fun H locs hP hD hS => ?_)
    have ek : slK f (n + 1) = (f + n) % 8 := by unfold slK; omega
    refine tail f (n + 1) hf8 (by omega) ?_ H locs hP hD hS
    rw [ek]; exact hQ
  · have hn : n = 8 := (nI_eq (by omega) (by decide)).mp (show nI n = nI 8 from c8)
    subst hn
    rw [if_pos rfl] at hQ
    refine lv_aload_n hx hb dX3_remember_9 rfl (lv_at hl 0 rfl) ?_
    refine lv_aload_n hx hb dX3_remember_10 rfl (lv_at hl 0 rfl) ?_
    refine va_get (D := (dC, dI)) (ci := 2) (v := .int (nI f)) (C := RX3) (T := TX3) (N := 3) hx hb hts inX3 hown hK hP 0 rfl rfl 1 (by decide) (hts _ q_fl_X3_22) (fun _ h9 => h9) rfl dX3_remember_11 ?_
    refine lv_iconst (v := 1) hx hb dX3_remember_14 (by decide) ?_
    refine lv_iadd hx hb dX3_remember_15 ?_
    rw [nI_1]
    refine lv_bipush (v := 8) hx hb dX3_remember_16 (by decide) ?_
    refine lv_irem hx hb dX3_remember_18 (by decide) ?_
    rw [rem8 (by omega)]
    refine z_put (w' := cl_X3 cI cJ cS a (g, nI ((f + 1) % 8), nI 8) ++ cl_X5 cI cJ b v) (ci := 2) (v := .int (nI ((f + 1) % 8))) (ty := .int) (Cn := RX3) (T := TX3) (N := 3) X inX3 tyX3 tyX3_ok nmX3 hP hD hS 0 rfl rfl 1 (by decide) (hts _ q_fl_X3_22) (fun _ h9 => h9) rfl (tyX3_ok 1 (by decide)) rfl rfl (Nat.le_of_ble_eq_true rfl) rfl dX3_remember_19 (fun H locs hP hD hS => ?_)
    refine lv_goto (tgt := 35) hx hb dX3_remember_22 (by decide) ?_
    have ek : slK ((f + 1) % 8) 8 = f := by unfold slK; omega
    refine tail ((f + 1) % 8) 8 (Nat.mod_lt _ (by decide)) (by omega) ?_ H locs hP hD hS
    rw [ek]; exact hQ
/-- the latest one is taken back -/
def s_X3_takeBack (u : zMem) (v : zState) (Q : Int32 → zMem × zState → Prop) : Prop := ∃ f n : Nat, f < 8 ∧ n ≤ 8 ∧ u.2.1 = nI f ∧ u.2.2 = nI n ∧ (n = 0 → Q 0 (u, v)) ∧ (0 < n → Q 1 ((u.1, nI f, nI (n - 1)), u.1 (slK f n)))
set_option maxHeartbeats 4000000 in
set_option maxRecDepth 100000 in
theorem c_X3_takeBack (l : Launch) (dC : Nat → ClassId) (dI : Nat → Nat → Nat) (cI cJ cS : ClassId) (a : Nat → Nat) (b : Nat → Nat) (u : zMem) (v : zState) (Q : Int32 → zMem × zState → Prop) (hf : s_X3_takeBack u v Q) : ∀ sz : Nat, Met l yX3_takeBack (Cond.code yX3_takeBack cX3_takeBack 3 (some .boolean) :: zT) rm_X3_takeBack (zPm dC dI cI cJ cS (cl_X3 cI cJ cS a u ++ cl_X5 cI cJ b v) [.ref (a 0), .ref (b 0)] sz) (va_Qi (fun r u => (r = 0 ∨ r = 1) ∧ Q r u) (zB dC dI cI cJ cS (va_A (cl_X3 cI cJ cS a u ++ cl_X5 cI cJ b v) sz) (fun z => cl_X3 cI cJ cS a z.1 ++ cl_X5 cI cJ b z.2)) (va_A (cl_X3 cI cJ cS a u ++ cl_X5 cI cJ b v) sz)) 0 0 (va_A (cl_X3 cI cJ cS a u ++ cl_X5 cI cJ b v) sz) := by
  intro sz
  refine z_enterM (Qc := fun A => va_Qi (fun r u => (r = 0 ∨ r = 1) ∧ Q r u) (zB dC dI cI cJ cS A (fun z => cl_X3 cI cJ cS a z.1 ++ cl_X5 cI cJ b z.2)) A) (cc := cX3_takeBack) (maxL := 3) (ret := some .boolean) (by decide) (Nat.le_of_ble_eq_true rfl) ?_
  intro p e s m below meth c ls A X hP hD hS hA hl
  obtain ⟨⟨hx, hb, hml, hown, hts⟩, hr, hlk, hK⟩ := id X
  have hl : lv_has ls 3 [(0, .ref (a 0)), (1, .ref (b 0))] := hl
  obtain ⟨f, n, hf8, hn8, e1, e2, h0, h1⟩ := hf
  obtain ⟨g, uf, un⟩ := u
  have e1 : uf = nI f := e1
  have e2 : un = nI n := e2
  subst e1
  subst e2
  have hk := slK_lt f n
  refine lv_aload_n hx hb dX3_takeBack_0 rfl (lv_at hl 0 rfl) ?_
  refine z_wVo (As := []) (rest := []) X (c_X3_latest l dC dI cI cJ cS a g f n hf8 hn8) zc_X3_latest q_ml_X3_25 ⟨rfl, rfl⟩ ⟨Nat.le_of_ble_eq_true rfl, Nat.le_of_ble_eq_true rfl⟩ hP.l 2 rfl rfl hl.1 rfl rfl (Nat.le_of_ble_eq_true rfl) ⟨Nat.zero_le _, Nat.zero_le _⟩ dX3_takeBack_1 ?_
  refine lv_astore_n (lv' := [(2, .ref (a (2 + 15 * slK f n))), (0, .ref (a 0)), (1, .ref (b 0))]) hx hb dX3_takeBack_4 rfl hl (by decide) rfl (fun ls hl => ?_)
  refine lv_aload_n hx hb dX3_takeBack_5 rfl (lv_at hl 1 rfl) ?_
  refine va_get (D := (dC, dI)) (ci := 2) (v := .int (nI n)) (C := RX3) (T := TX3) (N := 3) hx hb hts inX3 hown hK hP 0 rfl rfl 2 (by decide) (hts _ q_fl_X3_18) (fun _ h9 => h9) rfl dX3_takeBack_6 ?_
  refine lv_if_eq (tgt := 16) hx hb dX3_takeBack_9 (by decide) (fun c0 => ?_) (fun c0 => ?_)
  · have hn0 : n = 0 := (nI_eq (by omega) (by decide)).mp (show nI n = nI 0 from c0)
    refine lv_iconst (v := 0) hx hb dX3_takeBack_16 (by decide) ?_
    exact z_retMz (Wf := fun z => cl_X3 cI cJ cS a z.1 ++ cl_X5 cI cJ b z.2) (u := ((g, nI f, nI n), v)) X (Or.inl rfl) (h0 hn0) hP hD hS dX3_takeBack_17
  · have hn0 : 0 < n := by
      by_cases z : n = 0
      · exact absurd (by rw [z]; rfl) c0
      · omega
    refine lv_aload_n hx hb dX3_takeBack_12 rfl (lv_at hl 0 rfl) ?_
    refine lv_ifnonnull (tgt := 18) hx hb dX3_takeBack_13 (by decide) ?_
    refine lv_aload_n hx hb dX3_takeBack_18 rfl (lv_at hl 2 rfl) ?_
    refine lv_aload_n hx hb dX3_takeBack_19 rfl (lv_at hl 0 rfl) ?_
    refine z_pVv (Wn := fun (z : zState × zState) => cl_X3 cI cJ cS a (updS g (slK f n) z.2, nI f, nI n) ++ cl_X5 cI cJ b z.1) (As := [.ref (a (2 + 15 * slK f n))]) (rest := []) (wr := rr_X3 cI cJ cS a (g, nI f, nI n) (slK f n)) X (c_X5_copyFrom l dC dI cI cJ cS b (fun j => a (2 + (15 * slK f n + j))) v (g (slK f n)) (fun z => z = (g (slK f n), g (slK f n))) rfl _) zc_X5_copyFrom q_ml_X3_29 ⟨rfl, rfl⟩ ⟨Nat.le_of_ble_eq_true rfl, Nat.le_of_ble_eq_true rfl⟩ hP hD hS hA (pm_sr _ _ _ _ (pm_X3 cI cJ cS a (g, nI f, nI n) (slK f n) hk)) (fun z => pm_sr _ _ _ _ (pm_X3u cI cJ cS a (g, nI f, nI n) (slK f n) hk z.2)) 4 rfl rfl hl.1 rfl rfl (Nat.le_of_ble_eq_true rfl) ⟨Nat.zero_le _, Nat.zero_le _⟩ dX3_takeBack_20 (fun z H locs hq hP hD hS => ?_)
    subst hq
    have eg : updS g (slK f n) (g (slK f n)) = g := funext fun i => by
      by_cases z : i = slK f n
      · rw [z, updS_eq]
      · rw [updS_ne z]
    dsimp only at hP hD
    rw [eg] at hP hD
    refine lv_aload_n hx hb dX3_takeBack_23 rfl (lv_at hl 1 rfl) ?_
    refine lv_dup hx hb dX3_takeBack_24 rfl ?_
    refine va_get (D := (dC, dI)) (ci := 2) (v := .int (nI n)) (C := RX3) (T := TX3) (N := 3) hx hb hts inX3 hown hK hP 0 rfl rfl 2 (by decide) (hts _ q_fl_X3_18) (fun _ h9 => h9) rfl dX3_takeBack_25 ?_
    refine lv_iconst (v := 1) hx hb dX3_takeBack_28 (by decide) ?_
    refine lv_isub hx hb dX3_takeBack_29 ?_
    have en : nI n - 1 = nI (n - 1) := by
      obtain ⟨k, rfl⟩ : ∃ k, n = k + 1 := ⟨n - 1, by omega⟩
      rw [nI_pred]; rfl
    rw [en]
    refine z_put (w' := cl_X3 cI cJ cS a (g, nI f, nI (n - 1)) ++ cl_X5 cI cJ b (g (slK f n))) (ci := 2) (v := .int (nI (n - 1))) (ty := .int) (Cn := RX3) (T := TX3) (N := 3) X inX3 tyX3 tyX3_ok nmX3 hP hD hS 0 rfl rfl 2 (by decide) (hts _ q_fl_X3_18) (fun _ h9 => h9) rfl (tyX3_ok 2 (by decide)) rfl rfl (Nat.le_of_ble_eq_true rfl) rfl dX3_takeBack_30 (fun H locs hP hD hS => ?_)
    refine lv_iconst (v := 1) hx hb dX3_takeBack_33 (by decide) ?_
    exact z_retMz (Wf := fun z => cl_X3 cI cJ cS a z.1 ++ cl_X5 cI cJ b z.2) (u := ((g, nI f, nI (n - 1)), g (slK f n))) X (Or.inr rfl) (h1 hn0) hP hD hS dX3_takeBack_34

def s_X3_forget (u : zMem) (Q : zMem → Prop) : Prop := Q (u.1, u.2.1, (0 : Int32))
theorem zc_X3_forget : zCalV RX3 yX3_forget cX3_forget 1 none 0 := ⟨q_im_X3_forget, q_se_X3_forget, q_in_X3, q_cd_X3_forget, ⟨by decide, by decide, by decide +kernel⟩, rfl⟩
abbrev rm_X3_forget : Room := { frames := 0, cells := 0, slots := 0, locals := 0 }
set_option maxHeartbeats 4000000 in
set_option maxRecDepth 100000 in
theorem c_X3_forget (l : Launch) (dC : Nat → ClassId) (dI : Nat → Nat → Nat) (cI cJ cS : ClassId) (a : Nat → Nat) (u : zMem) (Q : zMem → Prop) (hf : s_X3_forget u Q) : ∀ sz : Nat, Met l yX3_forget (Cond.code yX3_forget cX3_forget 1 none :: zT) rm_X3_forget (zPm dC dI cI cJ cS (cl_X3 cI cJ cS a u) [.ref (a 0)] sz) (va_Qv Q (zB dC dI cI cJ cS (va_A (cl_X3 cI cJ cS a u) sz) (fun z => cl_X3 cI cJ cS a z)) (va_A (cl_X3 cI cJ cS a u) sz)) 0 0 (va_A (cl_X3 cI cJ cS a u) sz) := by
  intro sz
  refine z_enterM (Qc := fun A => va_Qv Q (zB dC dI cI cJ cS A (fun z => cl_X3 cI cJ cS a z)) A) (cc := cX3_forget) (maxL := 1) (ret := none) (by decide) (Nat.le_of_ble_eq_true rfl) ?_
  intro p e s m below meth c ls A X hP hD hS hA hl
  obtain ⟨⟨hx, hb, hml, hown, hts⟩, hr, hlk, hK⟩ := id X
  have hl : lv_has ls 1 [(0, .ref (a 0))] := hl
  unfold s_X3_forget at hf
  refine lv_aload_n hx hb dX3_forget_0 rfl (lv_at hl 0 rfl) ?_
  refine lv_iconst (v := 0) hx hb dX3_forget_1 (by decide) ?_
  refine z_put (w' := cl_X3 cI cJ cS a (u.1, u.2.1, (0 : Int32))) (ci := 2) (v := .int (0 : Int32)) (ty := .int) (Cn := RX3) (T := TX3) (N := 3) X inX3 tyX3 tyX3_ok nmX3 hP hD hS 0 rfl rfl 2 (by decide) (hts _ q_fl_X3_18) (fun _ h9 => h9) rfl (tyX3_ok 2 (by decide)) rfl rfl (Nat.le_of_ble_eq_true rfl) rfl dX3_forget_2 (fun H locs hP hD hS => ?_)
  exact z_retMv (Wf := (fun z => cl_X3 cI cJ cS a z)) (u := (u.1, u.2.1, (0 : Int32))) X hf hP hD hS dX3_forget_5
