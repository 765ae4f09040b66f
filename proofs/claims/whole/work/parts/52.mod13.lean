def s_X11_isKey (x0 : Int32) (Q : Int32 → Prop) : Prop := s_X11_isIn x0 (0 : Int32) (63 : Int32) (fun r_1 : Int32 => Q r_1)
theorem zc_X11_isKey : zCalS yX11_isKey cX11_isKey 1 (some .boolean) 1 := ⟨q_st_X11_isKey, q_in_X11, q_cd_X11_isKey, ⟨by decide, by decide, by decide +kernel⟩⟩
abbrev rm_X11_isKey : Room := { frames := 1, cells := 0, slots := 0, locals := 22 }
set_option maxHeartbeats 4000000 in
set_option maxRecDepth 100000 in
theorem c_X11_isKey (l : Launch) (dC : Nat → ClassId) (dI : Nat → Nat → Nat) (cI cJ cS : ClassId) (x0 : Int32) (Q : Int32 → Prop) (hf : s_X11_isKey x0 Q) : Met l yX11_isKey (Cond.code yX11_isKey cX11_isKey 1 (some .boolean) :: zT) rm_X11_isKey (zPp dC dI cI cJ cS ([]) [.int x0]) (vp_Si (fun r => (r = 0 ∨ r = 1) ∧ Q r)) 0 0 (fun _ => False) := by
  refine z_enterP (cc := cX11_isKey) (maxL := 1) (ret := (some .boolean)) (by decide) (Nat.le_of_ble_eq_true rfl) ?_
  intro p e s m below meth c ls X hP hl
  obtain ⟨⟨hx, hb, hml, hown, hts⟩, hr, hlk, hK⟩ := id X
  have hl : lv_has ls 1 [(0, .int x0)] := hl
  unfold s_X11_isKey at hf
  refine lv_iload_n hx hb dX11_isKey_0 rfl (lv_at hl 0 rfl) ?_
  refine lv_iconst (v := 0) hx hb dX11_isKey_1 (by decide) ?_
  refine lv_bipush (v := 63) hx hb dX11_isKey_2 (by decide) ?_
  refine z_cSi (As := [.int x0, .int (0 : Int32), .int (63 : Int32)]) (rest := []) X (c_X11_isIn l dC dI cI cJ cS   x0 (0 : Int32) (63 : Int32) _ hf) zc_X11_isIn q_ml_X11_165 ⟨rfl, rfl⟩ ⟨Nat.le_of_ble_eq_true rfl, Nat.le_of_ble_eq_true rfl⟩ hP [] rfl hl.1 rfl rfl (Nat.le_of_ble_eq_true rfl) ⟨Nat.zero_le _, Nat.zero_le _⟩ dX11_isKey_4 (fun r_1 hf => ?_)
  obtain ⟨hbr_1, hf⟩ := hf
  exact z_retPz X hbr_1 hf dX11_isKey_7

def s_X11_isSegment (x0 : Int32) (Q : Int32 → Prop) : Prop := s_X11_isIn x0 (0 : Int32) (11 : Int32) (fun r_1 : Int32 => Q r_1)
theorem zc_X11_isSegment : zCalS yX11_isSegment cX11_isSegment 1 (some .boolean) 1 := ⟨q_st_X11_isSegment, q_in_X11, q_cd_X11_isSegment, ⟨by decide, by decide, by decide +kernel⟩⟩
abbrev rm_X11_isSegment : Room := { frames := 1, cells := 0, slots := 0, locals := 22 }
set_option maxHeartbeats 4000000 in
set_option maxRecDepth 100000 in
theorem c_X11_isSegment (l : Launch) (dC : Nat → ClassId) (dI : Nat → Nat → Nat) (cI cJ cS : ClassId) (x0 : Int32) (Q : Int32 → Prop) (hf : s_X11_isSegment x0 Q) : Met l yX11_isSegment (Cond.code yX11_isSegment cX11_isSegment 1 (some .boolean) :: zT) rm_X11_isSegment (zPp dC dI cI cJ cS ([]) [.int x0]) (vp_Si (fun r => (r = 0 ∨ r = 1) ∧ Q r)) 0 0 (fun _ => False) := by
  refine z_enterP (cc := cX11_isSegment) (maxL := 1) (ret := (some .boolean)) (by decide) (Nat.le_of_ble_eq_true rfl) ?_
  intro p e s m below meth c ls X hP hl
  obtain ⟨⟨hx, hb, hml, hown, hts⟩, hr, hlk, hK⟩ := id X
  have hl : lv_has ls 1 [(0, .int x0)] := hl
  unfold s_X11_isSegment at hf
  refine lv_iload_n hx hb dX11_isSegment_0 rfl (lv_at hl 0 rfl) ?_
  refine lv_iconst (v := 0) hx hb dX11_isSegment_1 (by decide) ?_
  refine lv_bipush (v := 11) hx hb dX11_isSegment_2 (by decide) ?_
  refine z_cSi (As := [.int x0, .int (0 : Int32), .int (11 : Int32)]) (rest := []) X (c_X11_isIn l dC dI cI cJ cS   x0 (0 : Int32) (11 : Int32) _ hf) zc_X11_isIn q_ml_X11_165 ⟨rfl, rfl⟩ ⟨Nat.le_of_ble_eq_true rfl, Nat.le_of_ble_eq_true rfl⟩ hP [] rfl hl.1 rfl rfl (Nat.le_of_ble_eq_true rfl) ⟨Nat.zero_le _, Nat.zero_le _⟩ dX11_isSegment_4 (fun r_1 hf => ?_)
  obtain ⟨hbr_1, hf⟩ := hf
  exact z_retPz X hbr_1 hf dX11_isSegment_7

def s_X11_isRun (u : zModel) (x1 : Int32) (Q : Int32 → Prop) : Prop := vp_in (4 : Int32) 5497 ∧ s_X11_isIn x1 (0 : Int32) ((u.2.1 (4 : Int32).toNatClampNeg) - (1 : Int32)) (fun r_1 : Int32 => Q r_1)
theorem zc_X11_isRun : zCalV RX11 yX11_isRun cX11_isRun 2 (some .boolean) 1 := ⟨q_im_X11_isRun, q_se_X11_isRun, q_in_X11, q_cd_X11_isRun, ⟨by decide, by decide, by decide +kernel⟩, rfl⟩
abbrev rm_X11_isRun : Room := { frames := 1, cells := 0, slots := 0, locals := 22 }
set_option maxHeartbeats 4000000 in
set_option maxRecDepth 100000 in
theorem c_X11_isRun (l : Launch) (dC : Nat → ClassId) (dI : Nat → Nat → Nat) (cI cJ cS : ClassId) (a : Nat → Nat) (u : zModel) (x1 : Int32) (Q : Int32 → Prop) (hf : s_X11_isRun u x1 Q) : Met l yX11_isRun (Cond.code yX11_isRun cX11_isRun 2 (some .boolean) :: zT) rm_X11_isRun (zPp dC dI cI cJ cS (cl_X11 cI cJ a u) [.ref (a 0), .int x1]) (vp_Si (fun r => (r = 0 ∨ r = 1) ∧ Q r)) 0 0 (fun _ => False) := by
  refine z_enterP (cc := cX11_isRun) (maxL := 2) (ret := (some .boolean)) (by decide) (Nat.le_of_ble_eq_true rfl) ?_
  intro p e s m below meth c ls X hP hl
  obtain ⟨⟨hx, hb, hml, hown, hts⟩, hr, hlk, hK⟩ := id X
  have hl : lv_has ls 2 [(0, .ref (a 0)), (1, .int x1)] := hl
  unfold s_X11_isRun at hf
  refine lv_iload_n hx hb dX11_isRun_0 rfl (lv_at hl 1 rfl) ?_
  refine lv_iconst (v := 0) hx hb dX11_isRun_1 (by decide) ?_
  refine lv_aload_n hx hb dX11_isRun_2 rfl (lv_at hl 0 rfl) ?_
  refine va_get (D := (dC, dI)) (ci := 10) (v := .ref (a 1)) (C := RX11) (T := TX11) (N := 17) hx hb hts inX11 hown hK hP 0 rfl rfl 1 (by decide) (hts _ q_fl_X11_7) (fun _ h9 => h9) rfl dX11_isRun_3 ?_
  refine lv_iconst (v := 4) hx hb dX11_isRun_6 (by decide) ?_
  obtain ⟨hg, hf⟩ := hf
  refine va_iald hx hb hK hP 1 0 rfl rfl hg dX11_isRun_7 ?_
  refine lv_iconst (v := 1) hx hb dX11_isRun_8 (by decide) ?_
  refine lv_isub hx hb dX11_isRun_9 ?_
  refine z_cSi (As := [.int x1, .int (0 : Int32), .int ((u.2.1 (4 : Int32).toNatClampNeg) - (1 : Int32))]) (rest := []) X (c_X11_isIn l dC dI cI cJ cS   x1 (0 : Int32) ((u.2.1 (4 : Int32).toNatClampNeg) - (1 : Int32)) _ hf) zc_X11_isIn q_ml_X11_165 ⟨rfl, rfl⟩ ⟨Nat.le_of_ble_eq_true rfl, Nat.le_of_ble_eq_true rfl⟩ hP [] rfl hl.1 rfl rfl (Nat.le_of_ble_eq_true rfl) ⟨Nat.zero_le _, Nat.zero_le _⟩ dX11_isRun_10 (fun r_1 hf => ?_)
  obtain ⟨hbr_1, hf⟩ := hf
  exact z_retPz X hbr_1 hf dX11_isRun_13

def s_X11_thrown (u : zModel) (Q : Int32 → Prop) : Prop := Q u.1
theorem zc_X11_thrown : zCalV RX11 yX11_thrown cX11_thrown 1 (some .int) 0 := ⟨q_im_X11_thrown, q_se_X11_thrown, q_in_X11, q_cd_X11_thrown, ⟨by decide, by decide, by decide +kernel⟩, rfl⟩
abbrev rm_X11_thrown : Room := { frames := 0, cells := 0, slots := 0, locals := 0 }
set_option maxHeartbeats 4000000 in
set_option maxRecDepth 100000 in
theorem c_X11_thrown (l : Launch) (dC : Nat → ClassId) (dI : Nat → Nat → Nat) (cI cJ cS : ClassId) (a : Nat → Nat) (u : zModel) (Q : Int32 → Prop) (hf : s_X11_thrown u Q) : Met l yX11_thrown (Cond.code yX11_thrown cX11_thrown 1 (some .int) :: zT) rm_X11_thrown (zPp dC dI cI cJ cS (cl_X11 cI cJ a u) [.ref (a 0)]) (vp_Si Q) 0 0 (fun _ => False) := by
  refine z_enterP (cc := cX11_thrown) (maxL := 1) (ret := (some .int)) (by decide) (Nat.le_of_ble_eq_true rfl) ?_
  intro p e s m below meth c ls X hP hl
  obtain ⟨⟨hx, hb, hml, hown, hts⟩, hr, hlk, hK⟩ := id X
  have hl : lv_has ls 1 [(0, .ref (a 0))] := hl
  unfold s_X11_thrown at hf
  refine lv_aload_n hx hb dX11_thrown_0 rfl (lv_at hl 0 rfl) ?_
  refine va_get (D := (dC, dI)) (ci := 10) (v := .int u.1) (C := RX11) (T := TX11) (N := 17) hx hb hts inX11 hown hK hP 0 rfl rfl 0 (by decide) (hts _ q_fl_X11_43) (fun _ h9 => h9) rfl dX11_thrown_1 ?_
  exact z_retPi X hf dX11_thrown_4

def s_X11_fault (u : zModel) (Q : Int32 → zModel → Prop) : Prop := Q u.2.2.2.2.2.2.2.2.2.2.2.2.2.1 ((0 : Int32), u.2)
theorem zc_X11_fault : zCalV RX11 yX11_fault cX11_fault 1 (some .int) 0 := ⟨q_im_X11_fault, q_se_X11_fault, q_in_X11, q_cd_X11_fault, ⟨by decide, by decide, by decide +kernel⟩, rfl⟩
abbrev rm_X11_fault : Room := { frames := 0, cells := 0, slots := 0, locals := 0 }
set_option maxHeartbeats 4000000 in
set_option maxRecDepth 100000 in
theorem c_X11_fault (l : Launch) (dC : Nat → ClassId) (dI : Nat → Nat → Nat) (cI cJ cS : ClassId) (a : Nat → Nat) (u : zModel) (Q : Int32 → zModel → Prop) (hf : s_X11_fault u Q) : ∀ sz : Nat, Met l yX11_fault (Cond.code yX11_fault cX11_fault 1 (some .int) :: zT) rm_X11_fault (zPm dC dI cI cJ cS (cl_X11 cI cJ a u) [.ref (a 0)] sz) (va_Qi Q (zB dC dI cI cJ cS (va_A (cl_X11 cI cJ a u) sz) (fun z => cl_X11 cI cJ a z)) (va_A (cl_X11 cI cJ a u) sz)) 0 0 (va_A (cl_X11 cI cJ a u) sz) := by
  intro sz
  refine z_enterM (Qc := fun A => va_Qi Q (zB dC dI cI cJ cS A (fun z => cl_X11 cI cJ a z)) A) (cc := cX11_fault) (maxL := 1) (ret := (some .int)) (by decide) (Nat.le_of_ble_eq_true rfl) ?_
  intro p e s m below meth c ls A X hP hD hS hA hl
  obtain ⟨⟨hx, hb, hml, hown, hts⟩, hr, hlk, hK⟩ := id X
  have hl : lv_has ls 1 [(0, .ref (a 0))] := hl
  unfold s_X11_fault at hf
  refine lv_aload_n hx hb dX11_fault_0 rfl (lv_at hl 0 rfl) ?_
  refine lv_iconst (v := 0) hx hb dX11_fault_1 (by decide) ?_
  refine z_put (w' := cl_X11 cI cJ a ((0 : Int32), u.2)) (ci := 10) (v := .int (0 : Int32)) (ty := .int) (Cn := RX11) (T := TX11) (N := 17) X inX11 tyX11 tyX11_ok nmX11 hP hD hS 0 rfl rfl 0 (by decide) (hts _ q_fl_X11_43) (fun _ h9 => h9) rfl (tyX11_ok 0 (by decide)) rfl rfl (Nat.le_of_ble_eq_true rfl) rfl dX11_fault_2 (fun H locs hP hD hS => ?_)
  refine lv_aload_n hx hb dX11_fault_5 rfl (lv_at hl 0 rfl) ?_
  refine va_get (D := (dC, dI)) (ci := 10) (v := .int u.2.2.2.2.2.2.2.2.2.2.2.2.2.1) (C := RX11) (T := TX11) (N := 17) hx hb hts inX11 hown hK hP 0 rfl rfl 13 (by decide) (hts _ q_fl_X11_29) (fun _ h9 => h9) rfl dX11_fault_6 ?_
  exact z_retMi (Wf := (fun z => cl_X11 cI cJ a z)) (u := ((0 : Int32), u.2)) X hf hP hD hS dX11_fault_9

def s_X11_why (u : zModel) (Q : Int32 → zModel → Prop) : Prop := Q u.2.2.2.2.2.2.2.2.1 ((0 : Int32), u.2)
theorem zc_X11_why : zCalV RX11 yX11_why cX11_why 1 (some .int) 0 := ⟨q_im_X11_why, q_se_X11_why, q_in_X11, q_cd_X11_why, ⟨by decide, by decide, by decide +kernel⟩, rfl⟩
abbrev rm_X11_why : Room := { frames := 0, cells := 0, slots := 0, locals := 0 }
set_option maxHeartbeats 4000000 in
set_option maxRecDepth 100000 in
theorem c_X11_why (l : Launch) (dC : Nat → ClassId) (dI : Nat → Nat → Nat) (cI cJ cS : ClassId) (a : Nat → Nat) (u : zModel) (Q : Int32 → zModel → Prop) (hf : s_X11_why u Q) : ∀ sz : Nat, Met l yX11_why (Cond.code yX11_why cX11_why 1 (some .int) :: zT) rm_X11_why (zPm dC dI cI cJ cS (cl_X11 cI cJ a u) [.ref (a 0)] sz) (va_Qi Q (zB dC dI cI cJ cS (va_A (cl_X11 cI cJ a u) sz) (fun z => cl_X11 cI cJ a z)) (va_A (cl_X11 cI cJ a u) sz)) 0 0 (va_A (cl_X11 cI cJ a u) sz) := by
  intro sz
  refine z_enterM (Qc := fun A => va_Qi Q (zB dC dI cI cJ cS A (fun z => cl_X11 cI cJ a z)) A) (cc := cX11_why) (maxL := 1) (ret := (some .int)) (by decide) (Nat.le_of_ble_eq_true rfl) ?_
  intro p e s m below meth c ls A X hP hD hS hA hl
  obtain ⟨⟨hx, hb, hml, hown, hts⟩, hr, hlk, hK⟩ := id X
  have hl : lv_has ls 1 [(0, .ref (a 0))] := hl
  unfold s_X11_why at hf
  refine lv_aload_n hx hb dX11_why_0 rfl (lv_at hl 0 rfl) ?_
  refine lv_iconst (v := 0) hx hb dX11_why_1 (by decide) ?_
  refine z_put (w' := cl_X11 cI cJ a ((0 : Int32), u.2)) (ci := 10) (v := .int (0 : Int32)) (ty := .int) (Cn := RX11) (T := TX11) (N := 17) X inX11 tyX11 tyX11_ok nmX11 hP hD hS 0 rfl rfl 0 (by decide) (hts _ q_fl_X11_43) (fun _ h9 => h9) rfl (tyX11_ok 0 (by decide)) rfl rfl (Nat.le_of_ble_eq_true rfl) rfl dX11_why_2 (fun H locs hP hD hS => ?_)
  refine lv_aload_n hx hb dX11_why_5 rfl (lv_at hl 0 rfl) ?_
  refine va_get (D := (dC, dI)) (ci := 10) (v := .int u.2.2.2.2.2.2.2.2.1) (C := RX11) (T := TX11) (N := 17) hx hb hts inX11 hown hK hP 0 rfl rfl 8 (by decide) (hts _ q_fl_X11_153) (fun _ h9 => h9) rfl dX11_why_6 ?_
  exact z_retMi (Wf := (fun z => cl_X11 cI cJ a z)) (u := ((0 : Int32), u.2)) X hf hP hD hS dX11_why_9

/-! what calls do, both for the class and for the reference: what is thrown (0: nothing), the answer, what is then -/
abbrev inR (x a b : Int32) : Prop := ¬ x < a ∧ ¬ b < x
theorem isIn_of {x a b : Int32} {Q : Int32 → Prop} (h1 : inR x a b → Q 1) (h0 : ¬ inR x a b → Q 0) : s_X11_isIn x a b Q := ⟨fun c => h0 (fun q => q.1 c), fun c => ⟨fun c2 => h0 (fun q => q.2 c2), fun c2 => h1 ⟨c, c2⟩⟩⟩
theorem inR_n {x : Int32} {a b : Nat} (hb : b < 2 ^ 31) (ha : a < 2 ^ 31) (h : inR x (nI a) (nI b)) : ∃ n : Nat, a ≤ n ∧ n ≤ b ∧ x = nI n ∧ x.toNatClampNeg = n := by
  have h0 : ¬ x < 0 := fun q => h.1 (by
    have := nI_pos' (n := a) ha
    exact fa_trans q this)
  obtain ⟨n, hn, rfl⟩ := nI_of h0
  refine ⟨n, ?_, ?_, rfl, nI_clamp hn⟩
  · have : ¬ n < a := fun q => h.1 (nI_lt q ha)
    omega
  · have : ¬ b < n := fun q => h.2 (nI_lt q hn)
    omega
theorem key_n {x : Int32} (h : inR x 0 63) : ∃ n : Nat, n < 64 ∧ x = nI n ∧ x.toNatClampNeg = n := by
  obtain ⟨n, -, h2, h3, h4⟩ := inR_n (a := 0) (b := 63) (by decide) (by decide) h
  exact ⟨n, by omega, h3, h4⟩
theorem seg_n {x : Int32} (h : inR x 0 11) : ∃ n : Nat, n < 12 ∧ x = nI n ∧ x.toNatClampNeg = n := by
  obtain ⟨n, -, h2, h3, h4⟩ := inR_n (a := 0) (b := 11) (by decide) (by decide) h
  exact ⟨n, by omega, h3, h4⟩
/-- what the reference has beside what is now and WHY -/
def mGr (G : zG) (u : zModel) : Prop := (gIs G = 1 → mRel (gKept G) u.2.2.2.2.1) ∧ u.2.2.2.2.2.2.2.1 = gIs G ∧ (u.2.2.2.2.2.2.1 = nI (gUnN G) ∧ mUn (gUn G) (gUnN G) u.2.2.2.2.2.1) ∧ (u.2.2.2.2.2.2.2.2.2.2.1 = nI (gTpN G) ∧ ∀ j, j < gTpN G → u.2.2.2.2.2.2.2.2.2.1 j = gTp G j) ∧ u.2.2.2.2.2.2.2.2.2.2.2.2.2.1 = gWr G
theorem mG.r {G : zG} {u : zModel} (h : mG G u) : mGr G u := ⟨h.2.1, h.2.2.1, h.2.2.2.1, h.2.2.2.2.1, h.2.2.2.2.2.1⟩
theorem mG.now {G : zG} {u : zModel} (h : mG G u) : mRel (gNow G) u.2.1 := h.1
theorem mG_of {G : zG} {u : zModel} (h1 : mRel (gNow G) u.2.1) (h2 : mGr G u) (h3 : u.2.2.2.2.2.2.2.2.1 = gWy G) : mG G u := ⟨h1, h2.1, h2.2.1, h2.2.2.1, h2.2.2.2.1, h2.2.2.2.2, h3⟩
theorem isDone_of {B : Nat} {G : zG} {w : zModel} {x1 x2 : Int32} {Q : Int32 → zModel → Prop} (hG : okG B G) (hr : mGr G w) (ha : mRel (gNow G) w.2.2.1) (hneg : ¬ x1 < 0) (h0 : x1 = 0 → ∃ v : zState, mRel v w.2.1 ∧ ∀ u' : zModel, mG (gAct G v) u' → u'.1 = 0 → u'.2.1 = w.2.1 → u'.2.2.2.2.2.2.2.2.2.2.2.2.2.2.2.2 = w.2.2.2.2.2.2.2.2.2.2.2.2.2.2.2.2 → Q 1 u') (h1 : ¬ x1 = 0 → ∀ u' : zModel, mG (gNo G x1) u' → u'.1 = x2 → Q 0 u') : s_X11_isDone w x1 x2 Q :=
  ⟨B, G, hG, hneg, hr.1, hr.2.1, hr.2.2.1, hr.2.2.2.1, hr.2.2.2.2, ha, h0, h1⟩
theorem mG.th {G : zG} {u : zModel} (h : mG G u) (x : Int32) : mG G (x, u.2) := h
/-- ENTER's number -/
theorem enter_num (u : zState) (k ln sd : Nat) : (uEnter u k ln sd).2.2.2.2.2.2.1 = u.2.2.2.2.2.2.1 + 1 := by
  show (uE2 (uE1 u k) (4 + nI ln)).2.2.2.2.2.2.1 + 1 = _
  have : (uE1 u k).2.2.2.2.2.2.1 = u.2.2.2.2.2.2.1 := by
    unfold uE1
    split
    · rfl
    · exact (uFlush_same u).2.2.2.1
  unfold uE2
  split <;> rw [← this]
def fPut (G : zG) (x1 x2 x3 : Int32) : Int32 × Int32 × zG := if inR x1 0 63 then (if inR x2 1 40 ∧ inR x3 0 255 then (if uFits (gNow G) (4 + x2) then (0, (gNow G).2.2.2.2.2.2.1 + 1, gAct G (uPut (gNow G) x1.toNatClampNeg x2.toNatClampNeg x3.toNatClampNeg)) else (3, 0, gNo G 1)) else (2, 0, G)) else (1, 0, G)
def fDrop (G : zG) (x1 : Int32) : Int32 × Int32 × zG := if inR x1 0 63 then (if uFits (gNow G) 4 then (if uVal (gNow G) x1.toNatClampNeg then (0, (gNow G).2.2.2.2.2.2.1 + 1, gAct G (uDrop (gNow G) x1.toNatClampNeg)) else (2, 0, gNo G 2)) else (2, 0, gNo G 1)) else (1, 0, G)
def uSync (v : zState) : zState := (v.1, v.2.1, v.2.2.1, v.2.2.2.1, v.2.2.2.2.1, v.2.2.2.2.2.1, v.2.2.2.2.2.2.1, v.2.2.2.2.2.2.1, v.2.2.2.2.2.2.2.2)
def fSync (G : zG) : Int32 × Int32 × zG := (0, (gNow G).2.2.2.2.2.2.1 - (gNow G).2.2.2.2.2.2.2.1, gAct G (uSync (gNow G)))
def fFlush (G : zG) : Int32 × Int32 × zG := (0, (uFlush (gNow G)).2.2.2.1.2.2, gAct G (uFlush (gNow G)))
def uMgN (v : zState) : Int32 := l_sum (fun i => v.2.2.2.1.2.1 (i + 1)) (rN v) - nI (zFoldN v.2.2.2.1 (rN v))
def fMerge (G : zG) : Int32 × Int32 × zG := (0, uMgN (gNow G), gAct G (uMerge (gNow G)))
def fCrash (G : zG) : Int32 × Int32 × zG := (0, nI (zGone (gNow G).2.2.1 (gNow G).2.2.2.2.2.2.2.1 12), gAct G (uCrash (gNow G)))
def fPick (G : zG) (x1 : Int32) : Int32 × Int32 × zG := if x1 = -1 ∨ inR x1 0 11 then (if uRp (gNow G) (uSel (gNow G) x1) = 0 then (0, nI (uNt (gNow G) (uSel (gNow G) x1).toNatClampNeg (cN (gNow G) (uSel (gNow G) x1).toNatClampNeg)).2, gAct G (uNote (gNow G) (uSel (gNow G) x1).toNatClampNeg)) else (2, 0, gNo G (uRp (gNow G) (uSel (gNow G) x1)))) else (1, 0, G)
def fStep (G : zG) (x1 : Int32) : Int32 × Int32 × zG := if inR x1 1 20 then (if uRst (gNow G) x1.toNatClampNeg = 0 then (0, nI (uCol x1.toNatClampNeg (gNow G)).1, gAct G (uCol x1.toNatClampNeg (gNow G)).2) else (2, 0, gNo G (uRst (gNow G) x1.toNatClampNeg))) else (1, 0, G)
def fQuit (G : zG) : Int32 × Int32 × zG := if (gNow G).2.2.2.2.1.2.1 = -1 then (1, 0, gNo G 5) else (0, (gNow G).2.2.2.2.1.2.2.1 - (gNow G).2.2.2.2.1.2.2.2, gAct G (uQuit (gNow G)))
def gUndo (G : zG) : zG := (gUn G (gUnN G - 1), gKept G, gIs G, gUn G, gUnN G - 1, gTp G, gTpN G, gWr G, gWy G)
def fUndo (G : zG) : Int32 × Int32 × zG := if gUnN G = 0 then (1, 0, G) else (0, nI (gUnN G - 1), gUndo G)
def gStore (G : zG) (v : zState) : zG := (v, gKept G, gIs G, gUn G, 0, gTp G, gTpN G, gWr G, 0)
def fStore (G : zG) (x1 x2 x3 x4 : Int32) : Int32 × Int32 × zG := if inR x1 50 200 ∧ inR x2 0 40 ∧ inR x3 2 16 ∧ inR x4 1 4 then (0, nI (uFree (uBegin (gNow G) x1 x2 x3 x4)), gStore G (uBegin (gNow G) x1 x2 x3 x4)) else (1, 0, G)
def fImage (G : zG) : zG := (gNow G, gNow G, 1, gUn G, gUnN G, gTp G, gTpN G, gWr G, gWy G)
def fBack (G : zG) : Int32 × zG := if gIs G = 0 then (0, G) else (1, (gKept G, gKept G, gIs G, gUn G, 0, gTp G, gTpN G, gWr G, gWy G))
def fEnd (G : zG) (x : Int32) : Int32 × zG := if inR x 0 (nI (gTpN G)) then (1, (gNow G, gKept G, gIs G, gUn G, gUnN G, gTp G, x.toNatClampNeg, gWr G, gWy G)) else (0, G)

def t_X11_store (u : zModel) (x1 : Int32) (x2 : Int32) (x3 : Int32) (x4 : Int32) (Q : Int32 → zModel → Prop) : Prop := s_X11_isIn x1 (50 : Int32) (200 : Int32) (fun r_1 : Int32 => ((r_1 = 0 → (((1 : Int32) ≤ 0 → s_X11_stores ((1 : Int32), u.2) x1 x2 x3 x4 (fun (u_5 : zModel) => s_X11_freeOnes (u_5.1, u_5.2.1, u_5.2.2.1, u_5.2.2.2.1, u_5.2.2.2.2.1, u_5.2.2.2.2.2.1, (0 : Int32), u_5.2.2.2.2.2.2.2.1, (0 : Int32), u_5.2.2.2.2.2.2.2.2.2) (fun r_6 : Int32 => Q r_6 (u_5.1, u_5.2.1, u_5.2.2.1, u_5.2.2.2.1, u_5.2.2.2.2.1, u_5.2.2.2.2.2.1, (0 : Int32), u_5.2.2.2.2.2.2.2.1, (0 : Int32), u_5.2.2.2.2.2.2.2.2.2)))) ∧ (¬ (1 : Int32) ≤ 0 → Q (0 : Int32) ((1 : Int32), u.2)))) ∧ (¬ r_1 = 0 → s_X11_isIn x2 (0 : Int32) (40 : Int32) (fun r_7 : Int32 => ((r_7 = 0 → (((1 : Int32) ≤ 0 → s_X11_stores ((1 : Int32), u.2) x1 x2 x3 x4 (fun (u_11 : zModel) => s_X11_freeOnes (u_11.1, u_11.2.1, u_11.2.2.1, u_11.2.2.2.1, u_11.2.2.2.2.1, u_11.2.2.2.2.2.1, (0 : Int32), u_11.2.2.2.2.2.2.2.1, (0 : Int32), u_11.2.2.2.2.2.2.2.2.2) (fun r_12 : Int32 => Q r_12 (u_11.1, u_11.2.1, u_11.2.2.1, u_11.2.2.2.1, u_11.2.2.2.2.1, u_11.2.2.2.2.2.1, (0 : Int32), u_11.2.2.2.2.2.2.2.1, (0 : Int32), u_11.2.2.2.2.2.2.2.2.2)))) ∧ (¬ (1 : Int32) ≤ 0 → Q (0 : Int32) ((1 : Int32), u.2)))) ∧ (¬ r_7 = 0 → s_X11_isIn x3 (2 : Int32) (16 : Int32) (fun r_13 : Int32 => ((r_13 = 0 → (((1 : Int32) ≤ 0 → s_X11_stores ((1 : Int32), u.2) x1 x2 x3 x4 (fun (u_17 : zModel) => s_X11_freeOnes (u_17.1, u_17.2.1, u_17.2.2.1, u_17.2.2.2.1, u_17.2.2.2.2.1, u_17.2.2.2.2.2.1, (0 : Int32), u_17.2.2.2.2.2.2.2.1, (0 : Int32), u_17.2.2.2.2.2.2.2.2.2) (fun r_18 : Int32 => Q r_18 (u_17.1, u_17.2.1, u_17.2.2.1, u_17.2.2.2.1, u_17.2.2.2.2.1, u_17.2.2.2.2.2.1, (0 : Int32), u_17.2.2.2.2.2.2.2.1, (0 : Int32), u_17.2.2.2.2.2.2.2.2.2)))) ∧ (¬ (1 : Int32) ≤ 0 → Q (0 : Int32) ((1 : Int32), u.2)))) ∧ (¬ r_13 = 0 → s_X11_isIn x4 (1 : Int32) (4 : Int32) (fun r_19 : Int32 => ((r_19 = 0 → (((1 : Int32) ≤ 0 → s_X11_stores ((1 : Int32), u.2) x1 x2 x3 x4 (fun (u_23 : zModel) => s_X11_freeOnes (u_23.1, u_23.2.1, u_23.2.2.1, u_23.2.2.2.1, u_23.2.2.2.2.1, u_23.2.2.2.2.2.1, (0 : Int32), u_23.2.2.2.2.2.2.2.1, (0 : Int32), u_23.2.2.2.2.2.2.2.2.2) (fun r_24 : Int32 => Q r_24 (u_23.1, u_23.2.1, u_23.2.2.1, u_23.2.2.2.1, u_23.2.2.2.2.1, u_23.2.2.2.2.2.1, (0 : Int32), u_23.2.2.2.2.2.2.2.1, (0 : Int32), u_23.2.2.2.2.2.2.2.2.2)))) ∧ (¬ (1 : Int32) ≤ 0 → Q (0 : Int32) ((1 : Int32), u.2)))) ∧ (¬ r_19 = 0 → (((0 : Int32) ≤ 0 → s_X11_stores ((0 : Int32), u.2) x1 x2 x3 x4 (fun (u_27 : zModel) => s_X11_freeOnes (u_27.1, u_27.2.1, u_27.2.2.1, u_27.2.2.2.1, u_27.2.2.2.2.1, u_27.2.2.2.2.2.1, (0 : Int32), u_27.2.2.2.2.2.2.2.1, (0 : Int32), u_27.2.2.2.2.2.2.2.2.2) (fun r_28 : Int32 => Q r_28 (u_27.1, u_27.2.1, u_27.2.2.1, u_27.2.2.2.1, u_27.2.2.2.2.1, u_27.2.2.2.2.2.1, (0 : Int32), u_27.2.2.2.2.2.2.2.1, (0 : Int32), u_27.2.2.2.2.2.2.2.2.2)))) ∧ (¬ (0 : Int32) ≤ 0 → Q (0 : Int32) ((0 : Int32), u.2)))))))))))))))
theorem zc_X11_store : zCalV RX11 yX11_store cX11_store 5 (some .int) 4 := ⟨q_im_X11_store, q_se_X11_store, q_in_X11, q_cd_X11_store, ⟨by decide, by decide, by decide +kernel⟩, rfl⟩
abbrev rm_X11_store : Room := { frames := 2, cells := 0, slots := 0, locals := 44 }
set_option maxHeartbeats 4000000 in
set_option maxRecDepth 100000 in
theorem L_X11_store (l : Launch) (dC : Nat → ClassId) (dI : Nat → Nat → Nat) (cI cJ cS : ClassId) (a : Nat → Nat) (u : zModel) (x1 : Int32) (x2 : Int32) (x3 : Int32) (x4 : Int32) (Q : Int32 → zModel → Prop) (hf : t_X11_store u x1 x2 x3 x4 Q) : ∀ sz : Nat, Met l yX11_store (Cond.code yX11_store cX11_store 5 (some .int) :: zT) rm_X11_store (zPm dC dI cI cJ cS (cl_X11 cI cJ a u) [.ref (a 0), .int x1, .int x2, .int x3, .int x4] sz) (va_Qi Q (zB dC dI cI cJ cS (va_A (cl_X11 cI cJ a u) sz) (fun z => cl_X11 cI cJ a z)) (va_A (cl_X11 cI cJ a u) sz)) 0 0 (va_A (cl_X11 cI cJ a u) sz) := by
  intro sz
  refine z_enterM (Qc := fun A => va_Qi Q (zB dC dI cI cJ cS A (fun z => cl_X11 cI cJ a z)) A) (cc := cX11_store) (maxL := 5) (ret := (some .int)) (by decide) (Nat.le_of_ble_eq_true rfl) ?_
  intro p e s m below meth c ls A X hP hD hS hA hl
  obtain ⟨⟨hx, hb, hml, hown, hts⟩, hr, hlk, hK⟩ := id X
  have hl : lv_has ls 5 [(0, .ref (a 0)), (1, .int x1), (2, .int x2), (3, .int x3), (4, .int x4)] := hl
  unfold t_X11_store at hf
  refine lv_aload_n hx hb dX11_store_0 rfl (lv_at hl 0 rfl) ?_
  refine lv_iload_n hx hb dX11_store_1 rfl (lv_at hl 1 rfl) ?_
  refine lv_bipush (v := 50) hx hb dX11_store_2 (by decide) ?_
  refine lv_sipush (v := 200) hx hb dX11_store_4 (by decide) ?_
  refine z_cSi (As := [.int x1, .int (50 : Int32), .int (200 : Int32)]) (rest := [.ref (a 0)]) X (c_X11_isIn l dC dI cI cJ cS   x1 (50 : Int32) (200 : Int32) _ hf) zc_X11_isIn q_ml_X11_165 ⟨rfl, rfl⟩ ⟨Nat.le_of_ble_eq_true rfl, Nat.le_of_ble_eq_true rfl⟩ hP [] rfl hl.1 rfl rfl (Nat.le_of_ble_eq_true rfl) ⟨Nat.zero_le _, Nat.zero_le _⟩ dX11_store_7 (fun r_1 hf => ?_)
  obtain ⟨hbr_1, hf⟩ := hf
  refine lv_if_eq (tgt := 47) hx hb dX11_store_10 (by decide) (fun c_2 => ?_) (fun c_2 => ?_)
  · have hf := hf.1 c_2
    refine lv_iconst (v := 1) hx hb dX11_store_47 (by decide) ?_
    refine z_put (w' := cl_X11 cI cJ a ((1 : Int32), u.2)) (ci := 10) (v := .int (1 : Int32)) (ty := .int) (Cn := RX11) (T := TX11) (N := 17) X inX11 tyX11 tyX11_ok nmX11 hP hD hS 0 rfl rfl 0 (by decide) (hts _ q_fl_X11_43) (fun _ h9 => h9) rfl (tyX11_ok 0 (by decide)) rfl rfl (Nat.le_of_ble_eq_true rfl) rfl dX11_store_48 (fun H locs hP hD hS => ?_)
    refine lv_aload_n hx hb dX11_store_51 rfl (lv_at hl 0 rfl) ?_
    refine va_get (D := (dC, dI)) (ci := 10) (v := .int (1 : Int32)) (C := RX11) (T := TX11) (N := 17) hx hb hts inX11 hown hK hP 0 rfl rfl 0 (by decide) (hts _ q_fl_X11_43) (fun _ h9 => h9) rfl dX11_store_52 ?_
    refine lv_if_le (tgt := 60) hx hb dX11_store_55 (by decide) (fun c_3 => ?_) (fun c_3 => ?_)
    · have hf := hf.1 c_3
      refine lv_aload_n hx hb dX11_store_60 rfl (lv_at hl 0 rfl) ?_
      refine lv_iload_n hx hb dX11_store_61 rfl (lv_at hl 1 rfl) ?_
      refine lv_iload_n hx hb dX11_store_62 rfl (lv_at hl 2 rfl) ?_
      refine lv_iload_n hx hb dX11_store_63 rfl (lv_at hl 3 rfl) ?_
      refine lv_iload hx hb dX11_store_64 (lv_at hl 4 rfl) ?_
      refine z_mVv (Wn := (fun u_5 => cl_X11 cI cJ a u_5)) (As := [.int x1, .int x2, .int x3, .int x4]) (rest := []) (wr := []) X (c_X11_stores l dC dI cI cJ cS a ((1 : Int32), u.2) x1 x2 x3 x4 _ hf _) zc_X11_stores q_ml_X11_39 ⟨rfl, rfl⟩ ⟨Nat.le_of_ble_eq_true rfl, Nat.le_of_ble_eq_true rfl⟩ hP hD hS hA [0, 1, 2, 3, 4, 5, 6, 7, 8] [] rfl (by decide) rfl (by decide) (by decide) [0, 1, 2, 3, 4, 5, 6, 7, 8] (by decide) (fun _ => rfl) 10 rfl rfl hl.1 rfl rfl (Nat.le_of_ble_eq_true rfl) ⟨Nat.zero_le _, Nat.zero_le _⟩ dX11_store_66 (fun u_5 H locs hf hP hD hS => ?_)
      refine lv_aload_n hx hb dX11_store_69 rfl (lv_at hl 0 rfl) ?_
      refine lv_iconst (v := 0) hx hb dX11_store_70 (by decide) ?_
      refine z_put (w' := cl_X11 cI cJ a (u_5.1, u_5.2.1, u_5.2.2.1, u_5.2.2.2.1, u_5.2.2.2.2.1, u_5.2.2.2.2.2.1, (0 : Int32), u_5.2.2.2.2.2.2.2)) (ci := 10) (v := .int (0 : Int32)) (ty := .int) (Cn := RX11) (T := TX11) (N := 17) X inX11 tyX11 tyX11_ok nmX11 hP hD hS 0 rfl rfl 6 (by decide) (hts _ q_fl_X11_149) (fun _ h9 => h9) rfl (tyX11_ok 6 (by decide)) rfl rfl (Nat.le_of_ble_eq_true rfl) rfl dX11_store_71 (fun H locs hP hD hS => ?_)
      refine lv_aload_n hx hb dX11_store_74 rfl (lv_at hl 0 rfl) ?_
      refine lv_iconst (v := 0) hx hb dX11_store_75 (by decide) ?_
      refine z_put (w' := cl_X11 cI cJ a (u_5.1, u_5.2.1, u_5.2.2.1, u_5.2.2.2.1, u_5.2.2.2.2.1, u_5.2.2.2.2.2.1, (0 : Int32), u_5.2.2.2.2.2.2.2.1, (0 : Int32), u_5.2.2.2.2.2.2.2.2.2)) (ci := 10) (v := .int (0 : Int32)) (ty := .int) (Cn := RX11) (T := TX11) (N := 17) X inX11 tyX11 tyX11_ok nmX11 hP hD hS 0 rfl rfl 8 (by decide) (hts _ q_fl_X11_153) (fun _ h9 => h9) rfl (tyX11_ok 8 (by decide)) rfl rfl (Nat.le_of_ble_eq_true rfl) rfl dX11_store_76 (fun H locs hP hD hS => ?_)
      refine lv_aload_n hx hb dX11_store_79 rfl (lv_at hl 0 rfl) ?_
      refine z_cVi (As := []) (rest := []) X (c_X11_freeOnes l dC dI cI cJ cS a (u_5.1, u_5.2.1, u_5.2.2.1, u_5.2.2.2.1, u_5.2.2.2.2.1, u_5.2.2.2.2.2.1, (0 : Int32), u_5.2.2.2.2.2.2.2.1, (0 : Int32), u_5.2.2.2.2.2.2.2.2.2)  _ hf) zc_X11_freeOnes q_ml_X11_60 ⟨rfl, rfl⟩ ⟨Nat.le_of_ble_eq_true rfl, Nat.le_of_ble_eq_true rfl⟩ hP [0, 1, 2, 3, 4, 5, 6, 7, 8] rfl 10 rfl rfl hl.1 rfl rfl (Nat.le_of_ble_eq_true rfl) ⟨Nat.zero_le _, Nat.zero_le _⟩ dX11_store_80 (fun r_6 hf => ?_)
      exact z_retMi (Wf := (fun z => cl_X11 cI cJ a z)) (u := (u_5.1, u_5.2.1, u_5.2.2.1, u_5.2.2.2.1, u_5.2.2.2.2.1, u_5.2.2.2.2.2.1, (0 : Int32), u_5.2.2.2.2.2.2.2.1, (0 : Int32), u_5.2.2.2.2.2.2.2.2.2)) X hf hP hD hS dX11_store_83
    · have hf := hf.2 c_3
      refine lv_iconst (v := 0) hx hb dX11_store_58 (by decide) ?_
      exact z_retMi (Wf := (fun z => cl_X11 cI cJ a z)) (u := ((1 : Int32), u.2)) X hf hP hD hS dX11_store_59
  · have hf := hf.2 c_2
    refine lv_iload_n hx hb dX11_store_13 rfl (lv_at hl 2 rfl) ?_
    refine lv_iconst (v := 0) hx hb dX11_store_14 (by decide) ?_
    refine lv_bipush (v := 40) hx hb dX11_store_15 (by decide) ?_
    refine z_cSi (As := [.int x2, .int (0 : Int32), .int (40 : Int32)]) (rest := [.ref (a 0)]) X (c_X11_isIn l dC dI cI cJ cS   x2 (0 : Int32) (40 : Int32) _ hf) zc_X11_isIn q_ml_X11_165 ⟨rfl, rfl⟩ ⟨Nat.le_of_ble_eq_true rfl, Nat.le_of_ble_eq_true rfl⟩ hP [] rfl hl.1 rfl rfl (Nat.le_of_ble_eq_true rfl) ⟨Nat.zero_le _, Nat.zero_le _⟩ dX11_store_17 (fun r_7 hf => ?_)
    obtain ⟨hbr_7, hf⟩ := hf
    refine lv_if_eq (tgt := 47) hx hb dX11_store_20 (by decide) (fun c_8 => ?_) (fun c_8 => ?_)
    · have hf := hf.1 c_8
      refine lv_iconst (v := 1) hx hb dX11_store_47 (by decide) ?_
      refine z_put (w' := cl_X11 cI cJ a ((1 : Int32), u.2)) (ci := 10) (v := .int (1 : Int32)) (ty := .int) (Cn := RX11) (T := TX11) (N := 17) X inX11 tyX11 tyX11_ok nmX11 hP hD hS 0 rfl rfl 0 (by decide) (hts _ q_fl_X11_43) (fun _ h9 => h9) rfl (tyX11_ok 0 (by decide)) rfl rfl (Nat.le_of_ble_eq_true rfl) rfl dX11_store_48 (fun H locs hP hD hS => ?_)
      refine lv_aload_n hx hb dX11_store_51 rfl (lv_at hl 0 rfl) ?_
      refine va_get (D := (dC, dI)) (ci := 10) (v := .int (1 : Int32)) (C := RX11) (T := TX11) (N := 17) hx hb hts inX11 hown hK hP 0 rfl rfl 0 (by decide) (hts _ q_fl_X11_43) (fun _ h9 => h9) rfl dX11_store_52 ?_
      refine lv_if_le (tgt := 60) hx hb dX11_store_55 (by decide) (fun c_9 => ?_) (fun c_9 => ?_)
      · have hf := hf.1 c_9
        refine lv_aload_n hx hb dX11_store_60 rfl (lv_at hl 0 rfl) ?_
        refine lv_iload_n hx hb dX11_store_61 rfl (lv_at hl 1 rfl) ?_
        refine lv_iload_n hx hb dX11_store_62 rfl (lv_at hl 2 rfl) ?_
        refine lv_iload_n hx hb dX11_store_63 rfl (lv_at hl 3 rfl) ?_
        refine lv_iload hx hb dX11_store_64 (lv_at hl 4 rfl) ?_
        refine z_mVv (Wn := (fun u_11 => cl_X11 cI cJ a u_11)) (As := [.int x1, .int x2, .int x3, .int x4]) (rest := []) (wr := []) X (c_X11_stores l dC dI cI cJ cS a ((1 : Int32), u.2) x1 x2 x3 x4 _ hf _) zc_X11_stores q_ml_X11_39 ⟨rfl, rfl⟩ ⟨Nat.le_of_ble_eq_true rfl, Nat.le_of_ble_eq_true rfl⟩ hP hD hS hA [0, 1, 2, 3, 4, 5, 6, 7, 8] [] rfl (by decide) rfl (by decide) (by decide) [0, 1, 2, 3, 4, 5, 6, 7, 8] (by decide) (fun _ => rfl) 10 rfl rfl hl.1 rfl rfl (Nat.le_of_ble_eq_true rfl) ⟨Nat.zero_le _, Nat.zero_le _⟩ dX11_store_66 (fun u_11 H locs hf hP hD hS => ?_)
        refine lv_aload_n hx hb dX11_store_69 rfl (lv_at hl 0 rfl) ?_
        refine lv_iconst (v := 0) hx hb dX11_store_70 (by decide) ?_
        refine z_put (w' := cl_X11 cI cJ a (u_11.1, u_11.2.1, u_11.2.2.1, u_11.2.2.2.1, u_11.2.2.2.2.1, u_11.2.2.2.2.2.1, (0 : Int32), u_11.2.2.2.2.2.2.2)) (ci := 10) (v := .int (0 : Int32)) (ty := .int) (Cn := RX11) (T := TX11) (N := 17) X inX11 tyX11 tyX11_ok nmX11 hP hD hS 0 rfl rfl 6 (by decide) (hts _ q_fl_X11_149) (fun _ h9 => h9) rfl (tyX11_ok 6 (by decide)) rfl rfl (Nat.le_of_ble_eq_true rfl) rfl dX11_store_71 (fun H locs hP hD hS => ?_)
        refine lv_aload_n hx hb dX11_store_74 rfl (lv_at hl 0 rfl) ?_
        refine lv_iconst (v := 0) hx hb dX11_store_75 (by decide) ?_
        refine z_put (w' := cl_X11 cI cJ a (u_11.1, u_11.2.1, u_11.2.2.1, u_11.2.2.2.1, u_11.2.2.2.2.1, u_11.2.2.2.2.2.1, (0 : Int32), u_11.2.2.2.2.2.2.2.1, (0 : Int32), u_11.2.2.2.2.2.2.2.2.2)) (ci := 10) (v := .int (0 : Int32)) (ty := .int) (Cn := RX11) (T := TX11) (N := 17) X inX11 tyX11 tyX11_ok nmX11 hP hD hS 0 rfl rfl 8 (by decide) (hts _ q_fl_X11_153) (fun _ h9 => h9) rfl (tyX11_ok 8 (by decide)) rfl rfl (Nat.le_of_ble_eq_true rfl) rfl dX11_store_76 (fun H locs hP hD hS => ?_)
        refine lv_aload_n hx hb dX11_store_79 rfl (lv_at hl 0 rfl) ?_
        refine z_cVi (As := []) (rest := []) X (c_X11_freeOnes l dC dI cI cJ cS a (u_11.1, u_11.2.1, u_11.2.2.1, u_11.2.2.2.1, u_11.2.2.2.2.1, u_11.2.2.2.2.2.1, (0 : Int32), u_11.2.2.2.2.2.2.2.1, (0 : Int32), u_11.2.2.2.2.2.2.2.2.2)  _ hf) zc_X11_freeOnes q_ml_X11_60 ⟨rfl, rfl⟩ ⟨Nat.le_of_ble_eq_true rfl, Nat.le_of_ble_eq_true rfl⟩ hP [0, 1, 2, 3, 4, 5, 6, 7, 8] rfl 10 rfl rfl hl.1 rfl rfl (Nat.le_of_ble_eq_true rfl) ⟨Nat.zero_le _, Nat.zero_le _⟩ dX11_store_80 (fun r_12 hf => ?_)
        exact z_retMi (Wf := (fun z => cl_X11 cI cJ a z)) (u := (u_11.1, u_11.2.1, u_11.2.2.1, u_11.2.2.2.1, u_11.2.2.2.2.1, u_11.2.2.2.2.2.1, (0 : Int32), u_11.2.2.2.2.2.2.2.1, (0 : Int32), u_11.2.2.2.2.2.2.2.2.2)) X hf hP hD hS dX11_store_83
      · have hf := hf.2 c_9
        refine lv_iconst (v := 0) hx hb dX11_store_58 (by decide) ?_
        exact z_retMi (Wf := (fun z => cl_X11 cI cJ a z)) (u := ((1 : Int32), u.2)) X hf hP hD hS dX11_store_59
    · have hf := hf.2 c_8
      refine lv_iload_n hx hb dX11_store_23 rfl (lv_at hl 3 rfl) ?_
      refine lv_iconst (v := 2) hx hb dX11_store_24 (by decide) ?_
      refine lv_bipush (v := 16) hx hb dX11_store_25 (by decide) ?_
      refine z_cSi (As := [.int x3, .int (2 : Int32), .int (16 : Int32)]) (rest := [.ref (a 0)]) X (c_X11_isIn l dC dI cI cJ cS   x3 (2 : Int32) (16 : Int32) _ hf) zc_X11_isIn q_ml_X11_165 ⟨rfl, rfl⟩ ⟨Nat.le_of_ble_eq_true rfl, Nat.le_of_ble_eq_true rfl⟩ hP [] rfl hl.1 rfl rfl (Nat.le_of_ble_eq_true rfl) ⟨Nat.zero_le _, Nat.zero_le _⟩ dX11_store_27 (fun r_13 hf => ?_)
      obtain ⟨hbr_13, hf⟩ := hf
      refine lv_if_eq (tgt := 47) hx hb dX11_store_30 (by decide) (fun c_14 => ?_) (fun c_14 => ?_)
      · have hf := hf.1 c_14
        refine lv_iconst (v := 1) hx hb dX11_store_47 (by decide) ?_
        refine z_put (w' := cl_X11 cI cJ a ((1 : Int32), u.2)) (ci := 10) (v := .int (1 : Int32)) (ty := .int) (Cn := RX11) (T := TX11) (N := 17) X inX11 tyX11 tyX11_ok nmX11 hP hD hS 0 rfl rfl 0 (by decide) (hts _ q_fl_X11_43) (fun _ h9 => h9) rfl (tyX11_ok 0 (by decide)) rfl rfl (Nat.le_of_ble_eq_true rfl) rfl dX11_store_48 (fun H locs hP hD hS => ?_)
        refine lv_aload_n hx hb dX11_store_51 rfl (lv_at hl 0 rfl) ?_
        refine va_get (D := (dC, dI)) (ci := 10) (v := .int (1 : Int32)) (C := RX11) (T := TX11) (N := 17) hx hb hts inX11 hown hK hP 0 rfl rfl 0 (by decide) (hts _ q_fl_X11_43) (fun _ h9 => h9) rfl dX11_store_52 ?_
        refine lv_if_le (tgt := 60) hx hb dX11_store_55 (by decide) (fun c_15 => ?_) (fun c_15 => ?_)
        · have hf := hf.1 c_15
          refine lv_aload_n hx hb dX11_store_60 rfl (lv_at hl 0 rfl) ?_
          refine lv_iload_n hx hb dX11_store_61 rfl (lv_at hl 1 rfl) ?_
          refine lv_iload_n hx hb dX11_store_62 rfl (lv_at hl 2 rfl) ?_
          refine lv_iload_n hx hb dX11_store_63 rfl (lv_at hl 3 rfl) ?_
          refine lv_iload hx hb dX11_store_64 (lv_at hl 4 rfl) ?_
          refine z_mVv (Wn := (fun u_17 => cl_X11 cI cJ a u_17)) (As := [.int x1, .int x2, .int x3, .int x4]) (rest := []) (wr := []) X (c_X11_stores l dC dI cI cJ cS a ((1 : Int32), u.2) x1 x2 x3 x4 _ hf _) zc_X11_stores q_ml_X11_39 ⟨rfl, rfl⟩ ⟨Nat.le_of_ble_eq_true rfl, Nat.le_of_ble_eq_true rfl⟩ hP hD hS hA [0, 1, 2, 3, 4, 5, 6, 7, 8] [] rfl (by decide) rfl (by decide) (by decide) [0, 1, 2, 3, 4, 5, 6, 7, 8] (by decide) (fun _ => rfl) 10 rfl rfl hl.1 rfl rfl (Nat.le_of_ble_eq_true rfl) ⟨Nat.zero_le _, Nat.zero_le _⟩ dX11_store_66 (fun u_17 H locs hf hP hD hS => ?_)
          refine lv_aload_n hx hb dX11_store_69 rfl (lv_at hl 0 rfl) ?_
          refine lv_iconst (v := 0) hx hb dX11_store_70 (by decide) ?_
          refine z_put (w' := cl_X11 cI cJ a (u_17.1, u_17.2.1, u_17.2.2.1, u_17.2.2.2.1, u_17.2.2.2.2.1, u_17.2.2.2.2.2.1, (0 : Int32), u_17.2.2.2.2.2.2.2)) (ci := 10) (v := .int (0 : Int32)) (ty := .int) (Cn := RX11) (T := TX11) (N := 17) X inX11 tyX11 tyX11_ok nmX11 hP hD hS 0 rfl rfl 6 (by decide) (hts _ q_fl_X11_149) (fun _ h9 => h9) rfl (tyX11_ok 6 (by decide)) rfl rfl (Nat.le_of_ble_eq_true rfl) rfl dX11_store_71 (fun H locs hP hD hS => ?_)
          refine lv_aload_n hx hb dX11_store_74 rfl (lv_at hl 0 rfl) ?_
          refine lv_iconst (v := 0) hx hb dX11_store_75 (by decide) ?_
          refine z_put (w' := cl_X11 cI cJ a (u_17.1, u_17.2.1, u_17.2.2.1, u_17.2.2.2.1, u_17.2.2.2.2.1, u_17.2.2.2.2.2.1, (0 : Int32), u_17.2.2.2.2.2.2.2.1, (0 : Int32), u_17.2.2.2.2.2.2.2.2.2)) (ci := 10) (v := .int (0 : Int32)) (ty := .int) (Cn := RX11) (T := TX11) (N := 17) X inX11 tyX11 tyX11_ok nmX11 hP hD hS 0 rfl rfl 8 (by decide) (hts _ q_fl_X11_153) (fun _ h9 => h9) rfl (tyX11_ok 8 (by decide)) rfl rfl (Nat.le_of_ble_eq_true rfl) rfl dX11_store_76 (fun H locs hP hD hS => ?_)
          refine lv_aload_n hx hb dX11_store_79 rfl (lv_at hl 0 rfl) ?_
          refine z_cVi (As := []) (rest := []) X (c_X11_freeOnes l dC dI cI cJ cS a (u_17.1, u_17.2.1, u_17.2.2.1, u_17.2.2.2.1, u_17.2.2.2.2.1, u_17.2.2.2.2.2.1, (0 : Int32), u_17.2.2.2.2.2.2.2.1, (0 : Int32), u_17.2.2.2.2.2.2.2.2.2)  _ hf) zc_X11_freeOnes q_ml_X11_60 ⟨rfl, rfl⟩ ⟨Nat.le_of_ble_eq_true rfl, Nat.le_of_ble_eq_true rfl⟩ hP [0, 1, 2, 3, 4, 5, 6, 7, 8] rfl 10 rfl rfl hl.1 rfl rfl (Nat.le_of_ble_eq_true rfl) ⟨Nat.zero_le _, Nat.zero_le _⟩ dX11_store_80 (fun r_18 hf => ?_)
          exact z_retMi (Wf := (fun z => cl_X11 cI cJ a z)) (u := (u_17.1, u_17.2.1, u_17.2.2.1, u_17.2.2.2.1, u_17.2.2.2.2.1, u_17.2.2.2.2.2.1, (0 : Int32), u_17.2.2.2.2.2.2.2.1, (0 : Int32), u_17.2.2.2.2.2.2.2.2.2)) X hf hP hD hS dX11_store_83
        · have hf := hf.2 c_15
          refine lv_iconst (v := 0) hx hb dX11_store_58 (by decide) ?_
          exact z_retMi (Wf := (fun z => cl_X11 cI cJ a z)) (u := ((1 : Int32), u.2)) X hf hP hD hS dX11_store_59
      · have hf := hf.2 c_14
        refine lv_iload hx hb dX11_store_33 (lv_at hl 4 rfl) ?_
        refine lv_iconst (v := 1) hx hb dX11_store_35 (by decide) ?_
        refine lv_iconst (v := 4) hx hb dX11_store_36 (by decide) ?_
        refine z_cSi (As := [.int x4, .int (1 : Int32), .int (4 : Int32)]) (rest := [.ref (a 0)]) X (c_X11_isIn l dC dI cI cJ cS   x4 (1 : Int32) (4 : Int32) _ hf) zc_X11_isIn q_ml_X11_165 ⟨rfl, rfl⟩ ⟨Nat.le_of_ble_eq_true rfl, Nat.le_of_ble_eq_true rfl⟩ hP [] rfl hl.1 rfl rfl (Nat.le_of_ble_eq_true rfl) ⟨Nat.zero_le _, Nat.zero_le _⟩ dX11_store_37 (fun r_19 hf => ?_)
        obtain ⟨hbr_19, hf⟩ := hf
        refine lv_if_eq (tgt := 47) hx hb dX11_store_40 (by decide) (fun c_20 => ?_) (fun c_20 => ?_)
        · have hf := hf.1 c_20
          refine lv_iconst (v := 1) hx hb dX11_store_47 (by decide) ?_
          refine z_put (w' := cl_X11 cI cJ a ((1 : Int32), u.2)) (ci := 10) (v := .int (1 : Int32)) (ty := .int) (Cn := RX11) (T := TX11) (N := 17) X inX11 tyX11 tyX11_ok nmX11 hP hD hS 0 rfl rfl 0 (by decide) (hts _ q_fl_X11_43) (fun _ h9 => h9) rfl (tyX11_ok 0 (by decide)) rfl rfl (Nat.le_of_ble_eq_true rfl) rfl dX11_store_48 (fun H locs hP hD hS => ?_)
          refine lv_aload_n hx hb dX11_store_51 rfl (lv_at hl 0 rfl) ?_
          refine va_get (D := (dC, dI)) (ci := 10) (v := .int (1 : Int32)) (C := RX11) (T := TX11) (N := 17) hx hb hts inX11 hown hK hP 0 rfl rfl 0 (by decide) (hts _ q_fl_X11_43) (fun _ h9 => h9) rfl dX11_store_52 ?_
          refine lv_if_le (tgt := 60) hx hb dX11_store_55 (by decide) (fun c_21 => ?_) (fun c_21 => ?_)
          · have hf := hf.1 c_21
            refine lv_aload_n hx hb dX11_store_60 rfl (lv_at hl 0 rfl) ?_
            refine lv_iload_n hx hb dX11_store_61 rfl (lv_at hl 1 rfl) ?_
            refine lv_iload_n hx hb dX11_store_62 rfl (lv_at hl 2 rfl) ?_
            refine lv_iload_n hx hb dX11_store_63 rfl (lv_at hl 3 rfl) ?_
            refine lv_iload hx hb dX11_store_64 (lv_at hl 4 rfl) ?_
            refine z_mVv (Wn := (fun u_23 => cl_X11 cI cJ a u_23)) (As := [.int x1, .int x2, .int x3, .int x4]) (rest := []) (wr := []) X (c_X11_stores l dC dI cI cJ cS a ((1 : Int32), u.2) x1 x2 x3 x4 _ hf _) zc_X11_stores q_ml_X11_39 ⟨rfl, rfl⟩ ⟨Nat.le_of_ble_eq_true rfl, Nat.le_of_ble_eq_true rfl⟩ hP hD hS hA [0, 1, 2, 3, 4, 5, 6, 7, 8] [] rfl (by decide) rfl (by decide) (by decide) [0, 1, 2, 3, 4, 5, 6, 7, 8] (by decide) (fun _ => rfl) 10 rfl rfl hl.1 rfl rfl (Nat.le_of_ble_eq_true rfl) ⟨Nat.zero_le _, Nat.zero_le _⟩ dX11_store_66 (fun u_23 H locs hf hP hD hS => ?_)
            refine lv_aload_n hx hb dX11_store_69 rfl (lv_at hl 0 rfl) ?_
            refine lv_iconst (v := 0) hx hb dX11_store_70 (by decide) ?_
            refine z_put (w' := cl_X11 cI cJ a (u_23.1, u_23.2.1, u_23.2.2.1, u_23.2.2.2.1, u_23.2.2.2.2.1, u_23.2.2.2.2.2.1, (0 : Int32), u_23.2.2.2.2.2.2.2)) (ci := 10) (v := .int (0 : Int32)) (ty := .int) (Cn := RX11) (T := TX11) (N := 17) X inX11 tyX11 tyX11_ok nmX11 hP hD hS 0 rfl rfl 6 (by decide) (hts _ q_fl_X11_149) (fun _ h9 => h9) rfl (tyX11_ok 6 (by decide)) rfl rfl (Nat.le_of_ble_eq_true rfl) rfl dX11_store_71 (fun H locs hP hD hS => ?_)
            refine lv_aload_n hx hb dX11_store_74 rfl (lv_at hl 0 rfl) ?_
            refine lv_iconst (v := 0) hx hb dX11_store_75 (by decide) ?_
            refine z_put (w' := cl_X11 cI cJ a (u_23.1, u_23.2.1, u_23.2.2.1, u_23.2.2.2.1, u_23.2.2.2.2.1, u_23.2.2.2.2.2.1, (0 : Int32), u_23.2.2.2.2.2.2.2.1, (0 : Int32), u_23.2.2.2.2.2.2.2.2.2)) (ci := 10) (v := .int (0 : Int32)) (ty := .int) (Cn := RX11) (T := TX11) (N := 17) X inX11 tyX11 tyX11_ok nmX11 hP hD hS 0 rfl rfl 8 (by decide) (hts _ q_fl_X11_153) (fun _ h9 => h9) rfl (tyX11_ok 8 (by decide)) rfl rfl (Nat.le_of_ble_eq_true rfl) rfl dX11_store_76 (fun H locs hP hD hS => ?_)
            refine lv_aload_n hx hb dX11_store_79 rfl (lv_at hl 0 rfl) ?_
            refine z_cVi (As := []) (rest := []) X (c_X11_freeOnes l dC dI cI cJ cS a (u_23.1, u_23.2.1, u_23.2.2.1, u_23.2.2.2.1, u_23.2.2.2.2.1, u_23.2.2.2.2.2.1, (0 : Int32), u_23.2.2.2.2.2.2.2.1, (0 : Int32), u_23.2.2.2.2.2.2.2.2.2)  _ hf) zc_X11_freeOnes q_ml_X11_60 ⟨rfl, rfl⟩ ⟨Nat.le_of_ble_eq_true rfl, Nat.le_of_ble_eq_true rfl⟩ hP [0, 1, 2, 3, 4, 5, 6, 7, 8] rfl 10 rfl rfl hl.1 rfl rfl (Nat.le_of_ble_eq_true rfl) ⟨Nat.zero_le _, Nat.zero_le _⟩ dX11_store_80 (fun r_24 hf => ?_)
            exact z_retMi (Wf := (fun z => cl_X11 cI cJ a z)) (u := (u_23.1, u_23.2.1, u_23.2.2.1, u_23.2.2.2.1, u_23.2.2.2.2.1, u_23.2.2.2.2.2.1, (0 : Int32), u_23.2.2.2.2.2.2.2.1, (0 : Int32), u_23.2.2.2.2.2.2.2.2.2)) X hf hP hD hS dX11_store_83
          · have hf := hf.2 c_21
            refine lv_iconst (v := 0) hx hb dX11_store_58 (by decide) ?_
            exact z_retMi (Wf := (fun z => cl_X11 cI cJ a z)) (u := ((1 : Int32), u.2)) X hf hP hD hS dX11_store_59
        · have hf := hf.2 c_20
          refine lv_iconst (v := 0) hx hb dX11_store_43 (by decide) ?_
          refine lv_goto (tgt := 48) hx hb dX11_store_44 (by decide) ?_
          refine z_put (w' := cl_X11 cI cJ a ((0 : Int32), u.2)) (ci := 10) (v := .int (0 : Int32)) (ty := .int) (Cn := RX11) (T := TX11) (N := 17) X inX11 tyX11 tyX11_ok nmX11 hP hD hS 0 rfl rfl 0 (by decide) (hts _ q_fl_X11_43) (fun _ h9 => h9) rfl (tyX11_ok 0 (by decide)) rfl rfl (Nat.le_of_ble_eq_true rfl) rfl dX11_store_48 (fun H locs hP hD hS => ?_)
          refine lv_aload_n hx hb dX11_store_51 rfl (lv_at hl 0 rfl) ?_
          refine va_get (D := (dC, dI)) (ci := 10) (v := .int (0 : Int32)) (C := RX11) (T := TX11) (N := 17) hx hb hts inX11 hown hK hP 0 rfl rfl 0 (by decide) (hts _ q_fl_X11_43) (fun _ h9 => h9) rfl dX11_store_52 ?_
          refine lv_if_le (tgt := 60) hx hb dX11_store_55 (by decide) (fun c_25 => ?_) (fun c_25 => ?_)
          · have hf := hf.1 c_25
            refine lv_aload_n hx hb dX11_store_60 rfl (lv_at hl 0 rfl) ?_
            refine lv_iload_n hx hb dX11_store_61 rfl (lv_at hl 1 rfl) ?_
            refine lv_iload_n hx hb dX11_store_62 rfl (lv_at hl 2 rfl) ?_
            refine lv_iload_n hx hb dX11_store_63 rfl (lv_at hl 3 rfl) ?_
            refine lv_iload hx hb dX11_store_64 (lv_at hl 4 rfl) ?_
            refine z_mVv (Wn := (fun u_27 => cl_X11 cI cJ a u_27)) (As := [.int x1, .int x2, .int x3, .int x4]) (rest := []) (wr := []) X (c_X11_stores l dC dI cI cJ cS a ((0 : Int32), u.2) x1 x2 x3 x4 _ hf _) zc_X11_stores q_ml_X11_39 ⟨rfl, rfl⟩ ⟨Nat.le_of_ble_eq_true rfl, Nat.le_of_ble_eq_true rfl⟩ hP hD hS hA [0, 1, 2, 3, 4, 5, 6, 7, 8] [] rfl (by decide) rfl (by decide) (by decide) [0, 1, 2, 3, 4, 5, 6, 7, 8] (by decide) (fun _ => rfl) 10 rfl rfl hl.1 rfl rfl (Nat.le_of_ble_eq_true rfl) ⟨Nat.zero_le _, Nat.zero_le _⟩ dX11_store_66 (fun u_27 H locs hf hP hD hS => ?_)
            refine lv_aload_n hx hb dX11_store_69 rfl (lv_at hl 0 rfl) ?_
            refine lv_iconst (v := 0) hx hb dX11_store_70 (by decide) ?_
            refine z_put (w' := cl_X11 cI cJ a (u_27.1, u_27.2.1, u_27.2.2.1, u_27.2.2.2.1, u_27.2.2.2.2.1, u_27.2.2.2.2.2.1, (0 : Int32), u_27.2.2.2.2.2.2.2)) (ci := 10) (v := .int (0 : Int32)) (ty := .int) (Cn := RX11) (T := TX11) (N := 17) X inX11 tyX11 tyX11_ok nmX11 hP hD hS 0 rfl rfl 6 (by decide) (hts _ q_fl_X11_149) (fun _ h9 => h9) rfl (tyX11_ok 6 (by decide)) rfl rfl (Nat.le_of_ble_eq_true rfl) rfl dX11_store_71 (fun H locs hP hD hS => ?_)
            refine lv_aload_n hx hb dX11_store_74 rfl (lv_at hl 0 rfl) ?_
            refine lv_iconst (v := 0) hx hb dX11_store_75 (by decide) ?_
            refine z_put (w' := cl_X11 cI cJ a (u_27.1, u_27.2.1, u_27.2.2.1, u_27.2.2.2.1, u_27.2.2.2.2.1, u_27.2.2.2.2.2.1, (0 : Int32), u_27.2.2.2.2.2.2.2.1, (0 : Int32), u_27.2.2.2.2.2.2.2.2.2)) (ci := 10) (v := .int (0 : Int32)) (ty := .int) (Cn := RX11) (T := TX11) (N := 17) X inX11 tyX11 tyX11_ok nmX11 hP hD hS 0 rfl rfl 8 (by decide) (hts _ q_fl_X11_153) (fun _ h9 => h9) rfl (tyX11_ok 8 (by decide)) rfl rfl (Nat.le_of_ble_eq_true rfl) rfl dX11_store_76 (fun H locs hP hD hS => ?_)
            refine lv_aload_n hx hb dX11_store_79 rfl (lv_at hl 0 rfl) ?_
            refine z_cVi (As := []) (rest := []) X (c_X11_freeOnes l dC dI cI cJ cS a (u_27.1, u_27.2.1, u_27.2.2.1, u_27.2.2.2.1, u_27.2.2.2.2.1, u_27.2.2.2.2.2.1, (0 : Int32), u_27.2.2.2.2.2.2.2.1, (0 : Int32), u_27.2.2.2.2.2.2.2.2.2)  _ hf) zc_X11_freeOnes q_ml_X11_60 ⟨rfl, rfl⟩ ⟨Nat.le_of_ble_eq_true rfl, Nat.le_of_ble_eq_true rfl⟩ hP [0, 1, 2, 3, 4, 5, 6, 7, 8] rfl 10 rfl rfl hl.1 rfl rfl (Nat.le_of_ble_eq_true rfl) ⟨Nat.zero_le _, Nat.zero_le _⟩ dX11_store_80 (fun r_28 hf => ?_)
            exact z_retMi (Wf := (fun z => cl_X11 cI cJ a z)) (u := (u_27.1, u_27.2.1, u_27.2.2.1, u_27.2.2.2.1, u_27.2.2.2.2.1, u_27.2.2.2.2.2.1, (0 : Int32), u_27.2.2.2.2.2.2.2.1, (0 : Int32), u_27.2.2.2.2.2.2.2.2.2)) X hf hP hD hS dX11_store_83
          · have hf := hf.2 c_25
            refine lv_iconst (v := 0) hx hb dX11_store_58 (by decide) ?_
            exact z_retMi (Wf := (fun z => cl_X11 cI cJ a z)) (u := ((0 : Int32), u.2)) X hf hP hD hS dX11_store_59
def s_X11_store (u : zModel) (x1 x2 x3 x4 : Int32) (Q : Int32 → zModel → Prop) : Prop := ∃ (B : Nat) (G : zG), okG B G ∧ mG G u ∧ ∀ u' : zModel, mG (fStore G x1 x2 x3 x4).2.2 u' → u'.1 = (fStore G x1 x2 x3 x4).1 → Q (fStore G x1 x2 x3 x4).2.1 u'
theorem okB_begin {B : Nat} {x1 x2 x3 x4 : Int32} (v : zState) (hB : B ≤ 400000) (c : inR x1 50 200 ∧ inR x2 0 40 ∧ inR x3 2 16 ∧ inR x4 1 4) : okB B (uBegin v x1 x2 x3 x4) := by
  obtain ⟨c1, c2, c3, c4⟩ := c
  obtain ⟨a, a1, a2, rfl, -⟩ := inR_n (a := 50) (b := 200) (by decide) (by decide) c1
  obtain ⟨b, b1, b2, rfl, -⟩ := inR_n (a := 0) (b := 40) (by decide) (by decide) c2
  obtain ⟨d, d1, d2, rfl, -⟩ := inR_n (a := 2) (b := 16) (by decide) (by decide) c3
  obtain ⟨e, e1, e2, rfl, -⟩ := inR_n (a := 1) (b := 4) (by decide) (by decide) c4
  exact ⟨a, b, d, e, 0, 0, 0, zP_begin v ⟨a1, a2⟩ b2 ⟨d1, d2⟩ ⟨e1, e2⟩ hB⟩
theorem st_X11_store {u : zModel} {x1 x2 x3 x4 : Int32} {Q : Int32 → zModel → Prop} (h : s_X11_store u x1 x2 x3 x4 Q) : t_X11_store u x1 x2 x3 x4 Q := by
  obtain ⟨B, G, hG, hm, hQ⟩ := h
  unfold fStore at hQ
  have no : ¬ (inR x1 50 200 ∧ inR x2 0 40 ∧ inR x3 2 16 ∧ inR x4 1 4) → Q (0 : Int32) ((1 : Int32), u.2) := fun c => by
    rw [if_neg c] at hQ
    exact hQ _ (hm.th 1) rfl
  refine isIn_of (fun c1 => ⟨fun q => absurd q (by decide), fun _ => ?_⟩) (fun c1 => ⟨fun _ => ⟨fun q => absurd q (by decide), fun _ => no (fun q => c1 q.1)⟩, fun q => absurd rfl q⟩)
  refine isIn_of (fun c2 => ⟨fun q => absurd q (by decide), fun _ => ?_⟩) (fun c2 => ⟨fun _ => ⟨fun q => absurd q (by decide), fun _ => no (fun q => c2 q.2.1)⟩, fun q => absurd rfl q⟩)
  refine isIn_of (fun c3 => ⟨fun q => absurd q (by decide), fun _ => ?_⟩) (fun c3 => ⟨fun _ => ⟨fun q => absurd q (by decide), fun _ => no (fun q => c3 q.2.2.1)⟩, fun q => absurd rfl q⟩)
  refine isIn_of (fun c4 => ⟨fun q => absurd q (by decide), fun _ => ⟨fun _ => ?_, fun q => absurd (by decide) q⟩⟩) (fun c4 => ⟨fun _ => ⟨fun q => absurd q (by decide), fun _ => no (fun q => c4 q.2.2.2)⟩, fun q => absurd rfl q⟩)
  rw [if_pos ⟨c1, c2, c3, c4⟩] at hQ
  refine ⟨gNow G, fun m' hm' => ⟨uBegin (gNow G) x1 x2 x3 x4, (okB_begin (gNow G) hG.1.le ⟨c1, c2, c3, c4⟩).mok hm', hQ _ ?_ rfl⟩⟩
  exact mG_of hm' ⟨hm.2.1, hm.2.2.1, ⟨rfl, fun i hi => absurd hi (Nat.not_lt_zero i)⟩, hm.2.2.2.2.1, hm.2.2.2.2.2.1⟩ rfl
theorem c_X11_store (l : Launch) (dC : Nat → ClassId) (dI : Nat → Nat → Nat) (cI cJ cS : ClassId) (a : Nat → Nat) (u : zModel) (x1 : Int32) (x2 : Int32) (x3 : Int32) (x4 : Int32) (Q : Int32 → zModel → Prop) (hf : s_X11_store u x1 x2 x3 x4 Q) : ∀ sz : Nat, Met l yX11_store (Cond.code yX11_store cX11_store 5 (some .int) :: zT) rm_X11_store (zPm dC dI cI cJ cS (cl_X11 cI cJ a u) [.ref (a 0), .int x1, .int x2, .int x3, .int x4] sz) (va_Qi Q (zB dC dI cI cJ cS (va_A (cl_X11 cI cJ a u) sz) (fun z => cl_X11 cI cJ a z)) (va_A (cl_X11 cI cJ a u) sz)) 0 0 (va_A (cl_X11 cI cJ a u) sz) := L_X11_store l dC dI cI cJ cS a u x1 x2 x3 x4 Q (st_X11_store hf)

def t_X11_put (u : zModel) (x1 : Int32) (x2 : Int32) (x3 : Int32) (Q : Int32 → zModel → Prop) : Prop := s_X11_isKey x1 (fun r_1 : Int32 => ((¬ r_1 = 0 → s_X11_isIn x2 (1 : Int32) (40 : Int32) (fun r_3 : Int32 => ((r_3 = 0 → (((2 : Int32) ≤ 0 → s_X11_putsAside ((2 : Int32), u.2) (fun (u_7 : zModel) => s_X11_put0 u_7 x1 x2 x3 (fun (r_8 : Int32) (u_9 : zModel) => s_X11_isDone u_9 r_8 (3 : Int32) (fun (r_10 : Int32) (u_11 : zModel) => ((r_10 = 0 → Q (0 : Int32) u_11) ∧ (¬ r_10 = 0 → vp_in (5 : Int32) 5497 ∧ Q (u_11.2.1 (5 : Int32).toNatClampNeg) u_11)))))) ∧ (¬ (2 : Int32) ≤ 0 → Q (0 : Int32) ((2 : Int32), u.2)))) ∧ (¬ r_3 = 0 → s_X11_isIn x3 (0 : Int32) (255 : Int32) (fun r_13 : Int32 => ((¬ r_13 = 0 → (((0 : Int32) ≤ 0 → s_X11_putsAside ((0 : Int32), u.2) (fun (u_17 : zModel) => s_X11_put0 u_17 x1 x2 x3 (fun (r_18 : Int32) (u_19 : zModel) => s_X11_isDone u_19 r_18 (3 : Int32) (fun (r_20 : Int32) (u_21 : zModel) => ((r_20 = 0 → Q (0 : Int32) u_21) ∧ (¬ r_20 = 0 → vp_in (5 : Int32) 5497 ∧ Q (u_21.2.1 (5 : Int32).toNatClampNeg) u_21)))))) ∧ (¬ (0 : Int32) ≤ 0 → Q (0 : Int32) ((0 : Int32), u.2)))) ∧ (r_13 = 0 → (((2 : Int32) ≤ 0 → s_X11_putsAside ((2 : Int32), u.2) (fun (u_25 : zModel) => s_X11_put0 u_25 x1 x2 x3 (fun (r_26 : Int32) (u_27 : zModel) => s_X11_isDone u_27 r_26 (3 : Int32) (fun (r_28 : Int32) (u_29 : zModel) => ((r_28 = 0 → Q (0 : Int32) u_29) ∧ (¬ r_28 = 0 → vp_in (5 : Int32) 5497 ∧ Q (u_29.2.1 (5 : Int32).toNatClampNeg) u_29)))))) ∧ (¬ (2 : Int32) ≤ 0 → Q (0 : Int32) ((2 : Int32), u.2)))))))))) ∧ (r_1 = 0 → (((1 : Int32) ≤ 0 → s_X11_putsAside ((1 : Int32), u.2) (fun (u_33 : zModel) => s_X11_put0 u_33 x1 x2 x3 (fun (r_34 : Int32) (u_35 : zModel) => s_X11_isDone u_35 r_34 (3 : Int32) (fun (r_36 : Int32) (u_37 : zModel) => ((r_36 = 0 → Q (0 : Int32) u_37) ∧ (¬ r_36 = 0 → vp_in (5 : Int32) 5497 ∧ Q (u_37.2.1 (5 : Int32).toNatClampNeg) u_37)))))) ∧ (¬ (1 : Int32) ≤ 0 → Q (0 : Int32) ((1 : Int32), u.2))))))
theorem zc_X11_put : zCalV RX11 yX11_put cX11_put 4 (some .int) 3 := ⟨q_im_X11_put, q_se_X11_put, q_in_X11, q_cd_X11_put, ⟨by decide, by decide, by decide +kernel⟩, rfl⟩
abbrev rm_X11_put : Room := { frames := 7, cells := 0, slots := 0, locals := 156 }
set_option maxHeartbeats 4000000 in
set_option maxRecDepth 100000 in
theorem L_X11_put (l : Launch) (dC : Nat → ClassId) (dI : Nat → Nat → Nat) (cI cJ cS : ClassId) (a : Nat → Nat) (u : zModel) (x1 : Int32) (x2 : Int32) (x3 : Int32) (Q : Int32 → zModel → Prop) (hf : t_X11_put u x1 x2 x3 Q) : ∀ sz : Nat, Met l yX11_put (Cond.code yX11_put cX11_put 4 (some .int) :: zT) rm_X11_put (zPm dC dI cI cJ cS (cl_X11 cI cJ a u) [.ref (a 0), .int x1, .int x2, .int x3] sz) (va_Qi Q (zB dC dI cI cJ cS (va_A (cl_X11 cI cJ a u) sz) (fun z => cl_X11 cI cJ a z)) (va_A (cl_X11 cI cJ a u) sz)) 0 0 (va_A (cl_X11 cI cJ a u) sz) := by
  intro sz
  refine z_enterM (Qc := fun A => va_Qi Q (zB dC dI cI cJ cS A (fun z => cl_X11 cI cJ a z)) A) (cc := cX11_put) (maxL := 4) (ret := (some .int)) (by decide) (Nat.le_of_ble_eq_true rfl) ?_
  intro p e s m below meth c ls A X hP hD hS hA hl
  obtain ⟨⟨hx, hb, hml, hown, hts⟩, hr, hlk, hK⟩ := id X
  have hl : lv_has ls 4 [(0, .ref (a 0)), (1, .int x1), (2, .int x2), (3, .int x3)] := hl
  unfold t_X11_put at hf
  refine lv_aload_n hx hb dX11_put_0 rfl (lv_at hl 0 rfl) ?_
  refine lv_iload_n hx hb dX11_put_1 rfl (lv_at hl 1 rfl) ?_
  refine z_cSi (As := [.int x1]) (rest := [.ref (a 0)]) X (c_X11_isKey l dC dI cI cJ cS   x1 _ hf) zc_X11_isKey q_ml_X11_254 ⟨rfl, rfl⟩ ⟨Nat.le_of_ble_eq_true rfl, Nat.le_of_ble_eq_true rfl⟩ hP [] rfl hl.1 rfl rfl (Nat.le_of_ble_eq_true rfl) ⟨Nat.zero_le _, Nat.zero_le _⟩ dX11_put_2 (fun r_1 hf => ?_)
  obtain ⟨hbr_1, hf⟩ := hf
  refine lv_if_ne (tgt := 12) hx hb dX11_put_5 (by decide) (fun c_2 => ?_) (fun c_2 => ?_)
  · have hf := hf.1 c_2
    refine lv_iload_n hx hb dX11_put_12 rfl (lv_at hl 2 rfl) ?_
    refine lv_iconst (v := 1) hx hb dX11_put_13 (by decide) ?_
    refine lv_bipush (v := 40) hx hb dX11_put_14 (by decide) ?_
    refine z_cSi (As := [.int x2, .int (1 : Int32), .int (40 : Int32)]) (rest := [.ref (a 0)]) X (c_X11_isIn l dC dI cI cJ cS   x2 (1 : Int32) (40 : Int32) _ hf) zc_X11_isIn q_ml_X11_165 ⟨rfl, rfl⟩ ⟨Nat.le_of_ble_eq_true rfl, Nat.le_of_ble_eq_true rfl⟩ hP [] rfl hl.1 rfl rfl (Nat.le_of_ble_eq_true rfl) ⟨Nat.zero_le _, Nat.zero_le _⟩ dX11_put_16 (fun r_3 hf => ?_)
    obtain ⟨hbr_3, hf⟩ := hf
    refine lv_if_eq (tgt := 33) hx hb dX11_put_19 (by decide) (fun c_4 => ?_) (fun c_4 => ?_)
    · have hf := hf.1 c_4
      refine lv_iconst (v := 2) hx hb dX11_put_33 (by decide) ?_
      refine lv_goto (tgt := 38) hx hb dX11_put_34 (by decide) ?_
      refine z_put (w' := cl_X11 cI cJ a ((2 : Int32), u.2)) (ci := 10) (v := .int (2 : Int32)) (ty := .int) (Cn := RX11) (T := TX11) (N := 17) X inX11 tyX11 tyX11_ok nmX11 hP hD hS 0 rfl rfl 0 (by decide) (hts _ q_fl_X11_43) (fun _ h9 => h9) rfl (tyX11_ok 0 (by decide)) rfl rfl (Nat.le_of_ble_eq_true rfl) rfl dX11_put_38 (fun H locs hP hD hS => ?_)
      refine lv_aload_n hx hb dX11_put_41 rfl (lv_at hl 0 rfl) ?_
      refine va_get (D := (dC, dI)) (ci := 10) (v := .int (2 : Int32)) (C := RX11) (T := TX11) (N := 17) hx hb hts inX11 hown hK hP 0 rfl rfl 0 (by decide) (hts _ q_fl_X11_43) (fun _ h9 => h9) rfl dX11_put_42 ?_
      refine lv_if_le (tgt := 50) hx hb dX11_put_45 (by decide) (fun c_5 => ?_) (fun c_5 => ?_)
      · have hf := hf.1 c_5
        refine lv_aload_n hx hb dX11_put_50 rfl (lv_at hl 0 rfl) ?_
        refine z_mVv (Wn := (fun u_7 => cl_X11 cI cJ a u_7)) (As := []) (rest := []) (wr := []) X (c_X11_putsAside l dC dI cI cJ cS a ((2 : Int32), u.2)  _ hf _) zc_X11_putsAside q_ml_X11_248 ⟨rfl, rfl⟩ ⟨Nat.le_of_ble_eq_true rfl, Nat.le_of_ble_eq_true rfl⟩ hP hD hS hA [0, 1, 2, 3, 4, 5, 6, 7, 8] [] rfl (by decide) rfl (by decide) (by decide) [0, 1, 2, 3, 4, 5, 6, 7, 8] (by decide) (fun _ => rfl) 10 rfl rfl hl.1 rfl rfl (Nat.le_of_ble_eq_true rfl) ⟨Nat.zero_le _, Nat.zero_le _⟩ dX11_put_51 (fun u_7 H locs hf hP hD hS => ?_)
        refine lv_aload_n hx hb dX11_put_54 rfl (lv_at hl 0 rfl) ?_
        refine lv_aload_n hx hb dX11_put_55 rfl (lv_at hl 0 rfl) ?_
        refine lv_iload_n hx hb dX11_put_56 rfl (lv_at hl 1 rfl) ?_
        refine lv_iload_n hx hb dX11_put_57 rfl (lv_at hl 2 rfl) ?_
        refine lv_iload_n hx hb dX11_put_58 rfl (lv_at hl 3 rfl) ?_
        refine z_mVi (Wn := (fun u_9 => cl_X11 cI cJ a u_9)) (As := [.int x1, .int x2, .int x3]) (rest := [.ref (a 0)]) (wr := []) X (c_X11_put0 l dC dI cI cJ cS a u_7 x1 x2 x3 _ hf _) zc_X11_put0 q_ml_X11_193 ⟨rfl, rfl⟩ ⟨Nat.le_of_ble_eq_true rfl, Nat.le_of_ble_eq_true rfl⟩ hP hD hS hA [0, 1, 2, 3, 4, 5, 6, 7, 8] [] rfl (by decide) rfl (by decide) (by decide) [0, 1, 2, 3, 4, 5, 6, 7, 8] (by decide) (fun _ => rfl) 10 rfl rfl hl.1 rfl rfl (Nat.le_of_ble_eq_true rfl) ⟨Nat.zero_le _, Nat.zero_le _⟩ dX11_put_59 (fun r_8 u_9 H locs hf hP hD hS => ?_)
        refine lv_iconst (v := 3) hx hb dX11_put_62 (by decide) ?_
        refine z_mVi (Wn := (fun u_11 => cl_X11 cI cJ a u_11)) (As := [.int r_8, .int (3 : Int32)]) (rest := []) (wr := []) X (c_X11_isDone l dC dI cI cJ cS a u_9 r_8 (3 : Int32) _ hf _) zc_X11_isDone q_ml_X11_257 ⟨rfl, rfl⟩ ⟨Nat.le_of_ble_eq_true rfl, Nat.le_of_ble_eq_true rfl⟩ hP hD hS hA [0, 1, 2, 3, 4, 5, 6, 7, 8] [] rfl (by decide) rfl (by decide) (by decide) [0, 1, 2, 3, 4, 5, 6, 7, 8] (by decide) (fun _ => rfl) 10 rfl rfl hl.1 rfl rfl (Nat.le_of_ble_eq_true rfl) ⟨Nat.zero_le _, Nat.zero_le _⟩ dX11_put_63 (fun r_10 u_11 H locs hf hP hD hS => ?_)
        obtain ⟨hbr_10, hf⟩ := hf
        refine lv_if_eq (tgt := 78) hx hb dX11_put_66 (by decide) (fun c_12 => ?_) (fun c_12 => ?_)
        · have hf := hf.1 c_12
          refine lv_iconst (v := 0) hx hb dX11_put_78 (by decide) ?_
          exact z_retMi (Wf := (fun z => cl_X11 cI cJ a z)) (u := u_11) X hf hP hD hS dX11_put_79
        · have hf := hf.2 c_12
          refine lv_aload_n hx hb dX11_put_69 rfl (lv_at hl 0 rfl) ?_
          refine va_get (D := (dC, dI)) (ci := 10) (v := .ref (a 1)) (C := RX11) (T := TX11) (N := 17) hx hb hts inX11 hown hK hP 0 rfl rfl 1 (by decide) (hts _ q_fl_X11_7) (fun _ h9 => h9) rfl dX11_put_70 ?_
          refine lv_iconst (v := 5) hx hb dX11_put_73 (by decide) ?_
          obtain ⟨hg, hf⟩ := hf
          refine va_iald hx hb hK hP 1 0 rfl rfl hg dX11_put_74 ?_
          refine lv_goto (tgt := 79) hx hb dX11_put_75 (by decide) ?_
          exact z_retMi (Wf := (fun z => cl_X11 cI cJ a z)) (u := u_11) X hf hP hD hS dX11_put_79
      · have hf := hf.2 c_5
        refine lv_iconst (v := 0) hx hb dX11_put_48 (by decide) ?_
        exact z_retMi (Wf := (fun z => cl_X11 cI cJ a z)) (u := ((2 : Int32), u.2)) X hf hP hD hS dX11_put_49
    · have hf := hf.2 c_4
      refine lv_iload_n hx hb dX11_put_22 rfl (lv_at hl 3 rfl) ?_
      refine lv_iconst (v := 0) hx hb dX11_put_23 (by decide) ?_
      refine lv_sipush (v := 255) hx hb dX11_put_24 (by decide) ?_
      refine z_cSi (As := [.int x3, .int (0 : Int32), .int (255 : Int32)]) (rest := [.ref (a 0)]) X (c_X11_isIn l dC dI cI cJ cS   x3 (0 : Int32) (255 : Int32) _ hf) zc_X11_isIn q_ml_X11_165 ⟨rfl, rfl⟩ ⟨Nat.le_of_ble_eq_true rfl, Nat.le_of_ble_eq_true rfl⟩ hP [] rfl hl.1 rfl rfl (Nat.le_of_ble_eq_true rfl) ⟨Nat.zero_le _, Nat.zero_le _⟩ dX11_put_27 (fun r_13 hf => ?_)
      obtain ⟨hbr_13, hf⟩ := hf
      refine lv_if_ne (tgt := 37) hx hb dX11_put_30 (by decide) (fun c_14 => ?_) (fun c_14 => ?_)
      · have hf := hf.1 c_14
        refine lv_iconst (v := 0) hx hb dX11_put_37 (by decide) ?_
        refine z_put (w' := cl_X11 cI cJ a ((0 : Int32), u.2)) (ci := 10) (v := .int (0 : Int32)) (ty := .int) (Cn := RX11) (T := TX11) (N := 17) X inX11 tyX11 tyX11_ok nmX11 hP hD hS 0 rfl rfl 0 (by decide) (hts _ q_fl_X11_43) (fun _ h9 => h9) rfl (tyX11_ok 0 (by decide)) rfl rfl (Nat.le_of_ble_eq_true rfl) rfl dX11_put_38 (fun H locs hP hD hS => ?_)
        refine lv_aload_n hx hb dX11_put_41 rfl (lv_at hl 0 rfl) ?_
        refine va_get (D := (dC, dI)) (ci := 10) (v := .int (0 : Int32)) (C := RX11) (T := TX11) (N := 17) hx hb hts inX11 hown hK hP 0 rfl rfl 0 (by decide) (hts _ q_fl_X11_43) (fun _ h9 => h9) rfl dX11_put_42 ?_
        refine lv_if_le (tgt := 50) hx hb dX11_put_45 (by decide) (fun c_15 => ?_) (fun c_15 => ?_)
        · have hf := hf.1 c_15
          refine lv_aload_n hx hb dX11_put_50 rfl (lv_at hl 0 rfl) ?_
          refine z_mVv (Wn := (fun u_17 => cl_X11 cI cJ a u_17)) (As := []) (rest := []) (wr := []) X (c_X11_putsAside l dC dI cI cJ cS a ((0 : Int32), u.2)  _ hf _) zc_X11_putsAside q_ml_X11_248 ⟨rfl, rfl⟩ ⟨Nat.le_of_ble_eq_true rfl, Nat.le_of_ble_eq_true rfl⟩ hP hD hS hA [0, 1, 2, 3, 4, 5, 6, 7, 8] [] rfl (by decide) rfl (by decide) (by decide) [0, 1, 2, 3, 4, 5, 6, 7, 8] (by decide) (fun _ => rfl) 10 rfl rfl hl.1 rfl rfl (Nat.le_of_ble_eq_true rfl) ⟨Nat.zero_le _, Nat.zero_le _⟩ dX11_put_51 (fun u_17 H locs hf hP hD hS => ?_)
          refine lv_aload_n hx hb dX11_put_54 rfl (lv_at hl 0 rfl) ?_
          refine lv_aload_n hx hb dX11_put_55 rfl (lv_at hl 0 rfl) ?_
          refine lv_iload_n hx hb dX11_put_56 rfl (lv_at hl 1 rfl) ?_
          refine lv_iload_n hx hb dX11_put_57 rfl (lv_at hl 2 rfl) ?_
          refine lv_iload_n hx hb dX11_put_58 rfl (lv_at hl 3 rfl) ?_
          refine z_mVi (Wn := (fun u_19 => cl_X11 cI cJ a u_19)) (As := [.int x1, .int x2, .int x3]) (rest := [.ref (a 0)]) (wr := []) X (c_X11_put0 l dC dI cI cJ cS a u_17 x1 x2 x3 _ hf _) zc_X11_put0 q_ml_X11_193 ⟨rfl, rfl⟩ ⟨Nat.le_of_ble_eq_true rfl, Nat.le_of_ble_eq_true rfl⟩ hP hD hS hA [0, 1, 2, 3, 4, 5, 6, 7, 8] [] rfl (by decide) rfl (by decide) (by decide) [0, 1, 2, 3, 4, 5, 6, 7, 8] (by decide) (fun _ => rfl) 10 rfl rfl hl.1 rfl rfl (Nat.le_of_ble_eq_true rfl) ⟨Nat.zero_le _, Nat.zero_le _⟩ dX11_put_59 (fun r_18 u_19 H locs hf hP hD hS => ?_)
          refine lv_iconst (v := 3) hx hb dX11_put_62 (by decide) ?_
          refine z_mVi (Wn := (fun u_21 => cl_X11 cI cJ a u_21)) (As := [.int r_18, .int (3 : Int32)]) (rest := []) (wr := []) X (c_X11_isDone l dC dI cI cJ cS a u_19 r_18 (3 : Int32) _ hf _) zc_X11_isDone q_ml_X11_257 ⟨rfl, rfl⟩ ⟨Nat.le_of_ble_eq_true rfl, Nat.le_of_ble_eq_true rfl⟩ hP hD hS hA [0, 1, 2, 3, 4, 5, 6, 7, 8] [] rfl (by decide) rfl (by decide) (by decide) [0, 1, 2, 3, 4, 5, 6, 7, 8] (by decide) (fun _ => rfl) 10 rfl rfl hl.1 rfl rfl (Nat.le_of_ble_eq_true rfl) ⟨Nat.zero_le _, Nat.zero_le _⟩ dX11_put_63 (fun r_20 u_21 H locs hf hP hD hS => ?_)
          obtain ⟨hbr_20, hf⟩ := hf
          refine lv_if_eq (tgt := 78) hx hb dX11_put_66 (by decide) (fun c_22 => ?_) (fun c_22 => ?_)
          · have hf := hf.1 c_22
            refine lv_iconst (v := 0) hx hb dX11_put_78 (by decide) ?_
            exact z_retMi (Wf := (fun z => cl_X11 cI cJ a z)) (u := u_21) X hf hP hD hS dX11_put_79
          · have hf := hf.2 c_22
            refine lv_aload_n hx hb dX11_put_69 rfl (lv_at hl 0 rfl) ?_
            refine va_get (D := (dC, dI)) (ci := 10) (v := .ref (a 1)) (C := RX11) (T := TX11) (N := 17) hx hb hts inX11 hown hK hP 0 rfl rfl 1 (by decide) (hts _ q_fl_X11_7) (fun _ h9 => h9) rfl dX11_put_70 ?_
            refine lv_iconst (v := 5) hx hb dX11_put_73 (by decide) ?_
            obtain ⟨hg, hf⟩ := hf
            refine va_iald hx hb hK hP 1 0 rfl rfl hg dX11_put_74 ?_
            refine lv_goto (tgt := 79) hx hb dX11_put_75 (by decide) ?_
            exact z_retMi (Wf := (fun z => cl_X11 cI cJ a z)) (u := u_21) X hf hP hD hS dX11_put_79
        · have hf := hf.2 c_15
          refine lv_iconst (v := 0) hx hb dX11_put_48 (by decide) ?_
          exact z_retMi (Wf := (fun z => cl_X11 cI cJ a z)) (u := ((0 : Int32), u.2)) X hf hP hD hS dX11_put_49
      · have hf := hf.2 c_14
        refine lv_iconst (v := 2) hx hb dX11_put_33 (by decide) ?_
        refine lv_goto (tgt := 38) hx hb dX11_put_34 (by decide) ?_
        refine z_put (w' := cl_X11 cI cJ a ((2 : Int32), u.2)) (ci := 10) (v := .int (2 : Int32)) (ty := .int) (Cn := RX11) (T := TX11) (N := 17) X inX11 tyX11 tyX11_ok nmX11 hP hD hS 0 rfl rfl 0 (by decide) (hts _ q_fl_X11_43) (fun _ h9 => h9) rfl (tyX11_ok 0 (by decide)) rfl rfl (Nat.le_of_ble_eq_true rfl) rfl dX11_put_38 (fun H locs hP hD hS => ?_)
        refine lv_aload_n hx hb dX11_put_41 rfl (lv_at hl 0 rfl) ?_
        refine va_get (D := (dC, dI)) (ci := 10) (v := .int (2 : Int32)) (C := RX11) (T := TX11) (N := 17) hx hb hts inX11 hown hK hP 0 rfl rfl 0 (by decide) (hts _ q_fl_X11_43) (fun _ h9 => h9) rfl dX11_put_42 ?_
        refine lv_if_le (tgt := 50) hx hb dX11_put_45 (by decide) (fun c_23 => ?_) (fun c_23 => ?_)
        · have hf := hf.1 c_23
          refine lv_aload_n hx hb dX11_put_50 rfl (lv_at hl 0 rfl) ?_
          refine z_mVv (Wn := (fun u_25 => cl_X11 cI cJ a u_25)) (As := []) (rest := []) (wr := []) X (c_X11_putsAside l dC dI cI cJ cS a ((2 : Int32), u.2)  _ hf _) zc_X11_putsAside q_ml_X11_248 ⟨rfl, rfl⟩ ⟨Nat.le_of_ble_eq_true rfl, Nat.le_of_ble_eq_true rfl⟩ hP hD hS hA [0, 1, 2, 3, 4, 5, 6, 7, 8] [] rfl (by decide) rfl (by decide) (by decide) [0, 1, 2, 3, 4, 5, 6, 7, 8] (by decide) (fun _ => rfl) 10 rfl rfl hl.1 rfl rfl (Nat.le_of_ble_eq_true rfl) ⟨Nat.zero_le _, Nat.zero_le _⟩ dX11_put_51 (fun u_25 H locs hf hP hD hS => ?_)
          refine lv_aload_n hx hb dX11_put_54 rfl (lv_at hl 0 rfl) ?_
          refine lv_aload_n hx hb dX11_put_55 rfl (lv_at hl 0 rfl) ?_
          refine lv_iload_n hx hb dX11_put_56 rfl (lv_at hl 1 rfl) ?_
          refine lv_iload_n hx hb dX11_put_57 rfl (lv_at hl 2 rfl) ?_
          refine lv_iload_n hx hb dX11_put_58 rfl (lv_at hl 3 rfl) ?_
          refine z_mVi (Wn := (fun u_27 => cl_X11 cI cJ a u_27)) (As := [.int x1, .int x2, .int x3]) (rest := [.ref (a 0)]) (wr := []) X (c_X11_put0 l dC dI cI cJ cS a u_25 x1 x2 x3 _ hf _) zc_X11_put0 q_ml_X11_193 ⟨rfl, rfl⟩ ⟨Nat.le_of_ble_eq_true rfl, Nat.le_of_ble_eq_true rfl⟩ hP hD hS hA [0, 1, 2, 3, 4, 5, 6, 7, 8] [] rfl (by decide) rfl (by decide) (by decide) [0, 1, 2, 3, 4, 5, 6, 7, 8] (by decide) (fun _ => rfl) 10 rfl rfl hl.1 rfl rfl (Nat.le_of_ble_eq_true rfl) ⟨Nat.zero_le _, Nat.zero_le _⟩ dX11_put_59 (fun r_26 u_27 H locs hf hP hD hS => ?_)
          refine lv_iconst (v := 3) hx hb dX11_put_62 (by decide) ?_
          refine z_mVi (Wn := (fun u_29 => cl_X11 cI cJ a u_29)) (As := [.int r_26, .int (3 : Int32)]) (rest := []) (wr := []) X (c_X11_isDone l dC dI cI cJ cS a u_27 r_26 (3 : Int32) _ hf _) zc_X11_isDone q_ml_X11_257 ⟨rfl, rfl⟩ ⟨Nat.le_of_ble_eq_true rfl, Nat.le_of_ble_eq_true rfl⟩ hP hD hS hA [0, 1, 2, 3, 4, 5, 6, 7, 8] [] rfl (by decide) rfl (by decide) (by decide) [0, 1, 2, 3, 4, 5, 6, 7, 8] (by decide) (fun _ => rfl) 10 rfl rfl hl.1 rfl rfl (Nat.le_of_ble_eq_true rfl) ⟨Nat.zero_le _, Nat.zero_le _⟩ dX11_put_63 (fun r_28 u_29 H locs hf hP hD hS => ?_)
          obtain ⟨hbr_28, hf⟩ := hf
          refine lv_if_eq (tgt := 78) hx hb dX11_put_66 (by decide) (fun c_30 => ?_) (fun c_30 => ?_)
          · have hf := hf.1 c_30
            refine lv_iconst (v := 0) hx hb dX11_put_78 (by decide) ?_
            exact z_retMi (Wf := (fun z => cl_X11 cI cJ a z)) (u := u_29) X hf hP hD hS dX11_put_79
          · have hf := hf.2 c_30
            refine lv_aload_n hx hb dX11_put_69 rfl (lv_at hl 0 rfl) ?_
            refine va_get (D := (dC, dI)) (ci := 10) (v := .ref (a 1)) (C := RX11) (T := TX11) (N := 17) hx hb hts inX11 hown hK hP 0 rfl rfl 1 (by decide) (hts _ q_fl_X11_7) (fun _ h9 => h9) rfl dX11_put_70 ?_
            refine lv_iconst (v := 5) hx hb dX11_put_73 (by decide) ?_
            obtain ⟨hg, hf⟩ := hf
            refine va_iald hx hb hK hP 1 0 rfl rfl hg dX11_put_74 ?_
            refine lv_goto (tgt := 79) hx hb dX11_put_75 (by decide) ?_
            exact z_retMi (Wf := (fun z => cl_X11 cI cJ a z)) (u := u_29) X hf hP hD hS dX11_put_79
        · have hf := hf.2 c_23
          refine lv_iconst (v := 0) hx hb dX11_put_48 (by decide) ?_
          exact z_retMi (Wf := (fun z => cl_X11 cI cJ a z)) (u := ((2 : Int32), u.2)) X hf hP hD hS dX11_put_49
  · have hf := hf.2 c_2
    refine lv_iconst (v := 1) hx hb dX11_put_8 (by decide) ?_
    refine lv_goto (tgt := 38) hx hb dX11_put_9 (by decide) ?_
    refine z_put (w' := cl_X11 cI cJ a ((1 : Int32), u.2)) (ci := 10) (v := .int (1 : Int32)) (ty := .int) (Cn := RX11) (T := TX11) (N := 17) X inX11 tyX11 tyX11_ok nmX11 hP hD hS 0 rfl rfl 0 (by decide) (hts _ q_fl_X11_43) (fun _ h9 => h9) rfl (tyX11_ok 0 (by decide)) rfl rfl (Nat.le_of_ble_eq_true rfl) rfl dX11_put_38 (fun H locs hP hD hS => ?_)
    refine lv_aload_n hx hb dX11_put_41 rfl (lv_at hl 0 rfl) ?_
    refine va_get (D := (dC, dI)) (ci := 10) (v := .int (1 : Int32)) (C := RX11) (T := TX11) (N := 17) hx hb hts inX11 hown hK hP 0 rfl rfl 0 (by decide) (hts _ q_fl_X11_43) (fun _ h9 => h9) rfl dX11_put_42 ?_
    refine lv_if_le (tgt := 50) hx hb dX11_put_45 (by decide) (fun c_31 => ?_) (fun c_31 => ?_)
    · have hf := hf.1 c_31
      refine lv_aload_n hx hb dX11_put_50 rfl (lv_at hl 0 rfl) ?_
      refine z_mVv (Wn := (fun u_33 => cl_X11 cI cJ a u_33)) (As := []) (rest := []) (wr := []) X (c_X11_putsAside l dC dI cI cJ cS a ((1 : Int32), u.2)  _ hf _) zc_X11_putsAside q_ml_X11_248 ⟨rfl, rfl⟩ ⟨Nat.le_of_ble_eq_true rfl, Nat.le_of_ble_eq_true rfl⟩ hP hD hS hA [0, 1, 2, 3, 4, 5, 6, 7, 8] [] rfl (by decide) rfl (by decide) (by decide) [0, 1, 2, 3, 4, 5, 6, 7, 8] (by decide) (fun _ => rfl) 10 rfl rfl hl.1 rfl rfl (Nat.le_of_ble_eq_true rfl) ⟨Nat.zero_le _, Nat.zero_le _⟩ dX11_put_51 (fun u_33 H locs hf hP hD hS => ?_)
      refine lv_aload_n hx hb dX11_put_54 rfl (lv_at hl 0 rfl) ?_
      refine lv_aload_n hx hb dX11_put_55 rfl (lv_at hl 0 rfl) ?_
      refine lv_iload_n hx hb dX11_put_56 rfl (lv_at hl 1 rfl) ?_
      refine lv_iload_n hx hb dX11_put_57 rfl (lv_at hl 2 rfl) ?_
      refine lv_iload_n hx hb dX11_put_58 rfl (lv_at hl 3 rfl) ?_
      refine z_mVi (Wn := (fun u_35 => cl_X11 cI cJ a u_35)) (As := [.int x1, .int x2, .int x3]) (rest := [.ref (a 0)]) (wr := []) X (c_X11_put0 l dC dI cI cJ cS a u_33 x1 x2 x3 _ hf _) zc_X11_put0 q_ml_X11_193 ⟨rfl, rfl⟩ ⟨Nat.le_of_ble_eq_true rfl, Nat.le_of_ble_eq_true rfl⟩ hP hD hS hA [0, 1, 2, 3, 4, 5, 6, 7, 8] [] rfl (by decide) rfl (by decide) (by decide) [0, 1, 2, 3, 4, 5, 6, 7, 8] (by decide) (fun _ => rfl) 10 rfl rfl hl.1 rfl rfl (Nat.le_of_ble_eq_true rfl) ⟨Nat.zero_le _, Nat.zero_le _⟩ dX11_put_59 (fun r_34 u_35 H locs hf hP hD hS => ?_)
      refine lv_iconst (v := 3) hx hb dX11_put_62 (by decide) ?_
      refine z_mVi (Wn := (fun u_37 => cl_X11 cI cJ a u_37)) (As := [.int r_34, .int (3 : Int32)]) (rest := []) (wr := []) X (c_X11_isDone l dC dI cI cJ cS a u_35 r_34 (3 : Int32) _ hf _) zc_X11_isDone q_ml_X11_257 ⟨rfl, rfl⟩ ⟨Nat.le_of_ble_eq_true rfl, Nat.le_of_ble_eq_true rfl⟩ hP hD hS hA [0, 1, 2, 3, 4, 5, 6, 7, 8] [] rfl (by decide) rfl (by decide) (by decide) [0, 1, 2, 3, 4, 5, 6, 7, 8] (by decide) (fun _ => rfl) 10 rfl rfl hl.1 rfl rfl (Nat.le_of_ble_eq_true rfl) ⟨Nat.zero_le _, Nat.zero_le _⟩ dX11_put_63 (fun r_36 u_37 H locs hf hP hD hS => ?_)
      obtain ⟨hbr_36, hf⟩ := hf
      refine lv_if_eq (tgt := 78) hx hb dX11_put_66 (by decide) (fun c_38 => ?_) (fun c_38 => ?_)
      · have hf := hf.1 c_38
        refine lv_iconst (v := 0) hx hb dX11_put_78 (by decide) ?_
        exact z_retMi (Wf := (fun z => cl_X11 cI cJ a z)) (u := u_37) X hf hP hD hS dX11_put_79
      · have hf := hf.2 c_38
        refine lv_aload_n hx hb dX11_put_69 rfl (lv_at hl 0 rfl) ?_
        refine va_get (D := (dC, dI)) (ci := 10) (v := .ref (a 1)) (C := RX11) (T := TX11) (N := 17) hx hb hts inX11 hown hK hP 0 rfl rfl 1 (by decide) (hts _ q_fl_X11_7) (fun _ h9 => h9) rfl dX11_put_70 ?_
        refine lv_iconst (v := 5) hx hb dX11_put_73 (by decide) ?_
        obtain ⟨hg, hf⟩ := hf
        refine va_iald hx hb hK hP 1 0 rfl rfl hg dX11_put_74 ?_
        refine lv_goto (tgt := 79) hx hb dX11_put_75 (by decide) ?_
        exact z_retMi (Wf := (fun z => cl_X11 cI cJ a z)) (u := u_37) X hf hP hD hS dX11_put_79
    · have hf := hf.2 c_31
      refine lv_iconst (v := 0) hx hb dX11_put_48 (by decide) ?_
      exact z_retMi (Wf := (fun z => cl_X11 cI cJ a z)) (u := ((1 : Int32), u.2)) X hf hP hD hS dX11_put_49
def s_X11_put (u : zModel) (x1 x2 x3 : Int32) (Q : Int32 → zModel → Prop) : Prop := ∃ (B : Nat) (G : zG), okG B G ∧ B + 2 ≤ 400000 ∧ mG G u ∧ ∀ u' : zModel, mG (fPut G x1 x2 x3).2.2 u' → u'.1 = (fPut G x1 x2 x3).1 → Q (fPut G x1 x2 x3).2.1 u'
theorem st_X11_put {u : zModel} {x1 x2 x3 : Int32} {Q : Int32 → zModel → Prop} (h : s_X11_put u x1 x2 x3 Q) : t_X11_put u x1 x2 x3 Q := by
  obtain ⟨B, G, hG, hB, hm, hQ⟩ := h
  unfold fPut at hQ
  refine isIn_of (fun c1 => ⟨fun _ => ?_, fun q => absurd q (by decide)⟩) (fun c1 => ⟨fun q => absurd rfl q, fun _ => ⟨fun q => absurd q (by decide), fun _ => ?_⟩⟩)
  · rw [if_pos c1] at hQ
    refine isIn_of (fun c2 => ⟨fun q => absurd q (by decide), fun _ => ?_⟩) (fun c2 => ⟨fun _ => ⟨fun q => absurd q (by decide), fun _ => ?_⟩, fun q => absurd rfl q⟩)
    · refine isIn_of (fun c3 => ⟨fun _ => ⟨fun _ f hf => ?_, fun q => absurd (by decide) q⟩, fun q => absurd q (by decide)⟩) (fun c3 => ⟨fun q => absurd rfl q, fun _ => ⟨fun q => absurd q (by decide), fun _ => ?_⟩⟩)
      · rw [if_pos ⟨c2, c3⟩] at hQ
        obtain ⟨k, hk, rfl, ek⟩ := key_n c1
        obtain ⟨ln, hl1, hl2, rfl, el⟩ := inR_n (a := 1) (b := 40) (by decide) (by decide) c2
        obtain ⟨sd, -, hs2, rfl, esd⟩ := inR_n (a := 0) (b := 255) (by decide) (by decide) c3
        rw [ek, el, esd] at hQ
        have hf' : mRel (gNow G) f := hG.1.same hm.now hf
        obtain ⟨ρ, β, mo, lm, L, S, M, hP⟩ := id hG.1
        refine ⟨gNow G, ρ, β, mo, lm, L, S, M, B, k, ln, sd, hP, hB, hk, hl1, hl2, by omega, rfl, rfl, rfl, hm.now, fun hfit m' hm' => ?_, fun hfit => ?_⟩
        · rw [if_pos hfit] at hQ
          refine isDone_of hG hm.r hf' (by decide) (fun _ => ⟨_, hm', fun u' h1 h2 h3 h4 => ⟨fun q => absurd q (by decide), fun _ => ⟨vp_in_nI (n := 5) (by decide) (by decide), ?_⟩⟩⟩) (fun q => absurd rfl q)
          have := hQ u' h1 h2
          rw [n_c5, h1.now.1 5 (by decide)]
          show Q (uPut (gNow G) k ln sd).2.2.2.2.2.2.1 u'
          rw [show (uPut (gNow G) k ln sd).2.2.2.2.2.2.1 = (gNow G).2.2.2.2.2.2.1 + 1 from enter_num _ _ _ _]
          exact this
        · rw [if_neg (by rw [hfit]; decide)] at hQ
          exact isDone_of hG hm.r hf' (by decide) (fun q => absurd q (by decide)) (fun _ u' h1 h2 => ⟨fun _ => hQ u' h1 h2, fun q => absurd rfl q⟩)
      · rw [if_neg (fun q => c3 q.2)] at hQ
        exact hQ _ (hm.th 2) rfl
    · rw [if_neg (fun q => c2 q.1)] at hQ
      exact hQ _ (hm.th 2) rfl
  · rw [if_neg c1] at hQ
    exact hQ _ (hm.th 1) rfl
theorem c_X11_put (l : Launch) (dC : Nat → ClassId) (dI : Nat → Nat → Nat) (cI cJ cS : ClassId) (a : Nat → Nat) (u : zModel) (x1 : Int32) (x2 : Int32) (x3 : Int32) (Q : Int32 → zModel → Prop) (hf : s_X11_put u x1 x2 x3 Q) : ∀ sz : Nat, Met l yX11_put (Cond.code yX11_put cX11_put 4 (some .int) :: zT) rm_X11_put (zPm dC dI cI cJ cS (cl_X11 cI cJ a u) [.ref (a 0), .int x1, .int x2, .int x3] sz) (va_Qi Q (zB dC dI cI cJ cS (va_A (cl_X11 cI cJ a u) sz) (fun z => cl_X11 cI cJ a z)) (va_A (cl_X11 cI cJ a u) sz)) 0 0 (va_A (cl_X11 cI cJ a u) sz) := L_X11_put l dC dI cI cJ cS a u x1 x2 x3 Q (st_X11_put hf)

def t_X11_drop (u : zModel) (x1 : Int32) (Q : Int32 → zModel → Prop) : Prop := s_X11_isKey x1 (fun r_1 : Int32 => ((r_1 = 0 → (((1 : Int32) ≤ 0 → s_X11_putsAside ((1 : Int32), u.2) (fun (u_5 : zModel) => s_X11_drop0 u_5 x1 (fun (r_6 : Int32) (u_7 : zModel) => s_X11_isDone u_7 r_6 (2 : Int32) (fun (r_8 : Int32) (u_9 : zModel) => ((r_8 = 0 → Q (0 : Int32) u_9) ∧ (¬ r_8 = 0 → vp_in (5 : Int32) 5497 ∧ Q (u_9.2.1 (5 : Int32).toNatClampNeg) u_9)))))) ∧ (¬ (1 : Int32) ≤ 0 → Q (0 : Int32) ((1 : Int32), u.2)))) ∧ (¬ r_1 = 0 → (((0 : Int32) ≤ 0 → s_X11_putsAside ((0 : Int32), u.2) (fun (u_13 : zModel) => s_X11_drop0 u_13 x1 (fun (r_14 : Int32) (u_15 : zModel) => s_X11_isDone u_15 r_14 (2 : Int32) (fun (r_16 : Int32) (u_17 : zModel) => ((r_16 = 0 → Q (0 : Int32) u_17) ∧ (¬ r_16 = 0 → vp_in (5 : Int32) 5497 ∧ Q (u_17.2.1 (5 : Int32).toNatClampNeg) u_17)))))) ∧ (¬ (0 : Int32) ≤ 0 → Q (0 : Int32) ((0 : Int32), u.2))))))
theorem zc_X11_drop : zCalV RX11 yX11_drop cX11_drop 2 (some .int) 1 := ⟨q_im_X11_drop, q_se_X11_drop, q_in_X11, q_cd_X11_drop, ⟨by decide, by decide, by decide +kernel⟩, rfl⟩
abbrev rm_X11_drop : Room := { frames := 7, cells := 0, slots := 0, locals := 154 }
set_option maxHeartbeats 4000000 in
set_option maxRecDepth 100000 in
theorem L_X11_drop (l : Launch) (dC : Nat → ClassId) (dI : Nat → Nat → Nat) (cI cJ cS : ClassId) (a : Nat → Nat) (u : zModel) (x1 : Int32) (Q : Int32 → zModel → Prop) (hf : t_X11_drop u x1 Q) : ∀ sz : Nat, Met l yX11_drop (Cond.code yX11_drop cX11_drop 2 (some .int) :: zT) rm_X11_drop (zPm dC dI cI cJ cS (cl_X11 cI cJ a u) [.ref (a 0), .int x1] sz) (va_Qi Q (zB dC dI cI cJ cS (va_A (cl_X11 cI cJ a u) sz) (fun z => cl_X11 cI cJ a z)) (va_A (cl_X11 cI cJ a u) sz)) 0 0 (va_A (cl_X11 cI cJ a u) sz) := by
  intro sz
  refine z_enterM (Qc := fun A => va_Qi Q (zB dC dI cI cJ cS A (fun z => cl_X11 cI cJ a z)) A) (cc := cX11_drop) (maxL := 2) (ret := (some .int)) (by decide) (Nat.le_of_ble_eq_true rfl) ?_
  intro p e s m below meth c ls A X hP hD hS hA hl
  obtain ⟨⟨hx, hb, hml, hown, hts⟩, hr, hlk, hK⟩ := id X
  have hl : lv_has ls 2 [(0, .ref (a 0)), (1, .int x1)] := hl
  unfold t_X11_drop at hf
  refine lv_aload_n hx hb dX11_drop_0 rfl (lv_at hl 0 rfl) ?_
  refine lv_iload_n hx hb dX11_drop_1 rfl (lv_at hl 1 rfl) ?_
  refine z_cSi (As := [.int x1]) (rest := [.ref (a 0)]) X (c_X11_isKey l dC dI cI cJ cS   x1 _ hf) zc_X11_isKey q_ml_X11_254 ⟨rfl, rfl⟩ ⟨Nat.le_of_ble_eq_true rfl, Nat.le_of_ble_eq_true rfl⟩ hP [] rfl hl.1 rfl rfl (Nat.le_of_ble_eq_true rfl) ⟨Nat.zero_le _, Nat.zero_le _⟩ dX11_drop_2 (fun r_1 hf => ?_)
  obtain ⟨hbr_1, hf⟩ := hf
  refine lv_if_eq (tgt := 12) hx hb dX11_drop_5 (by decide) (fun c_2 => ?_) (fun c_2 => ?_)
  · have hf := hf.1 c_2
    refine lv_iconst (v := 1) hx hb dX11_drop_12 (by decide) ?_
    refine z_put (w' := cl_X11 cI cJ a ((1 : Int32), u.2)) (ci := 10) (v := .int (1 : Int32)) (ty := .int) (Cn := RX11) (T := TX11) (N := 17) X inX11 tyX11 tyX11_ok nmX11 hP hD hS 0 rfl rfl 0 (by decide) (hts _ q_fl_X11_43) (fun _ h9 => h9) rfl (tyX11_ok 0 (by decide)) rfl rfl (Nat.le_of_ble_eq_true rfl) rfl dX11_drop_13 (fun H locs hP hD hS => ?_)
    refine lv_aload_n hx hb dX11_drop_16 rfl (lv_at hl 0 rfl) ?_
    refine va_get (D := (dC, dI)) (ci := 10) (v := .int (1 : Int32)) (C := RX11) (T := TX11) (N := 17) hx hb hts inX11 hown hK hP 0 rfl rfl 0 (by decide) (hts _ q_fl_X11_43) (fun _ h9 => h9) rfl dX11_drop_17 ?_
    refine lv_if_le (tgt := 25) hx hb dX11_drop_20 (by decide) (fun c_3 => ?_) (fun c_3 => ?_)
    · have hf := hf.1 c_3
      refine lv_aload_n hx hb dX11_drop_25 rfl (lv_at hl 0 rfl) ?_
      refine z_mVv (Wn := (fun u_5 => cl_X11 cI cJ a u_5)) (As := []) (rest := []) (wr := []) X (c_X11_putsAside l dC dI cI cJ cS a ((1 : Int32), u.2)  _ hf _) zc_X11_putsAside q_ml_X11_248 ⟨rfl, rfl⟩ ⟨Nat.le_of_ble_eq_true rfl, Nat.le_of_ble_eq_true rfl⟩ hP hD hS hA [0, 1, 2, 3, 4, 5, 6, 7, 8] [] rfl (by decide) rfl (by decide) (by decide) [0, 1, 2, 3, 4, 5, 6, 7, 8] (by decide) (fun _ => rfl) 10 rfl rfl hl.1 rfl rfl (Nat.le_of_ble_eq_true rfl) ⟨Nat.zero_le _, Nat.zero_le _⟩ dX11_drop_26 (fun u_5 H locs hf hP hD hS => ?_)
      refine lv_aload_n hx hb dX11_drop_29 rfl (lv_at hl 0 rfl) ?_
      refine lv_aload_n hx hb dX11_drop_30 rfl (lv_at hl 0 rfl) ?_
      refine lv_iload_n hx hb dX11_drop_31 rfl (lv_at hl 1 rfl) ?_
      refine z_mVi (Wn := (fun u_7 => cl_X11 cI cJ a u_7)) (As := [.int x1]) (rest := [.ref (a 0)]) (wr := []) X (c_X11_drop0 l dC dI cI cJ cS a u_5 x1 _ hf _) zc_X11_drop0 q_ml_X11_219 ⟨rfl, rfl⟩ ⟨Nat.le_of_ble_eq_true rfl, Nat.le_of_ble_eq_true rfl⟩ hP hD hS hA [0, 1, 2, 3, 4, 5, 6, 7, 8] [] rfl (by decide) rfl (by decide) (by decide) [0, 1, 2, 3, 4, 5, 6, 7, 8] (by decide) (fun _ => rfl) 10 rfl rfl hl.1 rfl rfl (Nat.le_of_ble_eq_true rfl) ⟨Nat.zero_le _, Nat.zero_le _⟩ dX11_drop_32 (fun r_6 u_7 H locs hf hP hD hS => ?_)
      refine lv_iconst (v := 2) hx hb dX11_drop_35 (by decide) ?_
      refine z_mVi (Wn := (fun u_9 => cl_X11 cI cJ a u_9)) (As := [.int r_6, .int (2 : Int32)]) (rest := []) (wr := []) X (c_X11_isDone l dC dI cI cJ cS a u_7 r_6 (2 : Int32) _ hf _) zc_X11_isDone q_ml_X11_257 ⟨rfl, rfl⟩ ⟨Nat.le_of_ble_eq_true rfl, Nat.le_of_ble_eq_true rfl⟩ hP hD hS hA [0, 1, 2, 3, 4, 5, 6, 7, 8] [] rfl (by decide) rfl (by decide) (by decide) [0, 1, 2, 3, 4, 5, 6, 7, 8] (by decide) (fun _ => rfl) 10 rfl rfl hl.1 rfl rfl (Nat.le_of_ble_eq_true rfl) ⟨Nat.zero_le _, Nat.zero_le _⟩ dX11_drop_36 (fun r_8 u_9 H locs hf hP hD hS => ?_)
      obtain ⟨hbr_8, hf⟩ := hf
      refine lv_if_eq (tgt := 51) hx hb dX11_drop_39 (by decide) (fun c_10 => ?_) (fun c_10 => ?_)
      · have hf := hf.1 c_10
        refine lv_iconst (v := 0) hx hb dX11_drop_51 (by decide) ?_
        exact z_retMi (Wf := (fun z => cl_X11 cI cJ a z)) (u := u_9) X hf hP hD hS dX11_drop_52
      · have hf := hf.2 c_10
        refine lv_aload_n hx hb dX11_drop_42 rfl (lv_at hl 0 rfl) ?_
        refine va_get (D := (dC, dI)) (ci := 10) (v := .ref (a 1)) (C := RX11) (T := TX11) (N := 17) hx hb hts inX11 hown hK hP 0 rfl rfl 1 (by decide) (hts _ q_fl_X11_7) (fun _ h9 => h9) rfl dX11_drop_43 ?_
        refine lv_iconst (v := 5) hx hb dX11_drop_46 (by decide) ?_
        obtain ⟨hg, hf⟩ := hf
        refine va_iald hx hb hK hP 1 0 rfl rfl hg dX11_drop_47 ?_
        refine lv_goto (tgt := 52) hx hb dX11_drop_48 (by decide) ?_
        exact z_retMi (Wf := (fun z => cl_X11 cI cJ a z)) (u := u_9) X hf hP hD hS dX11_drop_52
    · have hf := hf.2 c_3
      refine lv_iconst (v := 0) hx hb dX11_drop_23 (by decide) ?_
      exact z_retMi (Wf := (fun z => cl_X11 cI cJ a z)) (u := ((1 : Int32), u.2)) X hf hP hD hS dX11_drop_24
  · have hf := hf.2 c_2
    refine lv_iconst (v := 0) hx hb dX11_drop_8 (by decide) ?_
    refine lv_goto (tgt := 13) hx hb dX11_drop_9 (by decide) ?_
    refine z_put (w' := cl_X11 cI cJ a ((0 : Int32), u.2)) (ci := 10) (v := .int (0 : Int32)) (ty := .int) (Cn := RX11) (T := TX11) (N := 17) X inX11 tyX11 tyX11_ok nmX11 hP hD hS 0 rfl rfl 0 (by decide) (hts _ q_fl_X11_43) (fun _ h9 => h9) rfl (tyX11_ok 0 (by decide)) rfl rfl (Nat.le_of_ble_eq_true rfl) rfl dX11_drop_13 (fun H locs hP hD hS => ?_)
    refine lv_aload_n hx hb dX11_drop_16 rfl (lv_at hl 0 rfl) ?_
    refine va_get (D := (dC, dI)) (ci := 10) (v := .int (0 : Int32)) (C := RX11) (T := TX11) (N := 17) hx hb hts inX11 hown hK hP 0 rfl rfl 0 (by decide) (hts _ q_fl_X11_43) (fun _ h9 => h9) rfl dX11_drop_17 ?_
    refine lv_if_le (tgt := 25) hx hb dX11_drop_20 (by decide) (fun c_11 => ?_) (fun c_11 => ?_)
    · have hf := hf.1 c_11
      refine lv_aload_n hx hb dX11_drop_25 rfl (lv_at hl 0 rfl) ?_
      refine z_mVv (Wn := (fun u_13 => cl_X11 cI cJ a u_13)) (As := []) (rest := []) (wr := []) X (c_X11_putsAside l dC dI cI cJ cS a ((0 : Int32), u.2)  _ hf _) zc_X11_putsAside q_ml_X11_248 ⟨rfl, rfl⟩ ⟨Nat.le_of_ble_eq_true rfl, Nat.le_of_ble_eq_true rfl⟩ hP hD hS hA [0, 1, 2, 3, 4, 5, 6, 7, 8] [] rfl (by decide) rfl (by decide) (by decide) [0, 1, 2, 3, 4, 5, 6, 7, 8] (by decide) (fun _ => rfl) 10 rfl rfl hl.1 rfl rfl (Nat.le_of_ble_eq_true rfl) ⟨Nat.zero_le _, Nat.zero_le _⟩ dX11_drop_26 (fun u_13 H locs hf hP hD hS => ?_)
      refine lv_aload_n hx hb dX11_drop_29 rfl (lv_at hl 0 rfl) ?_
      refine lv_aload_n hx hb dX11_drop_30 rfl (lv_at hl 0 rfl) ?_
      refine lv_iload_n hx hb dX11_drop_31 rfl (lv_at hl 1 rfl) ?_
      refine z_mVi (Wn := (fun u_15 => cl_X11 cI cJ a u_15)) (As := [.int x1]) (rest := [.ref (a 0)]) (wr := []) X (c_X11_drop0 l dC dI cI cJ cS a u_13 x1 _ hf _) zc_X11_drop0 q_ml_X11_219 ⟨rfl, rfl⟩ ⟨Nat.le_of_ble_eq_true rfl, Nat.le_of_ble_eq_true rfl⟩ hP hD hS hA [0, 1, 2, 3, 4, 5, 6, 7, 8] [] rfl (by decide) rfl (by decide) (by decide) [0, 1, 2, 3, 4, 5, 6, 7, 8] (by decide) (fun _ => rfl) 10 rfl rfl hl.1 rfl rfl (Nat.le_of_ble_eq_true rfl) ⟨Nat.zero_le _, Nat.zero_le _⟩ dX11_drop_32 (fun r_14 u_15 H locs hf hP hD hS => ?_)
      refine lv_iconst (v := 2) hx hb dX11_drop_35 (by decide) ?_
      refine z_mVi (Wn := (fun u_17 => cl_X11 cI cJ a u_17)) (As := [.int r_14, .int (2 : Int32)]) (rest := []) (wr := []) X (c_X11_isDone l dC dI cI cJ cS a u_15 r_14 (2 : Int32) _ hf _) zc_X11_isDone q_ml_X11_257 ⟨rfl, rfl⟩ ⟨Nat.le_of_ble_eq_true rfl, Nat.le_of_ble_eq_true rfl⟩ hP hD hS hA [0, 1, 2, 3, 4, 5, 6, 7, 8] [] rfl (by decide) rfl (by decide) (by decide) [0, 1, 2, 3, 4, 5, 6, 7, 8] (by decide) (fun _ => rfl) 10 rfl rfl hl.1 rfl rfl (Nat.le_of_ble_eq_true rfl) ⟨Nat.zero_le _, Nat.zero_le _⟩ dX11_drop_36 (fun r_16 u_17 H locs hf hP hD hS => ?_)
      obtain ⟨hbr_16, hf⟩ := hf
      refine lv_if_eq (tgt := 51) hx hb dX11_drop_39 (by decide) (fun c_18 => ?_) (fun c_18 => ?_)
      · have hf := hf.1 c_18
        refine lv_iconst (v := 0) hx hb dX11_drop_51 (by decide) ?_
        exact z_retMi (Wf := (fun z => cl_X11 cI cJ a z)) (u := u_17) X hf hP hD hS dX11_drop_52
      · have hf := hf.2 c_18
        refine lv_aload_n hx hb dX11_drop_42 rfl (lv_at hl 0 rfl) ?_
        refine va_get (D := (dC, dI)) (ci := 10) (v := .ref (a 1)) (C := RX11) (T := TX11) (N := 17) hx hb hts inX11 hown hK hP 0 rfl rfl 1 (by decide) (hts _ q_fl_X11_7) (fun _ h9 => h9) rfl dX11_drop_43 ?_
        refine lv_iconst (v := 5) hx hb dX11_drop_46 (by decide) ?_
        obtain ⟨hg, hf⟩ := hf
        refine va_iald hx hb hK hP 1 0 rfl rfl hg dX11_drop_47 ?_
        refine lv_goto (tgt := 52) hx hb dX11_drop_48 (by decide) ?_
        exact z_retMi (Wf := (fun z => cl_X11 cI cJ a z)) (u := u_17) X hf hP hD hS dX11_drop_52
    · have hf := hf.2 c_11
      refine lv_iconst (v := 0) hx hb dX11_drop_23 (by decide) ?_
      exact z_retMi (Wf := (fun z => cl_X11 cI cJ a z)) (u := ((0 : Int32), u.2)) X hf hP hD hS dX11_drop_24
def s_X11_drop (u : zModel) (x1 : Int32) (Q : Int32 → zModel → Prop) : Prop := ∃ (B : Nat) (G : zG), okG B G ∧ B + 2 ≤ 400000 ∧ mG G u ∧ ∀ u' : zModel, mG (fDrop G x1).2.2 u' → u'.1 = (fDrop G x1).1 → Q (fDrop G x1).2.1 u'
theorem st_X11_drop {u : zModel} {x1 : Int32} {Q : Int32 → zModel → Prop} (h : s_X11_drop u x1 Q) : t_X11_drop u x1 Q := by
  obtain ⟨B, G, hG, hB, hm, hQ⟩ := h
  unfold fDrop at hQ
  refine isIn_of (fun c1 => ⟨fun q => absurd q (by decide), fun _ => ⟨fun _ f hf => ?_, fun q => absurd (by decide) q⟩⟩) (fun c1 => ⟨fun _ => ⟨fun q => absurd q (by decide), fun _ => ?_⟩, fun q => absurd rfl q⟩)
  · rw [if_pos c1] at hQ
    obtain ⟨k, hk, rfl, ek⟩ := key_n c1
    rw [ek] at hQ
    have hf' : mRel (gNow G) f := hG.1.same hm.now hf
    obtain ⟨ρ, β, mo, lm, L, S, M, hP⟩ := id hG.1
    refine ⟨gNow G, ρ, β, mo, lm, L, S, M, B, k, hP, hB, hk, rfl, hm.now, fun hfit hv m' hm' => ?_, fun hfit hv => ?_, fun hfit => ?_⟩
    · rw [if_pos hfit, if_pos hv] at hQ
      refine isDone_of hG hm.r hf' (by decide) (fun _ => ⟨_, hm', fun u' h1 h2 h3 h4 => ⟨fun q => absurd q (by decide), fun _ => ⟨vp_in_nI (n := 5) (by decide) (by decide), ?_⟩⟩⟩) (fun q => absurd rfl q)
      have := hQ u' h1 h2
      rw [n_c5, h1.now.1 5 (by decide)]
      show Q (uDrop (gNow G) k).2.2.2.2.2.2.1 u'
      rw [show (uDrop (gNow G) k).2.2.2.2.2.2.1 = (gNow G).2.2.2.2.2.2.1 + 1 from enter_num _ _ _ _]
      exact this
    · rw [if_pos hfit, if_neg (by rw [hv]; decide)] at hQ
      exact isDone_of hG hm.r hf' (by decide) (fun q => absurd q (by decide)) (fun _ u' h1 h2 => ⟨fun _ => hQ u' h1 h2, fun q => absurd rfl q⟩)
    · rw [if_neg (by rw [hfit]; decide)] at hQ
      exact isDone_of hG hm.r hf' (by decide) (fun q => absurd q (by decide)) (fun _ u' h1 h2 => ⟨fun _ => hQ u' h1 h2, fun q => absurd rfl q⟩)
  · rw [if_neg c1] at hQ
    exact hQ _ (hm.th 1) rfl
theorem c_X11_drop (l : Launch) (dC : Nat → ClassId) (dI : Nat → Nat → Nat) (cI cJ cS : ClassId) (a : Nat → Nat) (u : zModel) (x1 : Int32) (Q : Int32 → zModel → Prop) (hf : s_X11_drop u x1 Q) : ∀ sz : Nat, Met l yX11_drop (Cond.code yX11_drop cX11_drop 2 (some .int) :: zT) rm_X11_drop (zPm dC dI cI cJ cS (cl_X11 cI cJ a u) [.ref (a 0), .int x1] sz) (va_Qi Q (zB dC dI cI cJ cS (va_A (cl_X11 cI cJ a u) sz) (fun z => cl_X11 cI cJ a z)) (va_A (cl_X11 cI cJ a u) sz)) 0 0 (va_A (cl_X11 cI cJ a u) sz) := L_X11_drop l dC dI cI cJ cS a u x1 Q (st_X11_drop hf)

def t_X11_sync (u : zModel) (Q : Int32 → zModel → Prop) : Prop := s_X11_putsAside u (fun (u_2 : zModel) => vp_in (5 : Int32) 5497 ∧ vp_in (6 : Int32) 5497 ∧ ∀ x_3 : Int32, x_3 = ((u_2.2.1 (5 : Int32).toNatClampNeg) - (u_2.2.1 (6 : Int32).toNatClampNeg)) → vp_in (5 : Int32) 5497 ∧ vp_in (6 : Int32) 5497 ∧ ∀ f_4 : Nat → Int32, f_4 = upd u_2.2.1 (6 : Int32).toNatClampNeg (u_2.2.1 (5 : Int32).toNatClampNeg) → s_X11_isDone (u_2.1, f_4, u_2.2.2) (0 : Int32) (0 : Int32) (fun (r_5 : Int32) (u_6 : zModel) => ((r_5 = 0 → Q (0 : Int32) u_6) ∧ (¬ r_5 = 0 → Q x_3 u_6))))
theorem zc_X11_sync : zCalV RX11 yX11_sync cX11_sync 2 (some .int) 0 := ⟨q_im_X11_sync, q_se_X11_sync, q_in_X11, q_cd_X11_sync, ⟨by decide, by decide, by decide +kernel⟩, rfl⟩
abbrev rm_X11_sync : Room := { frames := 2, cells := 0, slots := 0, locals := 43 }
set_option maxHeartbeats 4000000 in
set_option maxRecDepth 100000 in
theorem L_X11_sync (l : Launch) (dC : Nat → ClassId) (dI : Nat → Nat → Nat) (cI cJ cS : ClassId) (a : Nat → Nat) (u : zModel) (Q : Int32 → zModel → Prop) (hf : t_X11_sync u Q) : ∀ sz : Nat, Met l yX11_sync (Cond.code yX11_sync cX11_sync 2 (some .int) :: zT) rm_X11_sync (zPm dC dI cI cJ cS (cl_X11 cI cJ a u) [.ref (a 0)] sz) (va_Qi Q (zB dC dI cI cJ cS (va_A (cl_X11 cI cJ a u) sz) (fun z => cl_X11 cI cJ a z)) (va_A (cl_X11 cI cJ a u) sz)) 0 0 (va_A (cl_X11 cI cJ a u) sz) := by
  intro sz
  refine z_enterM (Qc := fun A => va_Qi Q (zB dC dI cI cJ cS A (fun z => cl_X11 cI cJ a z)) A) (cc := cX11_sync) (maxL := 2) (ret := (some .int)) (by decide) (Nat.le_of_ble_eq_true rfl) ?_
  intro p e s m below meth c ls A X hP hD hS hA hl
  obtain ⟨⟨hx, hb, hml, hown, hts⟩, hr, hlk, hK⟩ := id X
  have hl : lv_has ls 2 [(0, .ref (a 0))] := hl
  unfold t_X11_sync at hf
  refine lv_aload_n hx hb dX11_sync_0 rfl (lv_at hl 0 rfl) ?_
  refine z_mVv (Wn := (fun u_2 => cl_X11 cI cJ a u_2)) (As := []) (rest := []) (wr := []) X (c_X11_putsAside l dC dI cI cJ cS a u  _ hf _) zc_X11_putsAside q_ml_X11_248 ⟨rfl, rfl⟩ ⟨Nat.le_of_ble_eq_true rfl, Nat.le_of_ble_eq_true rfl⟩ hP hD hS hA [0, 1, 2, 3, 4, 5, 6, 7, 8] [] rfl (by decide) rfl (by decide) (by decide) [0, 1, 2, 3, 4, 5, 6, 7, 8] (by decide) (fun _ => rfl) 10 rfl rfl hl.1 rfl rfl (Nat.le_of_ble_eq_true rfl) ⟨Nat.zero_le _, Nat.zero_le _⟩ dX11_sync_1 (fun u_2 H locs hf hP hD hS => ?_)
  refine lv_aload_n hx hb dX11_sync_4 rfl (lv_at hl 0 rfl) ?_
  refine va_get (D := (dC, dI)) (ci := 10) (v := .ref (a 1)) (C := RX11) (T := TX11) (N := 17) hx hb hts inX11 hown hK hP 0 rfl rfl 1 (by decide) (hts _ q_fl_X11_7) (fun _ h9 => h9) rfl dX11_sync_5 ?_
  refine lv_iconst (v := 5) hx hb dX11_sync_8 (by decide) ?_
  obtain ⟨hg, hf⟩ := hf
  refine va_iald hx hb hK hP 1 0 rfl rfl hg dX11_sync_9 ?_
  refine lv_aload_n hx hb dX11_sync_10 rfl (lv_at hl 0 rfl) ?_
  refine va_get (D := (dC, dI)) (ci := 10) (v := .ref (a 1)) (C := RX11) (T := TX11) (N := 17) hx hb hts inX11 hown hK hP 0 rfl rfl 1 (by decide) (hts _ q_fl_X11_7) (fun _ h9 => h9) rfl dX11_sync_11 ?_
  refine lv_bipush (v := 6) hx hb dX11_sync_14 (by decide) ?_
  obtain ⟨hg, hf⟩ := hf
  refine va_iald hx hb hK hP 1 0 rfl rfl hg dX11_sync_16 ?_
  refine lv_isub hx hb dX11_sync_17 ?_
  refine lv_topi (fun x_3 ex_3 => ?_)
  have hf := hf x_3 ex_3
  refine lv_istore_n (lv' := [(1, .int x_3), (0, .ref (a 0))]) hx hb dX11_sync_18 rfl hl (by decide) rfl (fun ls hl => ?_)
  refine lv_aload_n hx hb dX11_sync_19 rfl (lv_at hl 1 rfl) ?_
  refine va_get (D := (dC, dI)) (ci := 10) (v := .ref (a 1)) (C := RX11) (T := TX11) (N := 17) hx hb hts inX11 hown hK hP 0 rfl rfl 1 (by decide) (hts _ q_fl_X11_7) (fun _ h9 => h9) rfl dX11_sync_20 ?_
  refine lv_bipush (v := 6) hx hb dX11_sync_23 (by decide) ?_
  refine lv_aload_n hx hb dX11_sync_25 rfl (lv_at hl 1 rfl) ?_
  refine va_get (D := (dC, dI)) (ci := 10) (v := .ref (a 1)) (C := RX11) (T := TX11) (N := 17) hx hb hts inX11 hown hK hP 0 rfl rfl 1 (by decide) (hts _ q_fl_X11_7) (fun _ h9 => h9) rfl dX11_sync_26 ?_
  refine lv_iconst (v := 5) hx hb dX11_sync_29 (by decide) ?_
  obtain ⟨hg, hf⟩ := hf
  refine va_iald hx hb hK hP 1 0 rfl rfl hg dX11_sync_30 ?_
  obtain ⟨hg, hf⟩ := hf
  refine z_iast (Wn := fun f_4 => cl_X11 cI cJ a (u_2.1, f_4, u_2.2.2)) X hP hD hS 1 0 rfl rfl hg (fun _ => rfl) dX11_sync_31 (fun f_4 H locs ef_4 hP hD hS => ?_)
  have hf := hf f_4 ef_4
  refine lv_aload_n hx hb dX11_sync_32 rfl (lv_at hl 1 rfl) ?_
  refine lv_iconst (v := 0) hx hb dX11_sync_33 (by decide) ?_
  refine lv_iconst (v := 0) hx hb dX11_sync_34 (by decide) ?_
  refine z_mVi (Wn := (fun u_6 => cl_X11 cI cJ a u_6)) (As := [.int (0 : Int32), .int (0 : Int32)]) (rest := []) (wr := []) X (c_X11_isDone l dC dI cI cJ cS a (u_2.1, f_4, u_2.2.2) (0 : Int32) (0 : Int32) _ hf _) zc_X11_isDone q_ml_X11_257 ⟨rfl, rfl⟩ ⟨Nat.le_of_ble_eq_true rfl, Nat.le_of_ble_eq_true rfl⟩ hP hD hS hA [0, 1, 2, 3, 4, 5, 6, 7, 8] [] rfl (by decide) rfl (by decide) (by decide) [0, 1, 2, 3, 4, 5, 6, 7, 8] (by decide) (fun _ => rfl) 10 rfl rfl hl.1 rfl rfl (Nat.le_of_ble_eq_true rfl) ⟨Nat.zero_le _, Nat.zero_le _⟩ dX11_sync_35 (fun r_5 u_6 H locs hf hP hD hS => ?_)
  obtain ⟨hbr_5, hf⟩ := hf
  refine lv_if_eq (tgt := 45) hx hb dX11_sync_38 (by decide) (fun c_7 => ?_) (fun c_7 => ?_)
  · have hf := hf.1 c_7
    refine lv_iconst (v := 0) hx hb dX11_sync_45 (by decide) ?_
    exact z_retMi (Wf := (fun z => cl_X11 cI cJ a z)) (u := u_6) X hf hP hD hS dX11_sync_46
  · have hf := hf.2 c_7
    refine lv_iload_n hx hb dX11_sync_41 rfl (lv_at hl 0 rfl) ?_
    refine lv_goto (tgt := 46) hx hb dX11_sync_42 (by decide) ?_
    exact z_retMi (Wf := (fun z => cl_X11 cI cJ a z)) (u := u_6) X hf hP hD hS dX11_sync_46
theorem mRel.sync {v : zState} {m : Nat → Int32} (h : mRel v m) : mRel (uSync v) (upd m 6 (m 5)) := by
  refine h.tops (fun j hj => up_ne (by omega)) (lt16 ?_ ?_ ?_ ?_ ?_ ?_ ?_ ?_ ?_ ?_ ?_ ?_ ?_ ?_ ?_ ?_) rfl rfl rfl id rfl
  all_goals try exact (up_ne (by decide)).trans (h.1 _ (by decide))
  rw [up_eq rfl, h.1 5 (by decide)]; rfl
def s_X11_sync (u : zModel) (Q : Int32 → zModel → Prop) : Prop := ∃ (B : Nat) (G : zG), okG B G ∧ mG G u ∧ ∀ u' : zModel, mG (fSync G).2.2 u' → u'.1 = 0 → Q (fSync G).2.1 u'
theorem st_X11_sync {u : zModel} {Q : Int32 → zModel → Prop} (h : s_X11_sync u Q) : t_X11_sync u Q := by
  obtain ⟨B, G, hG, hm, hQ⟩ := h
  intro f hf
  have hf' : mRel (gNow G) f := hG.1.same hm.now hf
  dsimp only
  rw [n_c5, n_c6]
  refine ⟨vp_in_nI (n := 5) (by decide) (by decide), vp_in_nI (n := 6) (by decide) (by decide), fun x3 e3 => ⟨vp_in_nI (n := 5) (by decide) (by decide), vp_in_nI (n := 6) (by decide) (by decide), fun f4 e4 => ?_⟩⟩
  refine isDone_of (w := (u.1, f4, f, u.2.2.2)) hG hm.r hf' (by decide) (fun _ => ⟨uSync (gNow G), by show mRel _ f4; rw [e4]; exact hm.now.sync, fun u' h1 h2 h3 h4 => ⟨fun q => absurd q (by decide), fun _ => ?_⟩⟩) (fun q => absurd rfl q)
  rw [e3, hm.now.1 5 (by decide), hm.now.1 6 (by decide)]
  exact hQ u' h1 h2
theorem c_X11_sync (l : Launch) (dC : Nat → ClassId) (dI : Nat → Nat → Nat) (cI cJ cS : ClassId) (a : Nat → Nat) (u : zModel) (Q : Int32 → zModel → Prop) (hf : s_X11_sync u Q) : ∀ sz : Nat, Met l yX11_sync (Cond.code yX11_sync cX11_sync 2 (some .int) :: zT) rm_X11_sync (zPm dC dI cI cJ cS (cl_X11 cI cJ a u) [.ref (a 0)] sz) (va_Qi Q (zB dC dI cI cJ cS (va_A (cl_X11 cI cJ a u) sz) (fun z => cl_X11 cI cJ a z)) (va_A (cl_X11 cI cJ a u) sz)) 0 0 (va_A (cl_X11 cI cJ a u) sz) := L_X11_sync l dC dI cI cJ cS a u Q (st_X11_sync hf)

def t_X11_flush (u : zModel) (Q : Int32 → zModel → Prop) : Prop := s_X11_putsAside u (fun (u_2 : zModel) => s_X11_flushes u_2 (fun (u_4 : zModel) => s_X11_isDone u_4 (0 : Int32) (0 : Int32) (fun (r_5 : Int32) (u_6 : zModel) => ((r_5 = 0 → Q (0 : Int32) u_6) ∧ (¬ r_5 = 0 → vp_in (4 : Int32) 5497 ∧ Q (u_6.2.1 (4 : Int32).toNatClampNeg) u_6)))))
theorem zc_X11_flush : zCalV RX11 yX11_flush cX11_flush 1 (some .int) 0 := ⟨q_im_X11_flush, q_se_X11_flush, q_in_X11, q_cd_X11_flush, ⟨by decide, by decide, by decide +kernel⟩, rfl⟩
abbrev rm_X11_flush : Room := { frames := 5, cells := 0, slots := 0, locals := 110 }
set_option maxHeartbeats 4000000 in
set_option maxRecDepth 100000 in
theorem L_X11_flush (l : Launch) (dC : Nat → ClassId) (dI : Nat → Nat → Nat) (cI cJ cS : ClassId) (a : Nat → Nat) (u : zModel) (Q : Int32 → zModel → Prop) (hf : t_X11_flush u Q) : ∀ sz : Nat, Met l yX11_flush (Cond.code yX11_flush cX11_flush 1 (some .int) :: zT) rm_X11_flush (zPm dC dI cI cJ cS (cl_X11 cI cJ a u) [.ref (a 0)] sz) (va_Qi Q (zB dC dI cI cJ cS (va_A (cl_X11 cI cJ a u) sz) (fun z => cl_X11 cI cJ a z)) (va_A (cl_X11 cI cJ a u) sz)) 0 0 (va_A (cl_X11 cI cJ a u) sz) := by
  intro sz
  refine z_enterM (Qc := fun A => va_Qi Q (zB dC dI cI cJ cS A (fun z => cl_X11 cI cJ a z)) A) (cc := cX11_flush) (maxL := 1) (ret := (some .int)) (by decide) (Nat.le_of_ble_eq_true rfl) ?_
  intro p e s m below meth c ls A X hP hD hS hA hl
  obtain ⟨⟨hx, hb, hml, hown, hts⟩, hr, hlk, hK⟩ := id X
  have hl : lv_has ls 1 [(0, .ref (a 0))] := hl
  unfold t_X11_flush at hf
  refine lv_aload_n hx hb dX11_flush_0 rfl (lv_at hl 0 rfl) ?_
  refine z_mVv (Wn := (fun u_2 => cl_X11 cI cJ a u_2)) (As := []) (rest := []) (wr := []) X (c_X11_putsAside l dC dI cI cJ cS a u  _ hf _) zc_X11_putsAside q_ml_X11_248 ⟨rfl, rfl⟩ ⟨Nat.le_of_ble_eq_true rfl, Nat.le_of_ble_eq_true rfl⟩ hP hD hS hA [0, 1, 2, 3, 4, 5, 6, 7, 8] [] rfl (by decide) rfl (by decide) (by decide) [0, 1, 2, 3, 4, 5, 6, 7, 8] (by decide) (fun _ => rfl) 10 rfl rfl hl.1 rfl rfl (Nat.le_of_ble_eq_true rfl) ⟨Nat.zero_le _, Nat.zero_le _⟩ dX11_flush_1 (fun u_2 H locs hf hP hD hS => ?_)
  refine lv_aload_n hx hb dX11_flush_4 rfl (lv_at hl 0 rfl) ?_
  refine z_mVv (Wn := (fun u_4 => cl_X11 cI cJ a u_4)) (As := []) (rest := []) (wr := []) X (c_X11_flushes l dC dI cI cJ cS a u_2  _ hf _) zc_X11_flushes q_ml_X11_118 ⟨rfl, rfl⟩ ⟨Nat.le_of_ble_eq_true rfl, Nat.le_of_ble_eq_true rfl⟩ hP hD hS hA [0, 1, 2, 3, 4, 5, 6, 7, 8] [] rfl (by decide) rfl (by decide) (by decide) [0, 1, 2, 3, 4, 5, 6, 7, 8] (by decide) (fun _ => rfl) 10 rfl rfl hl.1 rfl rfl (Nat.le_of_ble_eq_true rfl) ⟨Nat.zero_le _, Nat.zero_le _⟩ dX11_flush_5 (fun u_4 H locs hf hP hD hS => ?_)
  refine lv_aload_n hx hb dX11_flush_8 rfl (lv_at hl 0 rfl) ?_
  refine lv_iconst (v := 0) hx hb dX11_flush_9 (by decide) ?_
  refine lv_iconst (v := 0) hx hb dX11_flush_10 (by decide) ?_
  refine z_mVi (Wn := (fun u_6 => cl_X11 cI cJ a u_6)) (As := [.int (0 : Int32), .int (0 : Int32)]) (rest := []) (wr := []) X (c_X11_isDone l dC dI cI cJ cS a u_4 (0 : Int32) (0 : Int32) _ hf _) zc_X11_isDone q_ml_X11_257 ⟨rfl, rfl⟩ ⟨Nat.le_of_ble_eq_true rfl, Nat.le_of_ble_eq_true rfl⟩ hP hD hS hA [0, 1, 2, 3, 4, 5, 6, 7, 8] [] rfl (by decide) rfl (by decide) (by decide) [0, 1, 2, 3, 4, 5, 6, 7, 8] (by decide) (fun _ => rfl) 10 rfl rfl hl.1 rfl rfl (Nat.le_of_ble_eq_true rfl) ⟨Nat.zero_le _, Nat.zero_le _⟩ dX11_flush_11 (fun r_5 u_6 H locs hf hP hD hS => ?_)
  obtain ⟨hbr_5, hf⟩ := hf
  refine lv_if_eq (tgt := 26) hx hb dX11_flush_14 (by decide) (fun c_7 => ?_) (fun c_7 => ?_)
  · have hf := hf.1 c_7
    refine lv_iconst (v := 0) hx hb dX11_flush_26 (by decide) ?_
    exact z_retMi (Wf := (fun z => cl_X11 cI cJ a z)) (u := u_6) X hf hP hD hS dX11_flush_27
  · have hf := hf.2 c_7
    refine lv_aload_n hx hb dX11_flush_17 rfl (lv_at hl 0 rfl) ?_
    refine va_get (D := (dC, dI)) (ci := 10) (v := .ref (a 1)) (C := RX11) (T := TX11) (N := 17) hx hb hts inX11 hown hK hP 0 rfl rfl 1 (by decide) (hts _ q_fl_X11_7) (fun _ h9 => h9) rfl dX11_flush_18 ?_
    refine lv_iconst (v := 4) hx hb dX11_flush_21 (by decide) ?_
    obtain ⟨hg, hf⟩ := hf
    refine va_iald hx hb hK hP 1 0 rfl rfl hg dX11_flush_22 ?_
    refine lv_goto (tgt := 27) hx hb dX11_flush_23 (by decide) ?_
    exact z_retMi (Wf := (fun z => cl_X11 cI cJ a z)) (u := u_6) X hf hP hD hS dX11_flush_27
def s_X11_flush (u : zModel) (Q : Int32 → zModel → Prop) : Prop := ∃ (B : Nat) (G : zG), okG B G ∧ mG G u ∧ ∀ u' : zModel, mG (fFlush G).2.2 u' → u'.1 = 0 → Q (fFlush G).2.1 u'
theorem st_X11_flush {u : zModel} {Q : Int32 → zModel → Prop} (h : s_X11_flush u Q) : t_X11_flush u Q := by
  obtain ⟨B, G, hG, hm, hQ⟩ := h
  intro f hf
  have hf' : mRel (gNow G) f := hG.1.same hm.now hf
  obtain ⟨ρ, β, mo, lm, L, S, M, hP⟩ := id hG.1
  refine ⟨gNow G, ρ, β, mo, lm, L, S, M, B, hP, hm.now, fun m' hm' => ?_⟩
  refine isDone_of (w := (u.1, m', f, u.2.2.2)) hG hm.r hf' (by decide) (fun _ => ⟨uFlush (gNow G), hm', fun u' h1 h2 h3 h4 => ⟨fun q => absurd q (by decide), fun _ => ⟨vp_in_nI (n := 4) (by decide) (by decide), ?_⟩⟩⟩) (fun q => absurd rfl q)
  rw [n_c4, h1.now.1 4 (by decide)]
  exact hQ u' h1 h2
theorem c_X11_flush (l : Launch) (dC : Nat → ClassId) (dI : Nat → Nat → Nat) (cI cJ cS : ClassId) (a : Nat → Nat) (u : zModel) (Q : Int32 → zModel → Prop) (hf : s_X11_flush u Q) : ∀ sz : Nat, Met l yX11_flush (Cond.code yX11_flush cX11_flush 1 (some .int) :: zT) rm_X11_flush (zPm dC dI cI cJ cS (cl_X11 cI cJ a u) [.ref (a 0)] sz) (va_Qi Q (zB dC dI cI cJ cS (va_A (cl_X11 cI cJ a u) sz) (fun z => cl_X11 cI cJ a z)) (va_A (cl_X11 cI cJ a u) sz)) 0 0 (va_A (cl_X11 cI cJ a u) sz) := L_X11_flush l dC dI cI cJ cS a u Q (st_X11_flush hf)

def t_X11_merge (u : zModel) (Q : Int32 → zModel → Prop) : Prop := s_X11_putsAside u (fun (u_2 : zModel) => s_X11_allRows u_2 (fun r_3 : Int32 => s_X11_merges u_2 (fun (u_5 : zModel) => s_X11_isDone u_5 (0 : Int32) (0 : Int32) (fun (r_6 : Int32) (u_7 : zModel) => ((r_6 = 0 → Q (0 : Int32) u_7) ∧ (¬ r_6 = 0 → s_X11_allRows u_7 (fun r_9 : Int32 => Q (r_3 - r_9) u_7)))))))
theorem zc_X11_merge : zCalV RX11 yX11_merge cX11_merge 2 (some .int) 0 := ⟨q_im_X11_merge, q_se_X11_merge, q_in_X11, q_cd_X11_merge, ⟨by decide, by decide, by decide +kernel⟩, rfl⟩
abbrev rm_X11_merge : Room := { frames := 4, cells := 0, slots := 0, locals := 88 }
set_option maxHeartbeats 4000000 in
set_option maxRecDepth 100000 in
theorem L_X11_merge (l : Launch) (dC : Nat → ClassId) (dI : Nat → Nat → Nat) (cI cJ cS : ClassId) (a : Nat → Nat) (u : zModel) (Q : Int32 → zModel → Prop) (hf : t_X11_merge u Q) : ∀ sz : Nat, Met l yX11_merge (Cond.code yX11_merge cX11_merge 2 (some .int) :: zT) rm_X11_merge (zPm dC dI cI cJ cS (cl_X11 cI cJ a u) [.ref (a 0)] sz) (va_Qi Q (zB dC dI cI cJ cS (va_A (cl_X11 cI cJ a u) sz) (fun z => cl_X11 cI cJ a z)) (va_A (cl_X11 cI cJ a u) sz)) 0 0 (va_A (cl_X11 cI cJ a u) sz) := by
  intro sz
  refine z_enterM (Qc := fun A => va_Qi Q (zB dC dI cI cJ cS A (fun z => cl_X11 cI cJ a z)) A) (cc := cX11_merge) (maxL := 2) (ret := (some .int)) (by decide) (Nat.le_of_ble_eq_true rfl) ?_
  intro p e s m below meth c ls A X hP hD hS hA hl
  obtain ⟨⟨hx, hb, hml, hown, hts⟩, hr, hlk, hK⟩ := id X
  have hl : lv_has ls 2 [(0, .ref (a 0))] := hl
  unfold t_X11_merge at hf
  refine lv_aload_n hx hb dX11_merge_0 rfl (lv_at hl 0 rfl) ?_
  refine z_mVv (Wn := (fun u_2 => cl_X11 cI cJ a u_2)) (As := []) (rest := []) (wr := []) X (c_X11_putsAside l dC dI cI cJ cS a u  _ hf _) zc_X11_putsAside q_ml_X11_248 ⟨rfl, rfl⟩ ⟨Nat.le_of_ble_eq_true rfl, Nat.le_of_ble_eq_true rfl⟩ hP hD hS hA [0, 1, 2, 3, 4, 5, 6, 7, 8] [] rfl (by decide) rfl (by decide) (by decide) [0, 1, 2, 3, 4, 5, 6, 7, 8] (by decide) (fun _ => rfl) 10 rfl rfl hl.1 rfl rfl (Nat.le_of_ble_eq_true rfl) ⟨Nat.zero_le _, Nat.zero_le _⟩ dX11_merge_1 (fun u_2 H locs hf hP hD hS => ?_)
  refine lv_aload_n hx hb dX11_merge_4 rfl (lv_at hl 0 rfl) ?_
  refine z_cVi (As := []) (rest := []) X (c_X11_allRows l dC dI cI cJ cS a u_2  _ hf) zc_X11_allRows q_ml_X11_260 ⟨rfl, rfl⟩ ⟨Nat.le_of_ble_eq_true rfl, Nat.le_of_ble_eq_true rfl⟩ hP [0, 1, 2, 3, 4, 5, 6, 7, 8] rfl 10 rfl rfl hl.1 rfl rfl (Nat.le_of_ble_eq_true rfl) ⟨Nat.zero_le _, Nat.zero_le _⟩ dX11_merge_5 (fun r_3 hf => ?_)
  refine lv_istore_n (lv' := [(1, .int r_3), (0, .ref (a 0))]) hx hb dX11_merge_8 rfl hl (by decide) rfl (fun ls hl => ?_)
  refine lv_aload_n hx hb dX11_merge_9 rfl (lv_at hl 1 rfl) ?_
  refine z_mVv (Wn := (fun u_5 => cl_X11 cI cJ a u_5)) (As := []) (rest := []) (wr := []) X (c_X11_merges l dC dI cI cJ cS a u_2  _ hf _) zc_X11_merges q_ml_X11_115 ⟨rfl, rfl⟩ ⟨Nat.le_of_ble_eq_true rfl, Nat.le_of_ble_eq_true rfl⟩ hP hD hS hA [0, 1, 2, 3, 4, 5, 6, 7, 8] [] rfl (by decide) rfl (by decide) (by decide) [0, 1, 2, 3, 4, 5, 6, 7, 8] (by decide) (fun _ => rfl) 10 rfl rfl hl.1 rfl rfl (Nat.le_of_ble_eq_true rfl) ⟨Nat.zero_le _, Nat.zero_le _⟩ dX11_merge_10 (fun u_5 H locs hf hP hD hS => ?_)
  refine lv_aload_n hx hb dX11_merge_13 rfl (lv_at hl 1 rfl) ?_
  refine lv_iconst (v := 0) hx hb dX11_merge_14 (by decide) ?_
  refine lv_iconst (v := 0) hx hb dX11_merge_15 (by decide) ?_
  refine z_mVi (Wn := (fun u_7 => cl_X11 cI cJ a u_7)) (As := [.int (0 : Int32), .int (0 : Int32)]) (rest := []) (wr := []) X (c_X11_isDone l dC dI cI cJ cS a u_5 (0 : Int32) (0 : Int32) _ hf _) zc_X11_isDone q_ml_X11_257 ⟨rfl, rfl⟩ ⟨Nat.le_of_ble_eq_true rfl, Nat.le_of_ble_eq_true rfl⟩ hP hD hS hA [0, 1, 2, 3, 4, 5, 6, 7, 8] [] rfl (by decide) rfl (by decide) (by decide) [0, 1, 2, 3, 4, 5, 6, 7, 8] (by decide) (fun _ => rfl) 10 rfl rfl hl.1 rfl rfl (Nat.le_of_ble_eq_true rfl) ⟨Nat.zero_le _, Nat.zero_le _⟩ dX11_merge_16 (fun r_6 u_7 H locs hf hP hD hS => ?_)
  obtain ⟨hbr_6, hf⟩ := hf
  refine lv_if_eq (tgt := 31) hx hb dX11_merge_19 (by decide) (fun c_8 => ?_) (fun c_8 => ?_)
  · have hf := hf.1 c_8
    refine lv_iconst (v := 0) hx hb dX11_merge_31 (by decide) ?_
    exact z_retMi (Wf := (fun z => cl_X11 cI cJ a z)) (u := u_7) X hf hP hD hS dX11_merge_32
  · have hf := hf.2 c_8
    refine lv_iload_n hx hb dX11_merge_22 rfl (lv_at hl 0 rfl) ?_
    refine lv_aload_n hx hb dX11_merge_23 rfl (lv_at hl 1 rfl) ?_
    refine z_cVi (As := []) (rest := [.int r_3]) X (c_X11_allRows l dC dI cI cJ cS a u_7  _ hf) zc_X11_allRows q_ml_X11_260 ⟨rfl, rfl⟩ ⟨Nat.le_of_ble_eq_true rfl, Nat.le_of_ble_eq_true rfl⟩ hP [0, 1, 2, 3, 4, 5, 6, 7, 8] rfl 10 rfl rfl hl.1 rfl rfl (Nat.le_of_ble_eq_true rfl) ⟨Nat.zero_le _, Nat.zero_le _⟩ dX11_merge_24 (fun r_9 hf => ?_)
    refine lv_isub hx hb dX11_merge_27 ?_
    refine lv_goto (tgt := 32) hx hb dX11_merge_28 (by decide) ?_
    exact z_retMi (Wf := (fun z => cl_X11 cI cJ a z)) (u := u_7) X hf hP hD hS dX11_merge_32
theorem merge_rows (v : zState) (ho : zOk v) : l_sum (fun i => (uMerge v).2.2.2.1.2.1 (i + 1)) (rN (uMerge v)) = nI (zFoldN v.2.2.2.1 (rN v)) := by
  have e : (uMerge v).2.2.2.1 = zFold v.2.2.2.1 (rN v) := (uMerge_same v).2.2.2.2.1
  have er : rN (uMerge v) = foldR v.2.2.2.1 (rN v) := by
    show tR (uMerge v).2.2.2.1 = _
    rw [e, fold_R]
  rw [er, e]
  unfold foldR zFoldN
  by_cases h : rN v = 0
  · rw [if_pos h, if_pos h]; rfl
  · rw [if_neg h, if_neg h]
    by_cases h2 : zLeft v.2.2.2.1.1 (rN v - 1) 64 = 0
    · rw [if_pos h2, h2]; rfl
    · rw [if_neg h2]
      unfold zFold
      rw [if_neg h]
      show (0 : Int32) + upd (zSz v.2.2.2.1.2.1 (rN v - 1)) 1 (nI (zLeft v.2.2.2.1.1 (rN v - 1) 64)) (0 + 1) = _
      rw [up_eq rfl, Int32.zero_add]
def s_X11_merge (u : zModel) (Q : Int32 → zModel → Prop) : Prop := ∃ (B : Nat) (G : zG), okG B G ∧ mG G u ∧ ∀ u' : zModel, mG (fMerge G).2.2 u' → u'.1 = 0 → Q (fMerge G).2.1 u'
theorem st_X11_merge {u : zModel} {Q : Int32 → zModel → Prop} (h : s_X11_merge u Q) : t_X11_merge u Q := by
  obtain ⟨B, G, hG, hm, hQ⟩ := h
  intro f hf
  have hf' : mRel (gNow G) f := hG.1.same hm.now hf
  obtain ⟨ρ, β, mo, lm, L, S, M, hP⟩ := id hG.1
  refine ⟨gNow G, hG.1.mok hm.now, gNow G, hP.ok, hP.2.2.2.2.2.2.2.2.2.2.1, hP.2.2.2.2.2.2.2.2.2.1.1.2, hm.now, fun m' hm' => ?_⟩
  refine isDone_of (w := (u.1, m', f, u.2.2.2)) hG hm.r hf' (by decide) (fun _ => ⟨uMerge (gNow G), hm', fun u' h1 h2 h3 h4 => ⟨fun q => absurd q (by decide), fun _ => ?_⟩⟩) (fun q => absurd rfl q)
  have hP' := zPr.merge hP
  have hP' : zP ρ β mo lm L S M B (uMerge (gNow G)) := hP'.mono (by have := hP'.2.2.2.2.2.2.2.1; have := hP.2.2.2.1; omega)
  refine ⟨uMerge (gNow G), mOk.of hP' h1.now, ?_⟩
  rw [merge_rows _ hP.ok]
  exact hQ u' h1 h2
theorem c_X11_merge (l : Launch) (dC : Nat → ClassId) (dI : Nat → Nat → Nat) (cI cJ cS : ClassId) (a : Nat → Nat) (u : zModel) (Q : Int32 → zModel → Prop) (hf : s_X11_merge u Q) : ∀ sz : Nat, Met l yX11_merge (Cond.code yX11_merge cX11_merge 2 (some .int) :: zT) rm_X11_merge (zPm dC dI cI cJ cS (cl_X11 cI cJ a u) [.ref (a 0)] sz) (va_Qi Q (zB dC dI cI cJ cS (va_A (cl_X11 cI cJ a u) sz) (fun z => cl_X11 cI cJ a z)) (va_A (cl_X11 cI cJ a u) sz)) 0 0 (va_A (cl_X11 cI cJ a u) sz) := L_X11_merge l dC dI cI cJ cS a u Q (st_X11_merge hf)

def t_X11_crash (u : zModel) (Q : Int32 → zModel → Prop) : Prop := s_X11_putsAside u (fun (u_2 : zModel) => s_X11_crash0 u_2 (fun (r_3 : Int32) (u_4 : zModel) => s_X11_isDone u_4 (0 : Int32) (0 : Int32) (fun (r_5 : Int32) (u_6 : zModel) => ((r_5 = 0 → Q (0 : Int32) u_6) ∧ (¬ r_5 = 0 → Q r_3 u_6)))))
theorem zc_X11_crash : zCalV RX11 yX11_crash cX11_crash 2 (some .int) 0 := ⟨q_im_X11_crash, q_se_X11_crash, q_in_X11, q_cd_X11_crash, ⟨by decide, by decide, by decide +kernel⟩, rfl⟩
abbrev rm_X11_crash : Room := { frames := 3, cells := 0, slots := 0, locals := 73 }
set_option maxHeartbeats 4000000 in
set_option maxRecDepth 100000 in
theorem L_X11_crash (l : Launch) (dC : Nat → ClassId) (dI : Nat → Nat → Nat) (cI cJ cS : ClassId) (a : Nat → Nat) (u : zModel) (Q : Int32 → zModel → Prop) (hf : t_X11_crash u Q) : ∀ sz : Nat, Met l yX11_crash (Cond.code yX11_crash cX11_crash 2 (some .int) :: zT) rm_X11_crash (zPm dC dI cI cJ cS (cl_X11 cI cJ a u) [.ref (a 0)] sz) (va_Qi Q (zB dC dI cI cJ cS (va_A (cl_X11 cI cJ a u) sz) (fun z => cl_X11 cI cJ a z)) (va_A (cl_X11 cI cJ a u) sz)) 0 0 (va_A (cl_X11 cI cJ a u) sz) := by
  intro sz
  refine z_enterM (Qc := fun A => va_Qi Q (zB dC dI cI cJ cS A (fun z => cl_X11 cI cJ a z)) A) (cc := cX11_crash) (maxL := 2) (ret := (some .int)) (by decide) (Nat.le_of_ble_eq_true rfl) ?_
  intro p e s m below meth c ls A X hP hD hS hA hl
  obtain ⟨⟨hx, hb, hml, hown, hts⟩, hr, hlk, hK⟩ := id X
  have hl : lv_has ls 2 [(0, .ref (a 0))] := hl
  unfold t_X11_crash at hf
  refine lv_aload_n hx hb dX11_crash_0 rfl (lv_at hl 0 rfl) ?_
  refine z_mVv (Wn := (fun u_2 => cl_X11 cI cJ a u_2)) (As := []) (rest := []) (wr := []) X (c_X11_putsAside l dC dI cI cJ cS a u  _ hf _) zc_X11_putsAside q_ml_X11_248 ⟨rfl, rfl⟩ ⟨Nat.le_of_ble_eq_true rfl, Nat.le_of_ble_eq_true rfl⟩ hP hD hS hA [0, 1, 2, 3, 4, 5, 6, 7, 8] [] rfl (by decide) rfl (by decide) (by decide) [0, 1, 2, 3, 4, 5, 6, 7, 8] (by decide) (fun _ => rfl) 10 rfl rfl hl.1 rfl rfl (Nat.le_of_ble_eq_true rfl) ⟨Nat.zero_le _, Nat.zero_le _⟩ dX11_crash_1 (fun u_2 H locs hf hP hD hS => ?_)
  refine lv_aload_n hx hb dX11_crash_4 rfl (lv_at hl 0 rfl) ?_
  refine z_mVi (Wn := (fun u_4 => cl_X11 cI cJ a u_4)) (As := []) (rest := []) (wr := []) X (c_X11_crash0 l dC dI cI cJ cS a u_2  _ hf _) zc_X11_crash0 q_ml_X11_228 ⟨rfl, rfl⟩ ⟨Nat.le_of_ble_eq_true rfl, Nat.le_of_ble_eq_true rfl⟩ hP hD hS hA [0, 1, 2, 3, 4, 5, 6, 7, 8] [] rfl (by decide) rfl (by decide) (by decide) [0, 1, 2, 3, 4, 5, 6, 7, 8] (by decide) (fun _ => rfl) 10 rfl rfl hl.1 rfl rfl (Nat.le_of_ble_eq_true rfl) ⟨Nat.zero_le _, Nat.zero_le _⟩ dX11_crash_5 (fun r_3 u_4 H locs hf hP hD hS => ?_)
  refine lv_istore_n (lv' := [(1, .int r_3), (0, .ref (a 0))]) hx hb dX11_crash_8 rfl hl (by decide) rfl (fun ls hl => ?_)
  refine lv_aload_n hx hb dX11_crash_9 rfl (lv_at hl 1 rfl) ?_
  refine lv_iconst (v := 0) hx hb dX11_crash_10 (by decide) ?_
  refine lv_iconst (v := 0) hx hb dX11_crash_11 (by decide) ?_
  refine z_mVi (Wn := (fun u_6 => cl_X11 cI cJ a u_6)) (As := [.int (0 : Int32), .int (0 : Int32)]) (rest := []) (wr := []) X (c_X11_isDone l dC dI cI cJ cS a u_4 (0 : Int32) (0 : Int32) _ hf _) zc_X11_isDone q_ml_X11_257 ⟨rfl, rfl⟩ ⟨Nat.le_of_ble_eq_true rfl, Nat.le_of_ble_eq_true rfl⟩ hP hD hS hA [0, 1, 2, 3, 4, 5, 6, 7, 8] [] rfl (by decide) rfl (by decide) (by decide) [0, 1, 2, 3, 4, 5, 6, 7, 8] (by decide) (fun _ => rfl) 10 rfl rfl hl.1 rfl rfl (Nat.le_of_ble_eq_true rfl) ⟨Nat.zero_le _, Nat.zero_le _⟩ dX11_crash_12 (fun r_5 u_6 H locs hf hP hD hS => ?_)
  obtain ⟨hbr_5, hf⟩ := hf
  refine lv_if_eq (tgt := 22) hx hb dX11_crash_15 (by decide) (fun c_7 => ?_) (fun c_7 => ?_)
  · have hf := hf.1 c_7
    refine lv_iconst (v := 0) hx hb dX11_crash_22 (by decide) ?_
    exact z_retMi (Wf := (fun z => cl_X11 cI cJ a z)) (u := u_6) X hf hP hD hS dX11_crash_23
  · have hf := hf.2 c_7
    refine lv_iload_n hx hb dX11_crash_18 rfl (lv_at hl 0 rfl) ?_
    refine lv_goto (tgt := 23) hx hb dX11_crash_19 (by decide) ?_
    exact z_retMi (Wf := (fun z => cl_X11 cI cJ a z)) (u := u_6) X hf hP hD hS dX11_crash_23
def s_X11_crash (u : zModel) (Q : Int32 → zModel → Prop) : Prop := ∃ (B : Nat) (G : zG), okG B G ∧ mG G u ∧ ∀ u' : zModel, mG (fCrash G).2.2 u' → u'.1 = 0 → Q (fCrash G).2.1 u'
theorem st_X11_crash {u : zModel} {Q : Int32 → zModel → Prop} (h : s_X11_crash u Q) : t_X11_crash u Q := by
  obtain ⟨B, G, hG, hm, hQ⟩ := h
  intro f hf
  have hf' : mRel (gNow G) f := hG.1.same hm.now hf
  obtain ⟨ρ, β, mo, lm, L, S, M, hP⟩ := id hG.1
  refine ⟨gNow G, ρ, β, mo, lm, L, S, M, B, hP, hm.now, fun m' hm' => ?_⟩
  exact isDone_of (w := (u.1, m', f, u.2.2.2)) hG hm.r hf' (by decide) (fun _ => ⟨uCrash (gNow G), hm', fun u' h1 h2 h3 h4 => ⟨fun q => absurd q (by decide), fun _ => hQ u' h1 h2⟩⟩) (fun q => absurd rfl q)
theorem c_X11_crash (l : Launch) (dC : Nat → ClassId) (dI : Nat → Nat → Nat) (cI cJ cS : ClassId) (a : Nat → Nat) (u : zModel) (Q : Int32 → zModel → Prop) (hf : s_X11_crash u Q) : ∀ sz : Nat, Met l yX11_crash (Cond.code yX11_crash cX11_crash 2 (some .int) :: zT) rm_X11_crash (zPm dC dI cI cJ cS (cl_X11 cI cJ a u) [.ref (a 0)] sz) (va_Qi Q (zB dC dI cI cJ cS (va_A (cl_X11 cI cJ a u) sz) (fun z => cl_X11 cI cJ a z)) (va_A (cl_X11 cI cJ a u) sz)) 0 0 (va_A (cl_X11 cI cJ a u) sz) := L_X11_crash l dC dI cI cJ cS a u Q (st_X11_crash hf)

def t_X11_pick (u : zModel) (x1 : Int32) (Q : Int32 → zModel → Prop) : Prop := ((x1 = (-1 : Int32) → (((0 : Int32) ≤ 0 → s_X11_putsAside ((0 : Int32), u.2) (fun (u_4 : zModel) => s_X11_pick0 u_4 x1 (fun (r_5 : Int32) (u_6 : zModel) => s_X11_isDone u_6 r_5 (2 : Int32) (fun (r_7 : Int32) (u_8 : zModel) => ((r_7 = 0 → Q (0 : Int32) u_8) ∧ (¬ r_7 = 0 → vp_in (9 : Int32) 5497 ∧ Q (u_8.2.1 (9 : Int32).toNatClampNeg) u_8)))))) ∧ (¬ (0 : Int32) ≤ 0 → Q (0 : Int32) ((0 : Int32), u.2)))) ∧ (¬ x1 = (-1 : Int32) → s_X11_isSegment x1 (fun r_10 : Int32 => ((r_10 = 0 → (((1 : Int32) ≤ 0 → s_X11_putsAside ((1 : Int32), u.2) (fun (u_14 : zModel) => s_X11_pick0 u_14 x1 (fun (r_15 : Int32) (u_16 : zModel) => s_X11_isDone u_16 r_15 (2 : Int32) (fun (r_17 : Int32) (u_18 : zModel) => ((r_17 = 0 → Q (0 : Int32) u_18) ∧ (¬ r_17 = 0 → vp_in (9 : Int32) 5497 ∧ Q (u_18.2.1 (9 : Int32).toNatClampNeg) u_18)))))) ∧ (¬ (1 : Int32) ≤ 0 → Q (0 : Int32) ((1 : Int32), u.2)))) ∧ (¬ r_10 = 0 → (((0 : Int32) ≤ 0 → s_X11_putsAside ((0 : Int32), u.2) (fun (u_22 : zModel) => s_X11_pick0 u_22 x1 (fun (r_23 : Int32) (u_24 : zModel) => s_X11_isDone u_24 r_23 (2 : Int32) (fun (r_25 : Int32) (u_26 : zModel) => ((r_25 = 0 → Q (0 : Int32) u_26) ∧ (¬ r_25 = 0 → vp_in (9 : Int32) 5497 ∧ Q (u_26.2.1 (9 : Int32).toNatClampNeg) u_26)))))) ∧ (¬ (0 : Int32) ≤ 0 → Q (0 : Int32) ((0 : Int32), u.2))))))))
theorem zc_X11_pick : zCalV RX11 yX11_pick cX11_pick 2 (some .int) 1 := ⟨q_im_X11_pick, q_se_X11_pick, q_in_X11, q_cd_X11_pick, ⟨by decide, by decide, by decide +kernel⟩, rfl⟩
abbrev rm_X11_pick : Room := { frames := 8, cells := 0, slots := 0, locals := 180 }
set_option maxHeartbeats 4000000 in
set_option maxRecDepth 100000 in
theorem L_X11_pick (l : Launch) (dC : Nat → ClassId) (dI : Nat → Nat → Nat) (cI cJ cS : ClassId) (a : Nat → Nat) (u : zModel) (x1 : Int32) (Q : Int32 → zModel → Prop) (hf : t_X11_pick u x1 Q) : ∀ sz : Nat, Met l yX11_pick (Cond.code yX11_pick cX11_pick 2 (some .int) :: zT) rm_X11_pick (zPm dC dI cI cJ cS (cl_X11 cI cJ a u) [.ref (a 0), .int x1] sz) (va_Qi Q (zB dC dI cI cJ cS (va_A (cl_X11 cI cJ a u) sz) (fun z => cl_X11 cI cJ a z)) (va_A (cl_X11 cI cJ a u) sz)) 0 0 (va_A (cl_X11 cI cJ a u) sz) := by
  intro sz
  refine z_enterM (Qc := fun A => va_Qi Q (zB dC dI cI cJ cS A (fun z => cl_X11 cI cJ a z)) A) (cc := cX11_pick) (maxL := 2) (ret := (some .int)) (by decide) (Nat.le_of_ble_eq_true rfl) ?_
  intro p e s m below meth c ls A X hP hD hS hA hl
  obtain ⟨⟨hx, hb, hml, hown, hts⟩, hr, hlk, hK⟩ := id X
  have hl : lv_has ls 2 [(0, .ref (a 0)), (1, .int x1)] := hl
  unfold t_X11_pick at hf
  refine lv_aload_n hx hb dX11_pick_0 rfl (lv_at hl 0 rfl) ?_
  refine lv_iload_n hx hb dX11_pick_1 rfl (lv_at hl 1 rfl) ?_
  refine lv_iconst (v := (-1)) hx hb dX11_pick_2 (by decide) ?_
  refine lv_icmp_eq (tgt := 13) hx hb dX11_pick_3 (by decide) (fun c_1 => ?_) (fun c_1 => ?_)
  · have hf := hf.1 c_1
    refine lv_iconst (v := 0) hx hb dX11_pick_13 (by decide) ?_
    refine lv_goto (tgt := 18) hx hb dX11_pick_14 (by decide) ?_
    refine z_put (w' := cl_X11 cI cJ a ((0 : Int32), u.2)) (ci := 10) (v := .int (0 : Int32)) (ty := .int) (Cn := RX11) (T := TX11) (N := 17) X inX11 tyX11 tyX11_ok nmX11 hP hD hS 0 rfl rfl 0 (by decide) (hts _ q_fl_X11_43) (fun _ h9 => h9) rfl (tyX11_ok 0 (by decide)) rfl rfl (Nat.le_of_ble_eq_true rfl) rfl dX11_pick_18 (fun H locs hP hD hS => ?_)
    refine lv_aload_n hx hb dX11_pick_21 rfl (lv_at hl 0 rfl) ?_
    refine va_get (D := (dC, dI)) (ci := 10) (v := .int (0 : Int32)) (C := RX11) (T := TX11) (N := 17) hx hb hts inX11 hown hK hP 0 rfl rfl 0 (by decide) (hts _ q_fl_X11_43) (fun _ h9 => h9) rfl dX11_pick_22 ?_
    refine lv_if_le (tgt := 30) hx hb dX11_pick_25 (by decide) (fun c_2 => ?_) (fun c_2 => ?_)
    · have hf := hf.1 c_2
      refine lv_aload_n hx hb dX11_pick_30 rfl (lv_at hl 0 rfl) ?_
      refine z_mVv (Wn := (fun u_4 => cl_X11 cI cJ a u_4)) (As := []) (rest := []) (wr := []) X (c_X11_putsAside l dC dI cI cJ cS a ((0 : Int32), u.2)  _ hf _) zc_X11_putsAside q_ml_X11_248 ⟨rfl, rfl⟩ ⟨Nat.le_of_ble_eq_true rfl, Nat.le_of_ble_eq_true rfl⟩ hP hD hS hA [0, 1, 2, 3, 4, 5, 6, 7, 8] [] rfl (by decide) rfl (by decide) (by decide) [0, 1, 2, 3, 4, 5, 6, 7, 8] (by decide) (fun _ => rfl) 10 rfl rfl hl.1 rfl rfl (Nat.le_of_ble_eq_true rfl) ⟨Nat.zero_le _, Nat.zero_le _⟩ dX11_pick_31 (fun u_4 H locs hf hP hD hS => ?_)
      refine lv_aload_n hx hb dX11_pick_34 rfl (lv_at hl 0 rfl) ?_
      refine lv_aload_n hx hb dX11_pick_35 rfl (lv_at hl 0 rfl) ?_
      refine lv_iload_n hx hb dX11_pick_36 rfl (lv_at hl 1 rfl) ?_
      refine z_mVi (Wn := (fun u_6 => cl_X11 cI cJ a u_6)) (As := [.int x1]) (rest := [.ref (a 0)]) (wr := []) X (c_X11_pick0 l dC dI cI cJ cS a u_4 x1 _ hf _) zc_X11_pick0 q_ml_X11_200 ⟨rfl, rfl⟩ ⟨Nat.le_of_ble_eq_true rfl, Nat.le_of_ble_eq_true rfl⟩ hP hD hS hA [0, 1, 2, 3, 4, 5, 6, 7, 8] [] rfl (by decide) rfl (by decide) (by decide) [0, 1, 2, 3, 4, 5, 6, 7, 8] (by decide) (fun _ => rfl) 10 rfl rfl hl.1 rfl rfl (Nat.le_of_ble_eq_true rfl) ⟨Nat.zero_le _, Nat.zero_le _⟩ dX11_pick_37 (fun r_5 u_6 H locs hf hP hD hS => ?_)
      refine lv_iconst (v := 2) hx hb dX11_pick_40 (by decide) ?_
      refine z_mVi (Wn := (fun u_8 => cl_X11 cI cJ a u_8)) (As := [.int r_5, .int (2 : Int32)]) (rest := []) (wr := []) X (c_X11_isDone l dC dI cI cJ cS a u_6 r_5 (2 : Int32) _ hf _) zc_X11_isDone q_ml_X11_257 ⟨rfl, rfl⟩ ⟨Nat.le_of_ble_eq_true rfl, Nat.le_of_ble_eq_true rfl⟩ hP hD hS hA [0, 1, 2, 3, 4, 5, 6, 7, 8] [] rfl (by decide) rfl (by decide) (by decide) [0, 1, 2, 3, 4, 5, 6, 7, 8] (by decide) (fun _ => rfl) 10 rfl rfl hl.1 rfl rfl (Nat.le_of_ble_eq_true rfl) ⟨Nat.zero_le _, Nat.zero_le _⟩ dX11_pick_41 (fun r_7 u_8 H locs hf hP hD hS => ?_)
      obtain ⟨hbr_7, hf⟩ := hf
      refine lv_if_eq (tgt := 57) hx hb dX11_pick_44 (by decide) (fun c_9 => ?_) (fun c_9 => ?_)
      · have hf := hf.1 c_9
        refine lv_iconst (v := 0) hx hb dX11_pick_57 (by decide) ?_
        exact z_retMi (Wf := (fun z => cl_X11 cI cJ a z)) (u := u_8) X hf hP hD hS dX11_pick_58
      · have hf := hf.2 c_9
        refine lv_aload_n hx hb dX11_pick_47 rfl (lv_at hl 0 rfl) ?_
        refine va_get (D := (dC, dI)) (ci := 10) (v := .ref (a 1)) (C := RX11) (T := TX11) (N := 17) hx hb hts inX11 hown hK hP 0 rfl rfl 1 (by decide) (hts _ q_fl_X11_7) (fun _ h9 => h9) rfl dX11_pick_48 ?_
        refine lv_bipush (v := 9) hx hb dX11_pick_51 (by decide) ?_
        obtain ⟨hg, hf⟩ := hf
        refine va_iald hx hb hK hP 1 0 rfl rfl hg dX11_pick_53 ?_
        refine lv_goto (tgt := 58) hx hb dX11_pick_54 (by decide) ?_
        exact z_retMi (Wf := (fun z => cl_X11 cI cJ a z)) (u := u_8) X hf hP hD hS dX11_pick_58
    · have hf := hf.2 c_2
      refine lv_iconst (v := 0) hx hb dX11_pick_28 (by decide) ?_
      exact z_retMi (Wf := (fun z => cl_X11 cI cJ a z)) (u := ((0 : Int32), u.2)) X hf hP hD hS dX11_pick_29
  · have hf := hf.2 c_1
    refine lv_iload_n hx hb dX11_pick_6 rfl (lv_at hl 1 rfl) ?_
    refine z_cSi (As := [.int x1]) (rest := [.ref (a 0)]) X (c_X11_isSegment l dC dI cI cJ cS   x1 _ hf) zc_X11_isSegment q_ml_X11_263 ⟨rfl, rfl⟩ ⟨Nat.le_of_ble_eq_true rfl, Nat.le_of_ble_eq_true rfl⟩ hP [] rfl hl.1 rfl rfl (Nat.le_of_ble_eq_true rfl) ⟨Nat.zero_le _, Nat.zero_le _⟩ dX11_pick_7 (fun r_10 hf => ?_)
    obtain ⟨hbr_10, hf⟩ := hf
    refine lv_if_eq (tgt := 17) hx hb dX11_pick_10 (by decide) (fun c_11 => ?_) (fun c_11 => ?_)
    · have hf := hf.1 c_11
      refine lv_iconst (v := 1) hx hb dX11_pick_17 (by decide) ?_
      refine z_put (w' := cl_X11 cI cJ a ((1 : Int32), u.2)) (ci := 10) (v := .int (1 : Int32)) (ty := .int) (Cn := RX11) (T := TX11) (N := 17) X inX11 tyX11 tyX11_ok nmX11 hP hD hS 0 rfl rfl 0 (by decide) (hts _ q_fl_X11_43) (fun _ h9 => h9) rfl (tyX11_ok 0 (by decide)) rfl rfl (Nat.le_of_ble_eq_true rfl) rfl dX11_pick_18 (fun H locs hP hD hS => ?_)
      refine lv_aload_n hx hb dX11_pick_21 rfl (lv_at hl 0 rfl) ?_
      refine va_get (D := (dC, dI)) (ci := 10) (v := .int (1 : Int32)) (C := RX11) (T := TX11) (N := 17) hx hb hts inX11 hown hK hP 0 rfl rfl 0 (by decide) (hts _ q_fl_X11_43) (fun _ h9 => h9) rfl dX11_pick_22 ?_
      refine lv_if_le (tgt := 30) hx hb dX11_pick_25 (by decide) (fun c_12 => ?_) (fun c_12 => ?_)
      · have hf := hf.1 c_12
        refine lv_aload_n hx hb dX11_pick_30 rfl (lv_at hl 0 rfl) ?_
        refine z_mVv (Wn := (fun u_14 => cl_X11 cI cJ a u_14)) (As := []) (rest := []) (wr := []) X (c_X11_putsAside l dC dI cI cJ cS a ((1 : Int32), u.2)  _ hf _) zc_X11_putsAside q_ml_X11_248 ⟨rfl, rfl⟩ ⟨Nat.le_of_ble_eq_true rfl, Nat.le_of_ble_eq_true rfl⟩ hP hD hS hA [0, 1, 2, 3, 4, 5, 6, 7, 8] [] rfl (by decide) rfl (by decide) (by decide) [0, 1, 2, 3, 4, 5, 6, 7, 8] (by decide) (fun _ => rfl) 10 rfl rfl hl.1 rfl rfl (Nat.le_of_ble_eq_true rfl) ⟨Nat.zero_le _, Nat.zero_le _⟩ dX11_pick_31 (fun u_14 H locs hf hP hD hS => ?_)
        refine lv_aload_n hx hb dX11_pick_34 rfl (lv_at hl 0 rfl) ?_
        refine lv_aload_n hx hb dX11_pick_35 rfl (lv_at hl 0 rfl) ?_
        refine lv_iload_n hx hb dX11_pick_36 rfl (lv_at hl 1 rfl) ?_
        refine z_mVi (Wn := (fun u_16 => cl_X11 cI cJ a u_16)) (As := [.int x1]) (rest := [.ref (a 0)]) (wr := []) X (c_X11_pick0 l dC dI cI cJ cS a u_14 x1 _ hf _) zc_X11_pick0 q_ml_X11_200 ⟨rfl, rfl⟩ ⟨Nat.le_of_ble_eq_true rfl, Nat.le_of_ble_eq_true rfl⟩ hP hD hS hA [0, 1, 2, 3, 4, 5, 6, 7, 8] [] rfl (by decide) rfl (by decide) (by decide) [0, 1, 2, 3, 4, 5, 6, 7, 8] (by decide) (fun _ => rfl) 10 rfl rfl hl.1 rfl rfl (Nat.le_of_ble_eq_true rfl) ⟨Nat.zero_le _, Nat.zero_le _⟩ dX11_pick_37 (fun r_15 u_16 H locs hf hP hD hS => ?_)
        refine lv_iconst (v := 2) hx hb dX11_pick_40 (by decide) ?_
        refine z_mVi (Wn := (fun u_18 => cl_X11 cI cJ a u_18)) (As := [.int r_15, .int (2 : Int32)]) (rest := []) (wr := []) X (c_X11_isDone l dC dI cI cJ cS a u_16 r_15 (2 : Int32) _ hf _) zc_X11_isDone q_ml_X11_257 ⟨rfl, rfl⟩ ⟨Nat.le_of_ble_eq_true rfl, Nat.le_of_ble_eq_true rfl⟩ hP hD hS hA [0, 1, 2, 3, 4, 5, 6, 7, 8] [] rfl (by decide) rfl (by decide) (by decide) [0, 1, 2, 3, 4, 5, 6, 7, 8] (by decide) (fun _ => rfl) 10 rfl rfl hl.1 rfl rfl (Nat.le_of_ble_eq_true rfl) ⟨Nat.zero_le _, Nat.zero_le _⟩ dX11_pick_41 (fun r_17 u_18 H locs hf hP hD hS => ?_)
        obtain ⟨hbr_17, hf⟩ := hf
        refine lv_if_eq (tgt := 57) hx hb dX11_pick_44 (by decide) (fun c_19 => ?_) (fun c_19 => ?_)
        · have hf := hf.1 c_19
          refine lv_iconst (v := 0) hx hb dX11_pick_57 (by decide) ?_
          exact z_retMi (Wf := (fun z => cl_X11 cI cJ a z)) (u := u_18) X hf hP hD hS dX11_pick_58
        · have hf := hf.2 c_19
          refine lv_aload_n hx hb dX11_pick_47 rfl (lv_at hl 0 rfl) ?_
          refine va_get (D := (dC, dI)) (ci := 10) (v := .ref (a 1)) (C := RX11) (T := TX11) (N := 17) hx hb hts inX11 hown hK hP 0 rfl rfl 1 (by decide) (hts _ q_fl_X11_7) (fun _ h9 => h9) rfl dX11_pick_48 ?_
          refine lv_bipush (v := 9) hx hb dX11_pick_51 (by decide) ?_
          obtain ⟨hg, hf⟩ := hf
          refine va_iald hx hb hK hP 1 0 rfl rfl hg dX11_pick_53 ?_
          refine lv_goto (tgt := 58) hx hb dX11_pick_54 (by decide) ?_
          exact z_retMi (Wf := (fun z => cl_X11 cI cJ a z)) (u := u_18) X hf hP hD hS dX11_pick_58
      · have hf := hf.2 c_12
        refine lv_iconst (v := 0) hx hb dX11_pick_28 (by decide) ?_
        exact z_retMi (Wf := (fun z => cl_X11 cI cJ a z)) (u := ((1 : Int32), u.2)) X hf hP hD hS dX11_pick_29
    · have hf := hf.2 c_11
      refine lv_iconst (v := 0) hx hb dX11_pick_13 (by decide) ?_
      refine lv_goto (tgt := 18) hx hb dX11_pick_14 (by decide) ?_
      refine z_put (w' := cl_X11 cI cJ a ((0 : Int32), u.2)) (ci := 10) (v := .int (0 : Int32)) (ty := .int) (Cn := RX11) (T := TX11) (N := 17) X inX11 tyX11 tyX11_ok nmX11 hP hD hS 0 rfl rfl 0 (by decide) (hts _ q_fl_X11_43) (fun _ h9 => h9) rfl (tyX11_ok 0 (by decide)) rfl rfl (Nat.le_of_ble_eq_true rfl) rfl dX11_pick_18 (fun H locs hP hD hS => ?_)
      refine lv_aload_n hx hb dX11_pick_21 rfl (lv_at hl 0 rfl) ?_
      refine va_get (D := (dC, dI)) (ci := 10) (v := .int (0 : Int32)) (C := RX11) (T := TX11) (N := 17) hx hb hts inX11 hown hK hP 0 rfl rfl 0 (by decide) (hts _ q_fl_X11_43) (fun _ h9 => h9) rfl dX11_pick_22 ?_
      refine lv_if_le (tgt := 30) hx hb dX11_pick_25 (by decide) (fun c_20 => ?_) (fun c_20 => ?_)
      · have hf := hf.1 c_20
        refine lv_aload_n hx hb dX11_pick_30 rfl (lv_at hl 0 rfl) ?_
        refine z_mVv (Wn := (fun u_22 => cl_X11 cI cJ a u_22)) (As := []) (rest := []) (wr := []) X (c_X11_putsAside l dC dI cI cJ cS a ((0 : Int32), u.2)  _ hf _) zc_X11_putsAside q_ml_X11_248 ⟨rfl, rfl⟩ ⟨Nat.le_of_ble_eq_true rfl, Nat.le_of_ble_eq_true rfl⟩ hP hD hS hA [0, 1, 2, 3, 4, 5, 6, 7, 8] [] rfl (by decide) rfl (by decide) (by decide) [0, 1, 2, 3, 4, 5, 6, 7, 8] (by decide) (fun _ => rfl) 10 rfl rfl hl.1 rfl rfl (Nat.le_of_ble_eq_true rfl) ⟨Nat.zero_le _, Nat.zero_le _⟩ dX11_pick_31 (fun u_22 H locs hf hP hD hS => ?_)
        refine lv_aload_n hx hb dX11_pick_34 rfl (lv_at hl 0 rfl) ?_
        refine lv_aload_n hx hb dX11_pick_35 rfl (lv_at hl 0 rfl) ?_
        refine lv_iload_n hx hb dX11_pick_36 rfl (lv_at hl 1 rfl) ?_
        refine z_mVi (Wn := (fun u_24 => cl_X11 cI cJ a u_24)) (As := [.int x1]) (rest := [.ref (a 0)]) (wr := []) X (c_X11_pick0 l dC dI cI cJ cS a u_22 x1 _ hf _) zc_X11_pick0 q_ml_X11_200 ⟨rfl, rfl⟩ ⟨Nat.le_of_ble_eq_true rfl, Nat.le_of_ble_eq_true rfl⟩ hP hD hS hA [0, 1, 2, 3, 4, 5, 6, 7, 8] [] rfl (by decide) rfl (by decide) (by decide) [0, 1, 2, 3, 4, 5, 6, 7, 8] (by decide) (fun _ => rfl) 10 rfl rfl hl.1 rfl rfl (Nat.le_of_ble_eq_true rfl) ⟨Nat.zero_le _, Nat.zero_le _⟩ dX11_pick_37 (fun r_23 u_24 H locs hf hP hD hS => ?_)
        refine lv_iconst (v := 2) hx hb dX11_pick_40 (by decide) ?_
        refine z_mVi (Wn := (fun u_26 => cl_X11 cI cJ a u_26)) (As := [.int r_23, .int (2 : Int32)]) (rest := []) (wr := []) X (c_X11_isDone l dC dI cI cJ cS a u_24 r_23 (2 : Int32) _ hf _) zc_X11_isDone q_ml_X11_257 ⟨rfl, rfl⟩ ⟨Nat.le_of_ble_eq_true rfl, Nat.le_of_ble_eq_true rfl⟩ hP hD hS hA [0, 1, 2, 3, 4, 5, 6, 7, 8] [] rfl (by decide) rfl (by decide) (by decide) [0, 1, 2, 3, 4, 5, 6, 7, 8] (by decide) (fun _ => rfl) 10 rfl rfl hl.1 rfl rfl (Nat.le_of_ble_eq_true rfl) ⟨Nat.zero_le _, Nat.zero_le _⟩ dX11_pick_41 (fun r_25 u_26 H locs hf hP hD hS => ?_)
        obtain ⟨hbr_25, hf⟩ := hf
        refine lv_if_eq (tgt := 57) hx hb dX11_pick_44 (by decide) (fun c_27 => ?_) (fun c_27 => ?_)
        · have hf := hf.1 c_27
          refine lv_iconst (v := 0) hx hb dX11_pick_57 (by decide) ?_
          exact z_retMi (Wf := (fun z => cl_X11 cI cJ a z)) (u := u_26) X hf hP hD hS dX11_pick_58
        · have hf := hf.2 c_27
          refine lv_aload_n hx hb dX11_pick_47 rfl (lv_at hl 0 rfl) ?_
          refine va_get (D := (dC, dI)) (ci := 10) (v := .ref (a 1)) (C := RX11) (T := TX11) (N := 17) hx hb hts inX11 hown hK hP 0 rfl rfl 1 (by decide) (hts _ q_fl_X11_7) (fun _ h9 => h9) rfl dX11_pick_48 ?_
          refine lv_bipush (v := 9) hx hb dX11_pick_51 (by decide) ?_
          obtain ⟨hg, hf⟩ := hf
          refine va_iald hx hb hK hP 1 0 rfl rfl hg dX11_pick_53 ?_
          refine lv_goto (tgt := 58) hx hb dX11_pick_54 (by decide) ?_
          exact z_retMi (Wf := (fun z => cl_X11 cI cJ a z)) (u := u_26) X hf hP hD hS dX11_pick_58
      · have hf := hf.2 c_20
        refine lv_iconst (v := 0) hx hb dX11_pick_28 (by decide) ?_
        exact z_retMi (Wf := (fun z => cl_X11 cI cJ a z)) (u := ((0 : Int32), u.2)) X hf hP hD hS dX11_pick_29
theorem uRp_pos (v : zState) (x : Int32) : ¬ uRp v x < 0 := by
  unfold uRp
  split
  · split
    · decide
    · split <;> decide
  · decide
def s_X11_pick (u : zModel) (x1 : Int32) (Q : Int32 → zModel → Prop) : Prop := ∃ (B : Nat) (G : zG), okG B G ∧ mG G u ∧ ∀ u' : zModel, mG (fPick G x1).2.2 u' → u'.1 = (fPick G x1).1 → Q (fPick G x1).2.1 u'
theorem st_X11_pick {u : zModel} {x1 : Int32} {Q : Int32 → zModel → Prop} (h : s_X11_pick u x1 Q) : t_X11_pick u x1 Q := by
  obtain ⟨B, G, hG, hm, hQ⟩ := h
  unfold fPick at hQ
  have act : ∀ hx : x1 = -1 ∨ inR x1 0 11, s_X11_putsAside ((0 : Int32), u.2) (fun (u_4 : zModel) => s_X11_pick0 u_4 x1 (fun (r_5 : Int32) (u_6 : zModel) => s_X11_isDone u_6 r_5 (2 : Int32) (fun (r_7 : Int32) (u_8 : zModel) => ((r_7 = 0 → Q (0 : Int32) u_8) ∧ (¬ r_7 = 0 → vp_in (9 : Int32) 5497 ∧ Q (u_8.2.1 (9 : Int32).toNatClampNeg) u_8))))) := by
    intro hx f hf
    rw [if_pos hx] at hQ
    have hf' : mRel (gNow G) f := hG.1.same hm.now hf
    obtain ⟨ρ, β, mo, lm, L, S, M, hP⟩ := id hG.1
    refine ⟨gNow G, ρ, β, mo, lm, L, S, M, B, hP, hm.now, hx.imp id (fun q => by obtain ⟨n, a, b, -⟩ := seg_n q; exact ⟨n, a, b⟩), fun s hs es h0 m' hm' => ?_, fun h0 => ?_⟩
    · rw [if_pos h0, es, nI_clamp (by omega)] at hQ
      refine isDone_of (w := (0, m', f, u.2.2.2)) hG hm.r hf' (by decide) (fun _ => ⟨_, hm', fun u' h1 h2 h3 h4 => ⟨fun q => absurd q (by decide), fun _ => ⟨vp_in_nI (n := 9) (by decide) (by decide), ?_⟩⟩⟩) (fun q => absurd rfl q)
      rw [n_c9, h1.now.1 9 (by decide)]
      exact hQ u' h1 h2
    · rw [if_neg h0] at hQ
      exact isDone_of (w := (0, u.2.1, f, u.2.2.2)) hG hm.r hf' (uRp_pos _ _) (fun q => absurd q h0) (fun _ u' h1 h2 => ⟨fun _ => hQ u' h1 h2, fun q => absurd rfl q⟩)
  refine ⟨fun c => ⟨fun _ => act (Or.inl c), fun q => absurd (by decide) q⟩, fun c => isIn_of (fun c1 => ⟨fun q => absurd q (by decide), fun _ => ⟨fun _ => act (Or.inr c1), fun q => absurd (by decide) q⟩⟩) (fun c1 => ⟨fun _ => ⟨fun q => absurd q (by decide), fun _ => ?_⟩, fun q => absurd rfl q⟩)⟩
  rw [if_neg (fun q => q.elim c c1)] at hQ
  exact hQ _ (hm.th 1) rfl
theorem c_X11_pick (l : Launch) (dC : Nat → ClassId) (dI : Nat → Nat → Nat) (cI cJ cS : ClassId) (a : Nat → Nat) (u : zModel) (x1 : Int32) (Q : Int32 → zModel → Prop) (hf : s_X11_pick u x1 Q) : ∀ sz : Nat, Met l yX11_pick (Cond.code yX11_pick cX11_pick 2 (some .int) :: zT) rm_X11_pick (zPm dC dI cI cJ cS (cl_X11 cI cJ a u) [.ref (a 0), .int x1] sz) (va_Qi Q (zB dC dI cI cJ cS (va_A (cl_X11 cI cJ a u) sz) (fun z => cl_X11 cI cJ a z)) (va_A (cl_X11 cI cJ a u) sz)) 0 0 (va_A (cl_X11 cI cJ a u) sz) := L_X11_pick l dC dI cI cJ cS a u x1 Q (st_X11_pick hf)

def t_X11_step (u : zModel) (x1 : Int32) (Q : Int32 → zModel → Prop) : Prop := s_X11_isIn x1 (1 : Int32) (20 : Int32) (fun r_1 : Int32 => ((r_1 = 0 → (((1 : Int32) ≤ 0 → s_X11_putsAside ((1 : Int32), u.2) (fun (u_5 : zModel) => s_X11_step0 u_5 x1 (fun (r_6 : Int32) (u_7 : zModel) => s_X11_isDone u_7 r_6 (2 : Int32) (fun (r_8 : Int32) (u_9 : zModel) => ((r_8 = 0 → Q (0 : Int32) u_9) ∧ (¬ r_8 = 0 → Q u_9.2.2.2.2.2.2.2.2.2.2.2.2.2.2.2.2 u_9)))))) ∧ (¬ (1 : Int32) ≤ 0 → Q (0 : Int32) ((1 : Int32), u.2)))) ∧ (¬ r_1 = 0 → (((0 : Int32) ≤ 0 → s_X11_putsAside ((0 : Int32), u.2) (fun (u_13 : zModel) => s_X11_step0 u_13 x1 (fun (r_14 : Int32) (u_15 : zModel) => s_X11_isDone u_15 r_14 (2 : Int32) (fun (r_16 : Int32) (u_17 : zModel) => ((r_16 = 0 → Q (0 : Int32) u_17) ∧ (¬ r_16 = 0 → Q u_17.2.2.2.2.2.2.2.2.2.2.2.2.2.2.2.2 u_17)))))) ∧ (¬ (0 : Int32) ≤ 0 → Q (0 : Int32) ((0 : Int32), u.2))))))
theorem zc_X11_step : zCalV RX11 yX11_step cX11_step 2 (some .int) 1 := ⟨q_im_X11_step, q_se_X11_step, q_in_X11, q_cd_X11_step, ⟨by decide, by decide, by decide +kernel⟩, rfl⟩
abbrev rm_X11_step : Room := { frames := 8, cells := 0, slots := 0, locals := 179 }
set_option maxHeartbeats 4000000 in
set_option maxRecDepth 100000 in
theorem L_X11_step (l : Launch) (dC : Nat → ClassId) (dI : Nat → Nat → Nat) (cI cJ cS : ClassId) (a : Nat → Nat) (u : zModel) (x1 : Int32) (Q : Int32 → zModel → Prop) (hf : t_X11_step u x1 Q) : ∀ sz : Nat, Met l yX11_step (Cond.code yX11_step cX11_step 2 (some .int) :: zT) rm_X11_step (zPm dC dI cI cJ cS (cl_X11 cI cJ a u) [.ref (a 0), .int x1] sz) (va_Qi Q (zB dC dI cI cJ cS (va_A (cl_X11 cI cJ a u) sz) (fun z => cl_X11 cI cJ a z)) (va_A (cl_X11 cI cJ a u) sz)) 0 0 (va_A (cl_X11 cI cJ a u) sz) := by
  intro sz
  refine z_enterM (Qc := fun A => va_Qi Q (zB dC dI cI cJ cS A (fun z => cl_X11 cI cJ a z)) A) (cc := cX11_step) (maxL := 2) (ret := (some .int)) (by decide) (Nat.le_of_ble_eq_true rfl) ?_
  intro p e s m below meth c ls A X hP hD hS hA hl
  obtain ⟨⟨hx, hb, hml, hown, hts⟩, hr, hlk, hK⟩ := id X
  have hl : lv_has ls 2 [(0, .ref (a 0)), (1, .int x1)] := hl
  unfold t_X11_step at hf
  refine lv_aload_n hx hb dX11_step_0 rfl (lv_at hl 0 rfl) ?_
  refine lv_iload_n hx hb dX11_step_1 rfl (lv_at hl 1 rfl) ?_
  refine lv_iconst (v := 1) hx hb dX11_step_2 (by decide) ?_
  refine lv_bipush (v := 20) hx hb dX11_step_3 (by decide) ?_
  refine z_cSi (As := [.int x1, .int (1 : Int32), .int (20 : Int32)]) (rest := [.ref (a 0)]) X (c_X11_isIn l dC dI cI cJ cS   x1 (1 : Int32) (20 : Int32) _ hf) zc_X11_isIn q_ml_X11_165 ⟨rfl, rfl⟩ ⟨Nat.le_of_ble_eq_true rfl, Nat.le_of_ble_eq_true rfl⟩ hP [] rfl hl.1 rfl rfl (Nat.le_of_ble_eq_true rfl) ⟨Nat.zero_le _, Nat.zero_le _⟩ dX11_step_5 (fun r_1 hf => ?_)
  obtain ⟨hbr_1, hf⟩ := hf
  refine lv_if_eq (tgt := 15) hx hb dX11_step_8 (by decide) (fun c_2 => ?_) (fun c_2 => ?_)
  · have hf := hf.1 c_2
    refine lv_iconst (v := 1) hx hb dX11_step_15 (by decide) ?_
    refine z_put (w' := cl_X11 cI cJ a ((1 : Int32), u.2)) (ci := 10) (v := .int (1 : Int32)) (ty := .int) (Cn := RX11) (T := TX11) (N := 17) X inX11 tyX11 tyX11_ok nmX11 hP hD hS 0 rfl rfl 0 (by decide) (hts _ q_fl_X11_43) (fun _ h9 => h9) rfl (tyX11_ok 0 (by decide)) rfl rfl (Nat.le_of_ble_eq_true rfl) rfl dX11_step_16 (fun H locs hP hD hS => ?_)
    refine lv_aload_n hx hb dX11_step_19 rfl (lv_at hl 0 rfl) ?_
    refine va_get (D := (dC, dI)) (ci := 10) (v := .int (1 : Int32)) (C := RX11) (T := TX11) (N := 17) hx hb hts inX11 hown hK hP 0 rfl rfl 0 (by decide) (hts _ q_fl_X11_43) (fun _ h9 => h9) rfl dX11_step_20 ?_
    refine lv_if_le (tgt := 28) hx hb dX11_step_23 (by decide) (fun c_3 => ?_) (fun c_3 => ?_)
    · have hf := hf.1 c_3
      refine lv_aload_n hx hb dX11_step_28 rfl (lv_at hl 0 rfl) ?_
      refine z_mVv (Wn := (fun u_5 => cl_X11 cI cJ a u_5)) (As := []) (rest := []) (wr := []) X (c_X11_putsAside l dC dI cI cJ cS a ((1 : Int32), u.2)  _ hf _) zc_X11_putsAside q_ml_X11_248 ⟨rfl, rfl⟩ ⟨Nat.le_of_ble_eq_true rfl, Nat.le_of_ble_eq_true rfl⟩ hP hD hS hA [0, 1, 2, 3, 4, 5, 6, 7, 8] [] rfl (by decide) rfl (by decide) (by decide) [0, 1, 2, 3, 4, 5, 6, 7, 8] (by decide) (fun _ => rfl) 10 rfl rfl hl.1 rfl rfl (Nat.le_of_ble_eq_true rfl) ⟨Nat.zero_le _, Nat.zero_le _⟩ dX11_step_29 (fun u_5 H locs hf hP hD hS => ?_)
      refine lv_aload_n hx hb dX11_step_32 rfl (lv_at hl 0 rfl) ?_
      refine lv_aload_n hx hb dX11_step_33 rfl (lv_at hl 0 rfl) ?_
      refine lv_iload_n hx hb dX11_step_34 rfl (lv_at hl 1 rfl) ?_
      refine z_mVi (Wn := (fun u_7 => cl_X11 cI cJ a u_7)) (As := [.int x1]) (rest := [.ref (a 0)]) (wr := []) X (c_X11_step0 l dC dI cI cJ cS a u_5 x1 _ hf _) zc_X11_step0 q_ml_X11_238 ⟨rfl, rfl⟩ ⟨Nat.le_of_ble_eq_true rfl, Nat.le_of_ble_eq_true rfl⟩ hP hD hS hA [0, 1, 2, 3, 4, 5, 6, 7, 8] [] rfl (by decide) rfl (by decide) (by decide) [0, 1, 2, 3, 4, 5, 6, 7, 8] (by decide) (fun _ => rfl) 10 rfl rfl hl.1 rfl rfl (Nat.le_of_ble_eq_true rfl) ⟨Nat.zero_le _, Nat.zero_le _⟩ dX11_step_35 (fun r_6 u_7 H locs hf hP hD hS => ?_)
      refine lv_iconst (v := 2) hx hb dX11_step_38 (by decide) ?_
      refine z_mVi (Wn := (fun u_9 => cl_X11 cI cJ a u_9)) (As := [.int r_6, .int (2 : Int32)]) (rest := []) (wr := []) X (c_X11_isDone l dC dI cI cJ cS a u_7 r_6 (2 : Int32) _ hf _) zc_X11_isDone q_ml_X11_257 ⟨rfl, rfl⟩ ⟨Nat.le_of_ble_eq_true rfl, Nat.le_of_ble_eq_true rfl⟩ hP hD hS hA [0, 1, 2, 3, 4, 5, 6, 7, 8] [] rfl (by decide) rfl (by decide) (by decide) [0, 1, 2, 3, 4, 5, 6, 7, 8] (by decide) (fun _ => rfl) 10 rfl rfl hl.1 rfl rfl (Nat.le_of_ble_eq_true rfl) ⟨Nat.zero_le _, Nat.zero_le _⟩ dX11_step_39 (fun r_8 u_9 H locs hf hP hD hS => ?_)
      obtain ⟨hbr_8, hf⟩ := hf
      refine lv_if_eq (tgt := 52) hx hb dX11_step_42 (by decide) (fun c_10 => ?_) (fun c_10 => ?_)
      · have hf := hf.1 c_10
        refine lv_iconst (v := 0) hx hb dX11_step_52 (by decide) ?_
        exact z_retMi (Wf := (fun z => cl_X11 cI cJ a z)) (u := u_9) X hf hP hD hS dX11_step_53
      · have hf := hf.2 c_10
        refine lv_aload_n hx hb dX11_step_45 rfl (lv_at hl 0 rfl) ?_
        refine va_get (D := (dC, dI)) (ci := 10) (v := .int u_9.2.2.2.2.2.2.2.2.2.2.2.2.2.2.2.2) (C := RX11) (T := TX11) (N := 17) hx hb hts inX11 hown hK hP 0 rfl rfl 16 (by decide) (hts _ q_fl_X11_137) (fun _ h9 => h9) rfl dX11_step_46 ?_
        refine lv_goto (tgt := 53) hx hb dX11_step_49 (by decide) ?_
        exact z_retMi (Wf := (fun z => cl_X11 cI cJ a z)) (u := u_9) X hf hP hD hS dX11_step_53
    · have hf := hf.2 c_3
      refine lv_iconst (v := 0) hx hb dX11_step_26 (by decide) ?_
      exact z_retMi (Wf := (fun z => cl_X11 cI cJ a z)) (u := ((1 : Int32), u.2)) X hf hP hD hS dX11_step_27
  · have hf := hf.2 c_2
    refine lv_iconst (v := 0) hx hb dX11_step_11 (by decide) ?_
    refine lv_goto (tgt := 16) hx hb dX11_step_12 (by decide) ?_
    refine z_put (w' := cl_X11 cI cJ a ((0 : Int32), u.2)) (ci := 10) (v := .int (0 : Int32)) (ty := .int) (Cn := RX11) (T := TX11) (N := 17) X inX11 tyX11 tyX11_ok nmX11 hP hD hS 0 rfl rfl 0 (by decide) (hts _ q_fl_X11_43) (fun _ h9 => h9) rfl (tyX11_ok 0 (by decide)) rfl rfl (Nat.le_of_ble_eq_true rfl) rfl dX11_step_16 (fun H locs hP hD hS => ?_)
    refine lv_aload_n hx hb dX11_step_19 rfl (lv_at hl 0 rfl) ?_
    refine va_get (D := (dC, dI)) (ci := 10) (v := .int (0 : Int32)) (C := RX11) (T := TX11) (N := 17) hx hb hts inX11 hown hK hP 0 rfl rfl 0 (by decide) (hts _ q_fl_X11_43) (fun _ h9 => h9) rfl dX11_step_20 ?_
    refine lv_if_le (tgt := 28) hx hb dX11_step_23 (by decide) (fun c_11 => ?_) (fun c_11 => ?_)
    · have hf := hf.1 c_11
      refine lv_aload_n hx hb dX11_step_28 rfl (lv_at hl 0 rfl) ?_
      refine z_mVv (Wn := (fun u_13 => cl_X11 cI cJ a u_13)) (As := []) (rest := []) (wr := []) X (c_X11_putsAside l dC dI cI cJ cS a ((0 : Int32), u.2)  _ hf _) zc_X11_putsAside q_ml_X11_248 ⟨rfl, rfl⟩ ⟨Nat.le_of_ble_eq_true rfl, Nat.le_of_ble_eq_true rfl⟩ hP hD hS hA [0, 1, 2, 3, 4, 5, 6, 7, 8] [] rfl (by decide) rfl (by decide) (by decide) [0, 1, 2, 3, 4, 5, 6, 7, 8] (by decide) (fun _ => rfl) 10 rfl rfl hl.1 rfl rfl (Nat.le_of_ble_eq_true rfl) ⟨Nat.zero_le _, Nat.zero_le _⟩ dX11_step_29 (fun u_13 H locs hf hP hD hS => ?_)
      refine lv_aload_n hx hb dX11_step_32 rfl (lv_at hl 0 rfl) ?_
      refine lv_aload_n hx hb dX11_step_33 rfl (lv_at hl 0 rfl) ?_
      refine lv_iload_n hx hb dX11_step_34 rfl (lv_at hl 1 rfl) ?_
      refine z_mVi (Wn := (fun u_15 => cl_X11 cI cJ a u_15)) (As := [.int x1]) (rest := [.ref (a 0)]) (wr := []) X (c_X11_step0 l dC dI cI cJ cS a u_13 x1 _ hf _) zc_X11_step0 q_ml_X11_238 ⟨rfl, rfl⟩ ⟨Nat.le_of_ble_eq_true rfl, Nat.le_of_ble_eq_true rfl⟩ hP hD hS hA [0, 1, 2, 3, 4, 5, 6, 7, 8] [] rfl (by decide) rfl (by decide) (by decide) [0, 1, 2, 3, 4, 5, 6, 7, 8] (by decide) (fun _ => rfl) 10 rfl rfl hl.1 rfl rfl (Nat.le_of_ble_eq_true rfl) ⟨Nat.zero_le _, Nat.zero_le _⟩ dX11_step_35 (fun r_14 u_15 H locs hf hP hD hS => ?_)
      refine lv_iconst (v := 2) hx hb dX11_step_38 (by decide) ?_
      refine z_mVi (Wn := (fun u_17 => cl_X11 cI cJ a u_17)) (As := [.int r_14, .int (2 : Int32)]) (rest := []) (wr := []) X (c_X11_isDone l dC dI cI cJ cS a u_15 r_14 (2 : Int32) _ hf _) zc_X11_isDone q_ml_X11_257 ⟨rfl, rfl⟩ ⟨Nat.le_of_ble_eq_true rfl, Nat.le_of_ble_eq_true rfl⟩ hP hD hS hA [0, 1, 2, 3, 4, 5, 6, 7, 8] [] rfl (by decide) rfl (by decide) (by decide) [0, 1, 2, 3, 4, 5, 6, 7, 8] (by decide) (fun _ => rfl) 10 rfl rfl hl.1 rfl rfl (Nat.le_of_ble_eq_true rfl) ⟨Nat.zero_le _, Nat.zero_le _⟩ dX11_step_39 (fun r_16 u_17 H locs hf hP hD hS => ?_)
      obtain ⟨hbr_16, hf⟩ := hf
      refine lv_if_eq (tgt := 52) hx hb dX11_step_42 (by decide) (fun c_18 => ?_) (fun c_18 => ?_)
      · have hf := hf.1 c_18
        refine lv_iconst (v := 0) hx hb dX11_step_52 (by decide) ?_
        exact z_retMi (Wf := (fun z => cl_X11 cI cJ a z)) (u := u_17) X hf hP hD hS dX11_step_53
      · have hf := hf.2 c_18
        refine lv_aload_n hx hb dX11_step_45 rfl (lv_at hl 0 rfl) ?_
        refine va_get (D := (dC, dI)) (ci := 10) (v := .int u_17.2.2.2.2.2.2.2.2.2.2.2.2.2.2.2.2) (C := RX11) (T := TX11) (N := 17) hx hb hts inX11 hown hK hP 0 rfl rfl 16 (by decide) (hts _ q_fl_X11_137) (fun _ h9 => h9) rfl dX11_step_46 ?_
        refine lv_goto (tgt := 53) hx hb dX11_step_49 (by decide) ?_
        exact z_retMi (Wf := (fun z => cl_X11 cI cJ a z)) (u := u_17) X hf hP hD hS dX11_step_53
    · have hf := hf.2 c_11
      refine lv_iconst (v := 0) hx hb dX11_step_26 (by decide) ?_
      exact z_retMi (Wf := (fun z => cl_X11 cI cJ a z)) (u := ((0 : Int32), u.2)) X hf hP hD hS dX11_step_27
theorem uRs_pos (v : zState) : ∀ m i, ¬ uRs v m i < 0
  | 0, _ => by show ¬ (0 : Int32) < 0; decide
  | m + 1, i => by
    unfold uRs
    split
    · split <;> decide
    · exact uRs_pos v m (i + 1)
def s_X11_step (u : zModel) (x1 : Int32) (Q : Int32 → zModel → Prop) : Prop := ∃ (B : Nat) (G : zG), okG B G ∧ B + 20 ≤ 400000 ∧ mG G u ∧ ∀ u' : zModel, mG (fStep G x1).2.2 u' → u'.1 = (fStep G x1).1 → Q (fStep G x1).2.1 u'
theorem st_X11_step {u : zModel} {x1 : Int32} {Q : Int32 → zModel → Prop} (h : s_X11_step u x1 Q) : t_X11_step u x1 Q := by
  obtain ⟨B, G, hG, hB, hm, hQ⟩ := h
  unfold fStep at hQ
  refine isIn_of (fun c1 => ⟨fun q => absurd q (by decide), fun _ => ⟨fun _ f hf => ?_, fun q => absurd (by decide) q⟩⟩) (fun c1 => ⟨fun _ => ⟨fun q => absurd q (by decide), fun _ => ?_⟩, fun q => absurd rfl q⟩)
  · rw [if_pos c1] at hQ
    obtain ⟨n, hn1, hn2, rfl, en⟩ := inR_n (a := 1) (b := 20) (by decide) (by decide) c1
    rw [en] at hQ
    have hf' : mRel (gNow G) f := hG.1.same hm.now hf
    obtain ⟨ρ, β, mo, lm, L, S, M, hP⟩ := id hG.1
    refine ⟨gNow G, ρ, β, mo, lm, L, S, M, B, n, hP, by omega, by omega, rfl, hm.now, fun hoff => ?_, fun hon m' hm' => ?_⟩
    · have e5 : uRst (gNow G) n = 5 := if_pos hoff
      rw [e5, if_neg (by decide)] at hQ
      exact isDone_of hG hm.r hf' (by decide) (fun q => absurd q (by decide)) (fun _ u' h1 h2 => ⟨fun _ => hQ u' h1 h2, fun q => absurd rfl q⟩)
    · have ec : uCode n 0 (gNow G) = uRst (gNow G) n := by
        rw [uCode_eq n hP (by omega) hon]
        exact (if_neg hon).symm
      have hpos : ¬ uRst (gNow G) n < 0 := by
        rw [← ec, uCode_eq n hP (by omega) hon]; exact uRs_pos _ _ _
      rw [ec]
      by_cases h0 : uRst (gNow G) n = 0
      · rw [if_pos h0] at hQ
        refine isDone_of hG hm.r hf' hpos (fun _ => ⟨_, hm', fun u' h1 h2 h3 h4 => ⟨fun q => absurd q (by decide), fun _ => ?_⟩⟩) (fun q => absurd h0 q)
        rw [h4]
        exact hQ u' h1 h2
      · rw [if_neg h0] at hQ
        exact isDone_of hG hm.r hf' hpos (fun q => absurd q h0) (fun _ u' h1 h2 => ⟨fun _ => hQ u' h1 h2, fun q => absurd rfl q⟩)
  · rw [if_neg c1] at hQ
    exact hQ _ (hm.th 1) rfl
theorem c_X11_step (l : Launch) (dC : Nat → ClassId) (dI : Nat → Nat → Nat) (cI cJ cS : ClassId) (a : Nat → Nat) (u : zModel) (x1 : Int32) (Q : Int32 → zModel → Prop) (hf : s_X11_step u x1 Q) : ∀ sz : Nat, Met l yX11_step (Cond.code yX11_step cX11_step 2 (some .int) :: zT) rm_X11_step (zPm dC dI cI cJ cS (cl_X11 cI cJ a u) [.ref (a 0), .int x1] sz) (va_Qi Q (zB dC dI cI cJ cS (va_A (cl_X11 cI cJ a u) sz) (fun z => cl_X11 cI cJ a z)) (va_A (cl_X11 cI cJ a u) sz)) 0 0 (va_A (cl_X11 cI cJ a u) sz) := L_X11_step l dC dI cI cJ cS a u x1 Q (st_X11_step hf)

def t_X11_quit (u : zModel) (Q : Int32 → zModel → Prop) : Prop := s_X11_putsAside u (fun (u_2 : zModel) => s_X11_left u_2 (fun r_3 : Int32 => s_X11_quit0 u_2 (fun (r_4 : Int32) (u_5 : zModel) => s_X11_isDone u_5 r_4 (1 : Int32) (fun (r_6 : Int32) (u_7 : zModel) => ((r_6 = 0 → Q (0 : Int32) u_7) ∧ (¬ r_6 = 0 → Q r_3 u_7))))))
theorem zc_X11_quit : zCalV RX11 yX11_quit cX11_quit 2 (some .int) 0 := ⟨q_im_X11_quit, q_se_X11_quit, q_in_X11, q_cd_X11_quit, ⟨by decide, by decide, by decide +kernel⟩, rfl⟩
abbrev rm_X11_quit : Room := { frames := 2, cells := 0, slots := 0, locals := 43 }
set_option maxHeartbeats 4000000 in
set_option maxRecDepth 100000 in
theorem L_X11_quit (l : Launch) (dC : Nat → ClassId) (dI : Nat → Nat → Nat) (cI cJ cS : ClassId) (a : Nat → Nat) (u : zModel) (Q : Int32 → zModel → Prop) (hf : t_X11_quit u Q) : ∀ sz : Nat, Met l yX11_quit (Cond.code yX11_quit cX11_quit 2 (some .int) :: zT) rm_X11_quit (zPm dC dI cI cJ cS (cl_X11 cI cJ a u) [.ref (a 0)] sz) (va_Qi Q (zB dC dI cI cJ cS (va_A (cl_X11 cI cJ a u) sz) (fun z => cl_X11 cI cJ a z)) (va_A (cl_X11 cI cJ a u) sz)) 0 0 (va_A (cl_X11 cI cJ a u) sz) := by
  intro sz
  refine z_enterM (Qc := fun A => va_Qi Q (zB dC dI cI cJ cS A (fun z => cl_X11 cI cJ a z)) A) (cc := cX11_quit) (maxL := 2) (ret := (some .int)) (by decide) (Nat.le_of_ble_eq_true rfl) ?_
  intro p e s m below meth c ls A X hP hD hS hA hl
  obtain ⟨⟨hx, hb, hml, hown, hts⟩, hr, hlk, hK⟩ := id X
  have hl : lv_has ls 2 [(0, .ref (a 0))] := hl
  unfold t_X11_quit at hf
  refine lv_aload_n hx hb dX11_quit_0 rfl (lv_at hl 0 rfl) ?_
  refine z_mVv (Wn := (fun u_2 => cl_X11 cI cJ a u_2)) (As := []) (rest := []) (wr := []) X (c_X11_putsAside l dC dI cI cJ cS a u  _ hf _) zc_X11_putsAside q_ml_X11_248 ⟨rfl, rfl⟩ ⟨Nat.le_of_ble_eq_true rfl, Nat.le_of_ble_eq_true rfl⟩ hP hD hS hA [0, 1, 2, 3, 4, 5, 6, 7, 8] [] rfl (by decide) rfl (by decide) (by decide) [0, 1, 2, 3, 4, 5, 6, 7, 8] (by decide) (fun _ => rfl) 10 rfl rfl hl.1 rfl rfl (Nat.le_of_ble_eq_true rfl) ⟨Nat.zero_le _, Nat.zero_le _⟩ dX11_quit_1 (fun u_2 H locs hf hP hD hS => ?_)
  refine lv_aload_n hx hb dX11_quit_4 rfl (lv_at hl 0 rfl) ?_
  refine z_cVi (As := []) (rest := []) X (c_X11_left l dC dI cI cJ cS a u_2  _ hf) zc_X11_left q_ml_X11_140 ⟨rfl, rfl⟩ ⟨Nat.le_of_ble_eq_true rfl, Nat.le_of_ble_eq_true rfl⟩ hP [0, 1, 2, 3, 4, 5, 6, 7, 8] rfl 10 rfl rfl hl.1 rfl rfl (Nat.le_of_ble_eq_true rfl) ⟨Nat.zero_le _, Nat.zero_le _⟩ dX11_quit_5 (fun r_3 hf => ?_)
  refine lv_istore_n (lv' := [(1, .int r_3), (0, .ref (a 0))]) hx hb dX11_quit_8 rfl hl (by decide) rfl (fun ls hl => ?_)
  refine lv_aload_n hx hb dX11_quit_9 rfl (lv_at hl 1 rfl) ?_
  refine lv_aload_n hx hb dX11_quit_10 rfl (lv_at hl 1 rfl) ?_
  refine z_mVi (Wn := (fun u_5 => cl_X11 cI cJ a u_5)) (As := []) (rest := [.ref (a 0)]) (wr := []) X (c_X11_quit0 l dC dI cI cJ cS a u_2  _ hf _) zc_X11_quit0 q_ml_X11_243 ⟨rfl, rfl⟩ ⟨Nat.le_of_ble_eq_true rfl, Nat.le_of_ble_eq_true rfl⟩ hP hD hS hA [0, 1, 2, 3, 4, 5, 6, 7, 8] [] rfl (by decide) rfl (by decide) (by decide) [0, 1, 2, 3, 4, 5, 6, 7, 8] (by decide) (fun _ => rfl) 10 rfl rfl hl.1 rfl rfl (Nat.le_of_ble_eq_true rfl) ⟨Nat.zero_le _, Nat.zero_le _⟩ dX11_quit_11 (fun r_4 u_5 H locs hf hP hD hS => ?_)
  refine lv_iconst (v := 1) hx hb dX11_quit_14 (by decide) ?_
  refine z_mVi (Wn := (fun u_7 => cl_X11 cI cJ a u_7)) (As := [.int r_4, .int (1 : Int32)]) (rest := []) (wr := []) X (c_X11_isDone l dC dI cI cJ cS a u_5 r_4 (1 : Int32) _ hf _) zc_X11_isDone q_ml_X11_257 ⟨rfl, rfl⟩ ⟨Nat.le_of_ble_eq_true rfl, Nat.le_of_ble_eq_true rfl⟩ hP hD hS hA [0, 1, 2, 3, 4, 5, 6, 7, 8] [] rfl (by decide) rfl (by decide) (by decide) [0, 1, 2, 3, 4, 5, 6, 7, 8] (by decide) (fun _ => rfl) 10 rfl rfl hl.1 rfl rfl (Nat.le_of_ble_eq_true rfl) ⟨Nat.zero_le _, Nat.zero_le _⟩ dX11_quit_15 (fun r_6 u_7 H locs hf hP hD hS => ?_)
  obtain ⟨hbr_6, hf⟩ := hf
  refine lv_if_eq (tgt := 25) hx hb dX11_quit_18 (by decide) (fun c_8 => ?_) (fun c_8 => ?_)
  · have hf := hf.1 c_8
    refine lv_iconst (v := 0) hx hb dX11_quit_25 (by decide) ?_
    exact z_retMi (Wf := (fun z => cl_X11 cI cJ a z)) (u := u_7) X hf hP hD hS dX11_quit_26
  · have hf := hf.2 c_8
    refine lv_iload_n hx hb dX11_quit_21 rfl (lv_at hl 0 rfl) ?_
    refine lv_goto (tgt := 26) hx hb dX11_quit_22 (by decide) ?_
    exact z_retMi (Wf := (fun z => cl_X11 cI cJ a z)) (u := u_7) X hf hP hD hS dX11_quit_26
def s_X11_quit (u : zModel) (Q : Int32 → zModel → Prop) : Prop := ∃ (B : Nat) (G : zG), okG B G ∧ mG G u ∧ ∀ u' : zModel, mG (fQuit G).2.2 u' → u'.1 = (fQuit G).1 → Q (fQuit G).2.1 u'
theorem st_X11_quit {u : zModel} {Q : Int32 → zModel → Prop} (h : s_X11_quit u Q) : t_X11_quit u Q := by
  obtain ⟨B, G, hG, hm, hQ⟩ := h
  unfold fQuit at hQ
  intro f hf
  have hf' : mRel (gNow G) f := hG.1.same hm.now hf
  refine ⟨vp_in_nI (n := 9) (by decide) (by decide), vp_in_nI (n := 10) (by decide) (by decide), gNow G, hm.now, fun hon m' hm' => ?_, fun hoff => ?_⟩
  · rw [if_neg hon] at hQ
    refine isDone_of (w := (u.1, m', f, u.2.2.2)) hG hm.r hf' (by decide) (fun _ => ⟨_, hm', fun u' h1 h2 h3 h4 => ⟨fun q => absurd q (by decide), fun _ => ?_⟩⟩) (fun q => absurd rfl q)
    dsimp only
    rw [n_c9, n_c10, hm.now.1 9 (by decide), hm.now.1 10 (by decide)]
    exact hQ u' h1 h2
  · rw [if_pos hoff] at hQ
    exact isDone_of (w := (u.1, u.2.1, f, u.2.2.2)) hG hm.r hf' (by decide) (fun q => absurd q (by decide)) (fun _ u' h1 h2 => ⟨fun _ => hQ u' h1 h2, fun q => absurd rfl q⟩)
theorem c_X11_quit (l : Launch) (dC : Nat → ClassId) (dI : Nat → Nat → Nat) (cI cJ cS : ClassId) (a : Nat → Nat) (u : zModel) (Q : Int32 → zModel → Prop) (hf : s_X11_quit u Q) : ∀ sz : Nat, Met l yX11_quit (Cond.code yX11_quit cX11_quit 2 (some .int) :: zT) rm_X11_quit (zPm dC dI cI cJ cS (cl_X11 cI cJ a u) [.ref (a 0)] sz) (va_Qi Q (zB dC dI cI cJ cS (va_A (cl_X11 cI cJ a u) sz) (fun z => cl_X11 cI cJ a z)) (va_A (cl_X11 cI cJ a u) sz)) 0 0 (va_A (cl_X11 cI cJ a u) sz) := L_X11_quit l dC dI cI cJ cS a u Q (st_X11_quit hf)

def t_X11_undo_e (u : zModel) (K37 : Int32 → zModel → Prop) (Q : Int32 → zModel → Prop) : Prop := ((¬ u.2.2.2.2.2.2.1 = 0 → (((0 : Int32) ≤ 0 → ∀ x_3 : Int32, x_3 = (u.2.2.2.2.2.2.1 - (1 : Int32)) → K37 (0 : Int32) ((0 : Int32), u.2.1, u.2.2.1, u.2.2.2.1, u.2.2.2.2.1, u.2.2.2.2.2.1, x_3, u.2.2.2.2.2.2.2)) ∧ (¬ (0 : Int32) ≤ 0 → Q (0 : Int32) ((0 : Int32), u.2)))) ∧ (u.2.2.2.2.2.2.1 = 0 → (((1 : Int32) ≤ 0 → ∀ x_6 : Int32, x_6 = (u.2.2.2.2.2.2.1 - (1 : Int32)) → K37 (0 : Int32) ((1 : Int32), u.2.1, u.2.2.1, u.2.2.2.1, u.2.2.2.2.1, u.2.2.2.2.2.1, x_6, u.2.2.2.2.2.2.2)) ∧ (¬ (1 : Int32) ≤ 0 → Q (0 : Int32) ((1 : Int32), u.2)))))
def t_X11_undo_37 (y1 : Int32) (z : zModel) (K37 : Int32 → zModel → Prop) (Q : Int32 → zModel → Prop) : Prop := (((5497 : Int32) ≤ y1 → Q z.2.2.2.2.2.2.1 z) ∧ (¬ (5497 : Int32) ≤ y1 → vp_in (((5497 : Int32) * z.2.2.2.2.2.2.1) + y1) 43976 ∧ vp_in y1 5497 ∧ ∀ f_9 : Nat → Int32, f_9 = upd z.2.1 y1.toNatClampNeg (z.2.2.2.2.2.1 (((5497 : Int32) * z.2.2.2.2.2.2.1) + y1).toNatClampNeg) → ∀ x_10 : Int32, x_10 = y1 + (1 : Int32) → K37 x_10 (z.1, f_9, z.2.2)))
theorem zc_X11_undo : zCalV RX11 yX11_undo cX11_undo 2 (some .int) 0 := ⟨q_im_X11_undo, q_se_X11_undo, q_in_X11, q_cd_X11_undo, ⟨by decide, by decide, by decide +kernel⟩, rfl⟩
abbrev rm_X11_undo : Room := { frames := 0, cells := 0, slots := 0, locals := 0 }
def v_X11_undo (u : zModel) (Q : Int32 → zModel → Prop) : Prop := ∃ I37 : Nat → Int32 → zModel → Prop, (∀ (n : Nat) (y1 : Int32) (z : zModel), I37 n y1 z → t_X11_undo_37 y1 z (fun q0 q1 => ∃ k : Nat, k < n ∧ I37 k q0 q1) Q) ∧ t_X11_undo_e u (fun q0 q1 => ∃ k : Nat, I37 k q0 q1) Q
set_option maxHeartbeats 4000000 in
set_option maxRecDepth 100000 in
theorem L_X11_undo (l : Launch) (dC : Nat → ClassId) (dI : Nat → Nat → Nat) (cI cJ cS : ClassId) (a : Nat → Nat) (u : zModel) (Q : Int32 → zModel → Prop) (I37 : Nat → Int32 → zModel → Prop) (h37 : ∀ (n : Nat) (y1 : Int32) (z : zModel), I37 n y1 z → t_X11_undo_37 y1 z (fun q0 q1 => ∃ k : Nat, k < n ∧ I37 k q0 q1) Q) (hf : t_X11_undo_e u (fun q0 q1 => ∃ k : Nat, I37 k q0 q1) Q) : ∀ sz : Nat, Met l yX11_undo (Cond.code yX11_undo cX11_undo 2 (some .int) :: zT) rm_X11_undo (zPm dC dI cI cJ cS (cl_X11 cI cJ a u) [.ref (a 0)] sz) (va_Qi Q (zB dC dI cI cJ cS (va_A (cl_X11 cI cJ a u) sz) (fun z => cl_X11 cI cJ a z)) (va_A (cl_X11 cI cJ a u) sz)) 0 0 (va_A (cl_X11 cI cJ a u) sz) := by
  intro sz
  refine z_enterM (Qc := fun A => va_Qi Q (zB dC dI cI cJ cS A (fun z => cl_X11 cI cJ a z)) A) (cc := cX11_undo) (maxL := 2) (ret := (some .int)) (by decide) (Nat.le_of_ble_eq_true rfl) ?_
  intro p e s m below meth c ls A X hP hD hS hA hl
  obtain ⟨⟨hx, hb, hml, hown, hts⟩, hr, hlk, hK⟩ := id X
  have hl : lv_has ls 2 [(0, .ref (a 0))] := hl
  have LP : ∀ n : Nat, (∀ (y1 : Int32) (z : zModel) (H : Heap) (locs : List Loc) (ls : Array Slot), I37 n y1 z → va_P (dC, dI) vwCl (cl_X11 cI cJ a z) H → va_D A (cl_X11 cI cJ a z) → va_S A s.heap H locs → lv_has ls 2 [(0, .ref (a 0)), (1, .int y1)] → W p l e rm_X11_undo s m [.ref (a 0)].toArray below meth c H locs 0 0 (MQ below (va_Qi Q (zB dC dI cI cJ cS A (fun z => cl_X11 cI cJ a z)) A) [.ref (a 0)].toArray s 0 0 A) (F0 m 37 ls [])) := by
    intro n
    induction n using Nat.strongRecOn with
    | _ n ih =>
      intro y1 z H locs ls hI hP hD hS hl
      have hf := h37 n y1 z hI
      unfold t_X11_undo_37 at hf
      refine lv_iload_n hx hb dX11_undo_37 rfl (lv_at hl 1 rfl) ?_
      refine lv_sipush (v := 5497) hx hb dX11_undo_38 (by decide) ?_
      refine lv_icmp_ge (tgt := 71) hx hb dX11_undo_41 (by decide) (fun c_8 => ?_) (fun c_8 => ?_)
      · have hf := hf.1 c_8
        refine lv_aload_n hx hb dX11_undo_71 rfl (lv_at hl 0 rfl) ?_
        refine va_get (D := (dC, dI)) (ci := 10) (v := .int z.2.2.2.2.2.2.1) (C := RX11) (T := TX11) (N := 17) hx hb hts inX11 hown hK hP 0 rfl rfl 6 (by decide) (hts _ q_fl_X11_149) (fun _ h9 => h9) rfl dX11_undo_72 ?_
        exact z_retMi (Wf := (fun z => cl_X11 cI cJ a z)) (u := z) X hf hP hD hS dX11_undo_75
      · have hf := hf.2 c_8
        refine lv_aload_n hx hb dX11_undo_44 rfl (lv_at hl 0 rfl) ?_
        refine va_get (D := (dC, dI)) (ci := 10) (v := .ref (a 1)) (C := RX11) (T := TX11) (N := 17) hx hb hts inX11 hown hK hP 0 rfl rfl 1 (by decide) (hts _ q_fl_X11_7) (fun _ h9 => h9) rfl dX11_undo_45 ?_
        refine lv_iload_n hx hb dX11_undo_48 rfl (lv_at hl 1 rfl) ?_
        refine lv_aload_n hx hb dX11_undo_49 rfl (lv_at hl 0 rfl) ?_
        refine va_get (D := (dC, dI)) (ci := 10) (v := .ref (a 5)) (C := RX11) (T := TX11) (N := 17) hx hb hts inX11 hown hK hP 0 rfl rfl 5 (by decide) (hts _ q_fl_X11_23) (fun _ h9 => h9) rfl dX11_undo_50 ?_
        refine lv_sipush (v := 5497) hx hb dX11_undo_53 (by decide) ?_
        refine lv_aload_n hx hb dX11_undo_56 rfl (lv_at hl 0 rfl) ?_
        refine va_get (D := (dC, dI)) (ci := 10) (v := .int z.2.2.2.2.2.2.1) (C := RX11) (T := TX11) (N := 17) hx hb hts inX11 hown hK hP 0 rfl rfl 6 (by decide) (hts _ q_fl_X11_149) (fun _ h9 => h9) rfl dX11_undo_57 ?_
        refine lv_imul hx hb dX11_undo_60 ?_
        refine lv_iload_n hx hb dX11_undo_61 rfl (lv_at hl 1 rfl) ?_
        refine lv_iadd hx hb dX11_undo_62 ?_
        obtain ⟨hg, hf⟩ := hf
        refine va_iald hx hb hK hP 5 0 rfl rfl hg dX11_undo_63 ?_
        obtain ⟨hg, hf⟩ := hf
        refine z_iast (Wn := fun f_9 => cl_X11 cI cJ a (z.1, f_9, z.2.2)) X hP hD hS 1 0 rfl rfl hg (fun _ => rfl) dX11_undo_64 (fun f_9 H locs ef_9 hP hD hS => ?_)
        have hf := hf f_9 ef_9
        obtain ⟨x_10, ex_10⟩ : ∃ y : Int32, y = y1 + (1 : Int32) := ⟨_, rfl⟩
        have hf := hf x_10 ex_10
        refine lv_iinc (v := x_10) (lv' := [(1, .int x_10), (0, .ref (a 0))]) hx hb dX11_undo_65 hl (k := 1) rfl (by rw [ex_10]; rfl) (by decide) rfl (fun ls hl => ?_)
        refine lv_goto (tgt := 37) hx hb dX11_undo_68 (by decide) ?_
        obtain ⟨k_11, hk_11, hf⟩ := hf
        exact (ih k_11 hk_11) _ (z.1, f_9, z.2.2) _ _ ls hf hP hD hS (lv_sub hl [1, 0] rfl)
  unfold t_X11_undo_e at hf
  refine lv_aload_n hx hb dX11_undo_0 rfl (lv_at hl 0 rfl) ?_
  refine lv_aload_n hx hb dX11_undo_1 rfl (lv_at hl 0 rfl) ?_
  refine va_get (D := (dC, dI)) (ci := 10) (v := .int u.2.2.2.2.2.2.1) (C := RX11) (T := TX11) (N := 17) hx hb hts inX11 hown hK hP 0 rfl rfl 6 (by decide) (hts _ q_fl_X11_149) (fun _ h9 => h9) rfl dX11_undo_2 ?_
  refine lv_if_ne (tgt := 12) hx hb dX11_undo_5 (by decide) (fun c_1 => ?_) (fun c_1 => ?_)
  · have hf := hf.1 c_1
    refine lv_iconst (v := 0) hx hb dX11_undo_12 (by decide) ?_
    refine z_put (w' := cl_X11 cI cJ a ((0 : Int32), u.2)) (ci := 10) (v := .int (0 : Int32)) (ty := .int) (Cn := RX11) (T := TX11) (N := 17) X inX11 tyX11 tyX11_ok nmX11 hP hD hS 0 rfl rfl 0 (by decide) (hts _ q_fl_X11_43) (fun _ h9 => h9) rfl (tyX11_ok 0 (by decide)) rfl rfl (Nat.le_of_ble_eq_true rfl) rfl dX11_undo_13 (fun H locs hP hD hS => ?_)
    refine lv_aload_n hx hb dX11_undo_16 rfl (lv_at hl 0 rfl) ?_
    refine va_get (D := (dC, dI)) (ci := 10) (v := .int (0 : Int32)) (C := RX11) (T := TX11) (N := 17) hx hb hts inX11 hown hK hP 0 rfl rfl 0 (by decide) (hts _ q_fl_X11_43) (fun _ h9 => h9) rfl dX11_undo_17 ?_
    refine lv_if_le (tgt := 25) hx hb dX11_undo_20 (by decide) (fun c_2 => ?_) (fun c_2 => ?_)
    · have hf := hf.1 c_2
      refine lv_aload_n hx hb dX11_undo_25 rfl (lv_at hl 0 rfl) ?_
      refine lv_dup hx hb dX11_undo_26 rfl ?_
      refine va_get (D := (dC, dI)) (ci := 10) (v := .int u.2.2.2.2.2.2.1) (C := RX11) (T := TX11) (N := 17) hx hb hts inX11 hown hK hP 0 rfl rfl 6 (by decide) (hts _ q_fl_X11_149) (fun _ h9 => h9) rfl dX11_undo_27 ?_
      refine lv_iconst (v := 1) hx hb dX11_undo_30 (by decide) ?_
      refine lv_isub hx hb dX11_undo_31 ?_
      refine lv_topi (fun x_3 ex_3 => ?_)
      have hf := hf x_3 ex_3
      refine z_put (w' := cl_X11 cI cJ a ((0 : Int32), u.2.1, u.2.2.1, u.2.2.2.1, u.2.2.2.2.1, u.2.2.2.2.2.1, x_3, u.2.2.2.2.2.2.2)) (ci := 10) (v := .int x_3) (ty := .int) (Cn := RX11) (T := TX11) (N := 17) X inX11 tyX11 tyX11_ok nmX11 hP hD hS 0 rfl rfl 6 (by decide) (hts _ q_fl_X11_149) (fun _ h9 => h9) rfl (tyX11_ok 6 (by decide)) rfl rfl (Nat.le_of_ble_eq_true rfl) rfl dX11_undo_32 (fun H locs hP hD hS => ?_)
      refine lv_iconst (v := 0) hx hb dX11_undo_35 (by decide) ?_
      refine lv_istore_n (lv' := [(1, .int (0 : Int32)), (0, .ref (a 0))]) hx hb dX11_undo_36 rfl hl (by decide) rfl (fun ls hl => ?_)
      obtain ⟨k_4, hf⟩ := hf
      exact (LP k_4) _ ((0 : Int32), u.2.1, u.2.2.1, u.2.2.2.1, u.2.2.2.2.1, u.2.2.2.2.2.1, x_3, u.2.2.2.2.2.2.2) _ _ ls hf hP hD hS (lv_sub hl [1, 0] rfl)
    · have hf := hf.2 c_2
      refine lv_iconst (v := 0) hx hb dX11_undo_23 (by decide) ?_
      exact z_retMi (Wf := (fun z => cl_X11 cI cJ a z)) (u := ((0 : Int32), u.2)) X hf hP hD hS dX11_undo_24
  · have hf := hf.2 c_1
    refine lv_iconst (v := 1) hx hb dX11_undo_8 (by decide) ?_
    refine lv_goto (tgt := 13) hx hb dX11_undo_9 (by decide) ?_
    refine z_put (w' := cl_X11 cI cJ a ((1 : Int32), u.2)) (ci := 10) (v := .int (1 : Int32)) (ty := .int) (Cn := RX11) (T := TX11) (N := 17) X inX11 tyX11 tyX11_ok nmX11 hP hD hS 0 rfl rfl 0 (by decide) (hts _ q_fl_X11_43) (fun _ h9 => h9) rfl (tyX11_ok 0 (by decide)) rfl rfl (Nat.le_of_ble_eq_true rfl) rfl dX11_undo_13 (fun H locs hP hD hS => ?_)
    refine lv_aload_n hx hb dX11_undo_16 rfl (lv_at hl 0 rfl) ?_
    refine va_get (D := (dC, dI)) (ci := 10) (v := .int (1 : Int32)) (C := RX11) (T := TX11) (N := 17) hx hb hts inX11 hown hK hP 0 rfl rfl 0 (by decide) (hts _ q_fl_X11_43) (fun _ h9 => h9) rfl dX11_undo_17 ?_
    refine lv_if_le (tgt := 25) hx hb dX11_undo_20 (by decide) (fun c_5 => ?_) (fun c_5 => ?_)
    · have hf := hf.1 c_5
      refine lv_aload_n hx hb dX11_undo_25 rfl (lv_at hl 0 rfl) ?_
      refine lv_dup hx hb dX11_undo_26 rfl ?_
      refine va_get (D := (dC, dI)) (ci := 10) (v := .int u.2.2.2.2.2.2.1) (C := RX11) (T := TX11) (N := 17) hx hb hts inX11 hown hK hP 0 rfl rfl 6 (by decide) (hts _ q_fl_X11_149) (fun _ h9 => h9) rfl dX11_undo_27 ?_
      refine lv_iconst (v := 1) hx hb dX11_undo_30 (by decide) ?_
      refine lv_isub hx hb dX11_undo_31 ?_
      refine lv_topi (fun x_6 ex_6 => ?_)
      have hf := hf x_6 ex_6
      refine z_put (w' := cl_X11 cI cJ a ((1 : Int32), u.2.1, u.2.2.1, u.2.2.2.1, u.2.2.2.2.1, u.2.2.2.2.2.1, x_6, u.2.2.2.2.2.2.2)) (ci := 10) (v := .int x_6) (ty := .int) (Cn := RX11) (T := TX11) (N := 17) X inX11 tyX11 tyX11_ok nmX11 hP hD hS 0 rfl rfl 6 (by decide) (hts _ q_fl_X11_149) (fun _ h9 => h9) rfl (tyX11_ok 6 (by decide)) rfl rfl (Nat.le_of_ble_eq_true rfl) rfl dX11_undo_32 (fun H locs hP hD hS => ?_)
      refine lv_iconst (v := 0) hx hb dX11_undo_35 (by decide) ?_
      refine lv_istore_n (lv' := [(1, .int (0 : Int32)), (0, .ref (a 0))]) hx hb dX11_undo_36 rfl hl (by decide) rfl (fun ls hl => ?_)
      obtain ⟨k_7, hf⟩ := hf
      exact (LP k_7) _ ((1 : Int32), u.2.1, u.2.2.1, u.2.2.2.1, u.2.2.2.2.1, u.2.2.2.2.2.1, x_6, u.2.2.2.2.2.2.2) _ _ ls hf hP hD hS (lv_sub hl [1, 0] rfl)
    · have hf := hf.2 c_5
      refine lv_iconst (v := 0) hx hb dX11_undo_23 (by decide) ?_
      exact z_retMi (Wf := (fun z => cl_X11 cI cJ a z)) (u := ((1 : Int32), u.2)) X hf hP hD hS dX11_undo_24
def s_X11_undo (u : zModel) (Q : Int32 → zModel → Prop) : Prop := ∃ (B : Nat) (G : zG), okG B G ∧ mG G u ∧ ∀ u' : zModel, mG (fUndo G).2.2 u' → u'.1 = (fUndo G).1 → Q (fUndo G).2.1 u'
theorem st_X11_undo {u : zModel} {Q : Int32 → zModel → Prop} (h : s_X11_undo u Q) : v_X11_undo u Q := by
  obtain ⟨B, G, hG, hm, hQ⟩ := h
  have eN : u.2.2.2.2.2.2.1 = nI (gUnN G) := hm.2.2.2.1.1
  have hn8 := hG.2.2.1.1
  unfold fUndo at hQ
  by_cases h0 : gUnN G = 0
  · rw [if_pos h0] at hQ
    refine ⟨fun _ _ _ => False, fun _ _ _ q => q.elim, ?_⟩
    unfold t_X11_undo_e
    rw [eN, h0]
    exact ⟨fun q => absurd rfl q, fun _ => ⟨fun q => absurd q (by decide), fun _ => hQ _ (hm.th 1) rfl⟩⟩
  · rw [if_neg h0] at hQ
    obtain ⟨n, en⟩ : ∃ n, gUnN G = n + 1 := ⟨gUnN G - 1, by omega⟩
    rw [en, show n + 1 - 1 = n by omega] at hQ
    have hU := hm.2.2.2.1.2
    rw [en] at hU
    have hU := hU n (by omega)
    refine zlp2 (T := fun y z K => t_X11_undo_37 y z K Q) (E := fun K => t_X11_undo_e u K Q) 5497 (fun i => nI i) (fun i => (0, fa_fill (fun j => u.2.2.2.2.2.1 (5497 * n + j)) u.2.1 i, u.2.2.1, u.2.2.2.1, u.2.2.2.2.1, u.2.2.2.2.2.1, nI n, u.2.2.2.2.2.2.2)) (fun K hK => ?_) ?_ ?_
    · unfold t_X11_undo_e
      rw [eN, en]
      refine ⟨fun _ => ⟨fun _ x ex => ?_, fun q => absurd (by decide) q⟩, fun q => absurd q (nI_ne0 (by omega) (by omega))⟩
      rw [nI_pred] at ex
      subst ex
      have hK : K (nI 0) (0, fa_fill (fun j => u.2.2.2.2.2.1 (5497 * n + j)) u.2.1 0, u.2.2.1, u.2.2.2.1, u.2.2.2.2.1, u.2.2.2.2.2.1, nI n, u.2.2.2.2.2.2.2) := hK
      rw [fa_fill_0] at hK
      exact hK
    · intro i hi K hK
      refine ⟨fun c => absurd c (ge5497 hi), fun _ => ?_⟩
      dsimp only
      rw [show (5497 : Int32) * nI n + nI i = nI (5497 * n + i) by rw [show (5497 : Int32) = nI 5497 from rfl, n_mul, nI_add], nI_clamp (n := 5497 * n + i) (by omega), nI_clamp (n := i) (by omega)]
      refine ⟨vp_in_nI (by omega) (by decide), vp_in_nI hi (by decide), fun f e x e' => ?_⟩
      rw [e, e', nI_1, fa_fill_succ (fun j => u.2.2.2.2.2.1 (5497 * n + j)) u.2.1 i]; exact hK
    · intro K
      refine ⟨fun _ => hQ _ ?_ rfl, fun c => absurd le5497 c⟩
      have e1 : gUnN (gUndo G) = n := by show gUnN G - 1 = n; omega
      refine mG_of ?_ ⟨hm.2.1, hm.2.2.1, ⟨by rw [e1], ?_⟩, hm.2.2.2.2.1, hm.2.2.2.2.2.1⟩ hm.2.2.2.2.2.2
      · show mRel (gUn G (gUnN G - 1)) _
        rw [en, show n + 1 - 1 = n by omega]
        exact (hG.2.2.1.2 n (by omega)).same hU (fun j hj => fa_fill_in (f := fun j => u.2.2.2.2.2.1 (5497 * n + j)) (g := u.2.1) hj)
      · rw [e1]
        exact fun i hi => hm.2.2.2.1.2 i (by omega)
theorem c_X11_undo (l : Launch) (dC : Nat → ClassId) (dI : Nat → Nat → Nat) (cI cJ cS : ClassId) (a : Nat → Nat) (u : zModel) (Q : Int32 → zModel → Prop) (hf : s_X11_undo u Q) : ∀ sz : Nat, Met l yX11_undo (Cond.code yX11_undo cX11_undo 2 (some .int) :: zT) rm_X11_undo (zPm dC dI cI cJ cS (cl_X11 cI cJ a u) [.ref (a 0)] sz) (va_Qi Q (zB dC dI cI cJ cS (va_A (cl_X11 cI cJ a u) sz) (fun z => cl_X11 cI cJ a z)) (va_A (cl_X11 cI cJ a u) sz)) 0 0 (va_A (cl_X11 cI cJ a u) sz) := by
  obtain ⟨I37, h37, hf⟩ := st_X11_undo hf
  exact L_X11_undo l dC dI cI cJ cS a u Q I37 h37 hf

def t_X11_image_e (u : zModel) (K7 : Int32 → zModel → Prop) (Q : zModel → Prop) : Prop := K7 (0 : Int32) ((0 : Int32), u.2)
def t_X11_image_7 (y1 : Int32) (z : zModel) (K7 : Int32 → zModel → Prop) (Q : zModel → Prop) : Prop := (((5497 : Int32) ≤ y1 → Q (z.1, z.2.1, z.2.2.1, z.2.2.2.1, z.2.2.2.2.1, z.2.2.2.2.2.1, z.2.2.2.2.2.2.1, (1 : Int32), z.2.2.2.2.2.2.2.2)) ∧ (¬ (5497 : Int32) ≤ y1 → vp_in y1 5497 ∧ vp_in y1 5497 ∧ ∀ f_3 : Nat → Int32, f_3 = upd z.2.2.2.2.1 y1.toNatClampNeg (z.2.1 y1.toNatClampNeg) → ∀ x_4 : Int32, x_4 = y1 + (1 : Int32) → K7 x_4 (z.1, z.2.1, z.2.2.1, z.2.2.2.1, f_3, z.2.2.2.2.2)))
theorem zc_X11_image : zCalV RX11 yX11_image cX11_image 2 none 0 := ⟨q_im_X11_image, q_se_X11_image, q_in_X11, q_cd_X11_image, ⟨by decide, by decide, by decide +kernel⟩, rfl⟩
abbrev rm_X11_image : Room := { frames := 0, cells := 0, slots := 0, locals := 0 }
def v_X11_image (u : zModel) (Q : zModel → Prop) : Prop := ∃ I7 : Nat → Int32 → zModel → Prop, (∀ (n : Nat) (y1 : Int32) (z : zModel), I7 n y1 z → t_X11_image_7 y1 z (fun q0 q1 => ∃ k : Nat, k < n ∧ I7 k q0 q1) Q) ∧ t_X11_image_e u (fun q0 q1 => ∃ k : Nat, I7 k q0 q1) Q
set_option maxHeartbeats 4000000 in
set_option maxRecDepth 100000 in
theorem L_X11_image (l : Launch) (dC : Nat → ClassId) (dI : Nat → Nat → Nat) (cI cJ cS : ClassId) (a : Nat → Nat) (u : zModel) (Q : zModel → Prop) (I7 : Nat → Int32 → zModel → Prop) (h7 : ∀ (n : Nat) (y1 : Int32) (z : zModel), I7 n y1 z → t_X11_image_7 y1 z (fun q0 q1 => ∃ k : Nat, k < n ∧ I7 k q0 q1) Q) (hf : t_X11_image_e u (fun q0 q1 => ∃ k : Nat, I7 k q0 q1) Q) : ∀ sz : Nat, Met l yX11_image (Cond.code yX11_image cX11_image 2 none :: zT) rm_X11_image (zPm dC dI cI cJ cS (cl_X11 cI cJ a u) [.ref (a 0)] sz) (va_Qv Q (zB dC dI cI cJ cS (va_A (cl_X11 cI cJ a u) sz) (fun z => cl_X11 cI cJ a z)) (va_A (cl_X11 cI cJ a u) sz)) 0 0 (va_A (cl_X11 cI cJ a u) sz) := by
  intro sz
  refine z_enterM (Qc := fun A => va_Qv Q (zB dC dI cI cJ cS A (fun z => cl_X11 cI cJ a z)) A) (cc := cX11_image) (maxL := 2) (ret := none) (by decide) (Nat.le_of_ble_eq_true rfl) ?_
  intro p e s m below meth c ls A X hP hD hS hA hl
  obtain ⟨⟨hx, hb, hml, hown, hts⟩, hr, hlk, hK⟩ := id X
  have hl : lv_has ls 2 [(0, .ref (a 0))] := hl
  have LP : ∀ n : Nat, (∀ (y1 : Int32) (z : zModel) (H : Heap) (locs : List Loc) (ls : Array Slot), I7 n y1 z → va_P (dC, dI) vwCl (cl_X11 cI cJ a z) H → va_D A (cl_X11 cI cJ a z) → va_S A s.heap H locs → lv_has ls 2 [(0, .ref (a 0)), (1, .int y1)] → W p l e rm_X11_image s m [.ref (a 0)].toArray below meth c H locs 0 0 (MQ below (va_Qv Q (zB dC dI cI cJ cS A (fun z => cl_X11 cI cJ a z)) A) [.ref (a 0)].toArray s 0 0 A) (F0 m 7 ls [])) := by
    intro n
    induction n using Nat.strongRecOn with
    | _ n ih =>
      intro y1 z H locs ls hI hP hD hS hl
      have hf := h7 n y1 z hI
      unfold t_X11_image_7 at hf
      refine lv_iload_n hx hb dX11_image_7 rfl (lv_at hl 1 rfl) ?_
      refine lv_sipush (v := 5497) hx hb dX11_image_8 (by decide) ?_
      refine lv_icmp_ge (tgt := 32) hx hb dX11_image_11 (by decide) (fun c_2 => ?_) (fun c_2 => ?_)
      · have hf := hf.1 c_2
        refine lv_aload_n hx hb dX11_image_32 rfl (lv_at hl 0 rfl) ?_
        refine lv_iconst (v := 1) hx hb dX11_image_33 (by decide) ?_
        refine z_put (w' := cl_X11 cI cJ a (z.1, z.2.1, z.2.2.1, z.2.2.2.1, z.2.2.2.2.1, z.2.2.2.2.2.1, z.2.2.2.2.2.2.1, (1 : Int32), z.2.2.2.2.2.2.2.2)) (ci := 10) (v := .int (1 : Int32)) (ty := .boolean) (Cn := RX11) (T := TX11) (N := 17) X inX11 tyX11 tyX11_ok nmX11 hP hD hS 0 rfl rfl 7 (by decide) (hts _ q_fl_X11_327) (fun _ h9 => h9) rfl (tyX11_ok 7 (by decide)) rfl rfl (Nat.le_of_ble_eq_true rfl) rfl dX11_image_34 (fun H locs hP hD hS => ?_)
        exact z_retMv (Wf := (fun z => cl_X11 cI cJ a z)) (u := (z.1, z.2.1, z.2.2.1, z.2.2.2.1, z.2.2.2.2.1, z.2.2.2.2.2.1, z.2.2.2.2.2.2.1, (1 : Int32), z.2.2.2.2.2.2.2.2)) X hf hP hD hS dX11_image_37
      · have hf := hf.2 c_2
        refine lv_aload_n hx hb dX11_image_14 rfl (lv_at hl 0 rfl) ?_
        refine va_get (D := (dC, dI)) (ci := 10) (v := .ref (a 4)) (C := RX11) (T := TX11) (N := 17) hx hb hts inX11 hown hK hP 0 rfl rfl 4 (by decide) (hts _ q_fl_X11_19) (fun _ h9 => h9) rfl dX11_image_15 ?_
        refine lv_iload_n hx hb dX11_image_18 rfl (lv_at hl 1 rfl) ?_
        refine lv_aload_n hx hb dX11_image_19 rfl (lv_at hl 0 rfl) ?_
        refine va_get (D := (dC, dI)) (ci := 10) (v := .ref (a 1)) (C := RX11) (T := TX11) (N := 17) hx hb hts inX11 hown hK hP 0 rfl rfl 1 (by decide) (hts _ q_fl_X11_7) (fun _ h9 => h9) rfl dX11_image_20 ?_
        refine lv_iload_n hx hb dX11_image_23 rfl (lv_at hl 1 rfl) ?_
        obtain ⟨hg, hf⟩ := hf
        refine va_iald hx hb hK hP 1 0 rfl rfl hg dX11_image_24 ?_
        obtain ⟨hg, hf⟩ := hf
        refine z_iast (Wn := fun f_3 => cl_X11 cI cJ a (z.1, z.2.1, z.2.2.1, z.2.2.2.1, f_3, z.2.2.2.2.2)) X hP hD hS 4 0 rfl rfl hg (fun _ => rfl) dX11_image_25 (fun f_3 H locs ef_3 hP hD hS => ?_)
        have hf := hf f_3 ef_3
        obtain ⟨x_4, ex_4⟩ : ∃ y : Int32, y = y1 + (1 : Int32) := ⟨_, rfl⟩
        have hf := hf x_4 ex_4
        refine lv_iinc (v := x_4) (lv' := [(1, .int x_4), (0, .ref (a 0))]) hx hb dX11_image_26 hl (k := 1) rfl (by rw [ex_4]; rfl) (by decide) rfl (fun ls hl => ?_)
        refine lv_goto (tgt := 7) hx hb dX11_image_29 (by decide) ?_
        obtain ⟨k_5, hk_5, hf⟩ := hf
        exact (ih k_5 hk_5) _ (z.1, z.2.1, z.2.2.1, z.2.2.2.1, f_3, z.2.2.2.2.2) _ _ ls hf hP hD hS (lv_sub hl [1, 0] rfl)
  unfold t_X11_image_e at hf
  refine lv_aload_n hx hb dX11_image_0 rfl (lv_at hl 0 rfl) ?_
  refine lv_iconst (v := 0) hx hb dX11_image_1 (by decide) ?_
  refine z_put (w' := cl_X11 cI cJ a ((0 : Int32), u.2)) (ci := 10) (v := .int (0 : Int32)) (ty := .int) (Cn := RX11) (T := TX11) (N := 17) X inX11 tyX11 tyX11_ok nmX11 hP hD hS 0 rfl rfl 0 (by decide) (hts _ q_fl_X11_43) (fun _ h9 => h9) rfl (tyX11_ok 0 (by decide)) rfl rfl (Nat.le_of_ble_eq_true rfl) rfl dX11_image_2 (fun H locs hP hD hS => ?_)
  refine lv_iconst (v := 0) hx hb dX11_image_5 (by decide) ?_
  refine lv_istore_n (lv' := [(1, .int (0 : Int32)), (0, .ref (a 0))]) hx hb dX11_image_6 rfl hl (by decide) rfl (fun ls hl => ?_)
  obtain ⟨k_1, hf⟩ := hf
  exact (LP k_1) _ ((0 : Int32), u.2) _ _ ls hf hP hD hS (lv_sub hl [1, 0] rfl)
def s_X11_image (u : zModel) (Q : zModel → Prop) : Prop := ∃ (B : Nat) (G : zG), okG B G ∧ mG G u ∧ ∀ u' : zModel, mG (fImage G) u' → Q u'
theorem st_X11_image {u : zModel} {Q : zModel → Prop} (h : s_X11_image u Q) : v_X11_image u Q := by
  obtain ⟨B, G, hG, hm, hQ⟩ := h
  refine zlp2 (T := fun y z K => t_X11_image_7 y z K Q) (E := fun K => t_X11_image_e u K Q) 5497 (fun i => nI i) (fun i => (0, u.2.1, u.2.2.1, u.2.2.2.1, fa_fill u.2.1 u.2.2.2.2.1 i, u.2.2.2.2.2)) (fun K hK => ?_) ?_ ?_
  · have hK : K (nI 0) (0, u.2.1, u.2.2.1, u.2.2.2.1, fa_fill u.2.1 u.2.2.2.2.1 0, u.2.2.2.2.2) := hK
    rw [fa_fill_0] at hK
    exact hK
  · intro i hi K hK
    refine ⟨fun c => absurd c (ge5497 hi), fun _ => ⟨vp_in_nI hi (by decide), vp_in_nI hi (by decide), fun f e x e' => ?_⟩⟩
    have e : f = upd (fa_fill u.2.1 u.2.2.2.2.1 i) (nI i).toNatClampNeg (u.2.1 (nI i).toNatClampNeg) := e
    rw [nI_clamp (by omega), fa_fill_succ u.2.1 u.2.2.2.2.1 i] at e
    rw [e, e', nI_1]; exact hK
  · intro K
    refine ⟨fun _ => hQ _ ?_, fun c => absurd le5497 c⟩
    exact mG_of hm.now ⟨fun _ => hG.1.same hm.now (fun j hj => fa_fill_in hj), rfl, hm.2.2.2.1, hm.2.2.2.2.1, hm.2.2.2.2.2.1⟩ hm.2.2.2.2.2.2
theorem c_X11_image (l : Launch) (dC : Nat → ClassId) (dI : Nat → Nat → Nat) (cI cJ cS : ClassId) (a : Nat → Nat) (u : zModel) (Q : zModel → Prop) (hf : s_X11_image u Q) : ∀ sz : Nat, Met l yX11_image (Cond.code yX11_image cX11_image 2 none :: zT) rm_X11_image (zPm dC dI cI cJ cS (cl_X11 cI cJ a u) [.ref (a 0)] sz) (va_Qv Q (zB dC dI cI cJ cS (va_A (cl_X11 cI cJ a u) sz) (fun z => cl_X11 cI cJ a z)) (va_A (cl_X11 cI cJ a u) sz)) 0 0 (va_A (cl_X11 cI cJ a u) sz) := by
  obtain ⟨I7, h7, hf⟩ := st_X11_image hf
  exact L_X11_image l dC dI cI cJ cS a u Q I7 h7 hf

def t_X11_back_e (u : zModel) (K16 : Int32 → zModel → Prop) (Q : Int32 → zModel → Prop) : Prop := ((¬ u.2.2.2.2.2.2.2.1 = 0 → K16 (0 : Int32) ((0 : Int32), u.2)) ∧ (u.2.2.2.2.2.2.2.1 = 0 → Q (0 : Int32) ((0 : Int32), u.2)))
def t_X11_back_16 (y1 : Int32) (z : zModel) (K16 : Int32 → zModel → Prop) (Q : Int32 → zModel → Prop) : Prop := (((5497 : Int32) ≤ y1 → Q (1 : Int32) (z.1, z.2.1, z.2.2.1, z.2.2.2.1, z.2.2.2.2.1, z.2.2.2.2.2.1, (0 : Int32), z.2.2.2.2.2.2.2)) ∧ (¬ (5497 : Int32) ≤ y1 → vp_in y1 5497 ∧ vp_in y1 5497 ∧ ∀ f_4 : Nat → Int32, f_4 = upd z.2.1 y1.toNatClampNeg (z.2.2.2.2.1 y1.toNatClampNeg) → ∀ x_5 : Int32, x_5 = y1 + (1 : Int32) → K16 x_5 (z.1, f_4, z.2.2)))
theorem zc_X11_back : zCalV RX11 yX11_back cX11_back 2 (some .boolean) 0 := ⟨q_im_X11_back, q_se_X11_back, q_in_X11, q_cd_X11_back, ⟨by decide, by decide, by decide +kernel⟩, rfl⟩
abbrev rm_X11_back : Room := { frames := 0, cells := 0, slots := 0, locals := 0 }
def v_X11_back (u : zModel) (Q : Int32 → zModel → Prop) : Prop := ∃ I16 : Nat → Int32 → zModel → Prop, (∀ (n : Nat) (y1 : Int32) (z : zModel), I16 n y1 z → t_X11_back_16 y1 z (fun q0 q1 => ∃ k : Nat, k < n ∧ I16 k q0 q1) Q) ∧ t_X11_back_e u (fun q0 q1 => ∃ k : Nat, I16 k q0 q1) Q
set_option maxHeartbeats 4000000 in
set_option maxRecDepth 100000 in
theorem L_X11_back (l : Launch) (dC : Nat → ClassId) (dI : Nat → Nat → Nat) (cI cJ cS : ClassId) (a : Nat → Nat) (u : zModel) (Q : Int32 → zModel → Prop) (I16 : Nat → Int32 → zModel → Prop) (h16 : ∀ (n : Nat) (y1 : Int32) (z : zModel), I16 n y1 z → t_X11_back_16 y1 z (fun q0 q1 => ∃ k : Nat, k < n ∧ I16 k q0 q1) Q) (hf : t_X11_back_e u (fun q0 q1 => ∃ k : Nat, I16 k q0 q1) Q) : ∀ sz : Nat, Met l yX11_back (Cond.code yX11_back cX11_back 2 (some .boolean) :: zT) rm_X11_back (zPm dC dI cI cJ cS (cl_X11 cI cJ a u) [.ref (a 0)] sz) (va_Qi (fun r u => (r = 0 ∨ r = 1) ∧ Q r u) (zB dC dI cI cJ cS (va_A (cl_X11 cI cJ a u) sz) (fun z => cl_X11 cI cJ a z)) (va_A (cl_X11 cI cJ a u) sz)) 0 0 (va_A (cl_X11 cI cJ a u) sz) := by
  intro sz
  refine z_enterM (Qc := fun A => va_Qi (fun r u => (r = 0 ∨ r = 1) ∧ Q r u) (zB dC dI cI cJ cS A (fun z => cl_X11 cI cJ a z)) A) (cc := cX11_back) (maxL := 2) (ret := (some .boolean)) (by decide) (Nat.le_of_ble_eq_true rfl) ?_
  intro p e s m below meth c ls A X hP hD hS hA hl
  obtain ⟨⟨hx, hb, hml, hown, hts⟩, hr, hlk, hK⟩ := id X
  have hl : lv_has ls 2 [(0, .ref (a 0))] := hl
  have LP : ∀ n : Nat, (∀ (y1 : Int32) (z : zModel) (H : Heap) (locs : List Loc) (ls : Array Slot), I16 n y1 z → va_P (dC, dI) vwCl (cl_X11 cI cJ a z) H → va_D A (cl_X11 cI cJ a z) → va_S A s.heap H locs → lv_has ls 2 [(0, .ref (a 0)), (1, .int y1)] → W p l e rm_X11_back s m [.ref (a 0)].toArray below meth c H locs 0 0 (MQ below (va_Qi (fun r u => (r = 0 ∨ r = 1) ∧ Q r u) (zB dC dI cI cJ cS A (fun z => cl_X11 cI cJ a z)) A) [.ref (a 0)].toArray s 0 0 A) (F0 m 16 ls [])) := by
    intro n
    induction n using Nat.strongRecOn with
    | _ n ih =>
      intro y1 z H locs ls hI hP hD hS hl
      have hf := h16 n y1 z hI
      unfold t_X11_back_16 at hf
      refine lv_iload_n hx hb dX11_back_16 rfl (lv_at hl 1 rfl) ?_
      refine lv_sipush (v := 5497) hx hb dX11_back_17 (by decide) ?_
      refine lv_icmp_ge (tgt := 41) hx hb dX11_back_20 (by decide) (fun c_3 => ?_) (fun c_3 => ?_)
      · have hf := hf.1 c_3
        refine lv_aload_n hx hb dX11_back_41 rfl (lv_at hl 0 rfl) ?_
        refine lv_iconst (v := 0) hx hb dX11_back_42 (by decide) ?_
        refine z_put (w' := cl_X11 cI cJ a (z.1, z.2.1, z.2.2.1, z.2.2.2.1, z.2.2.2.2.1, z.2.2.2.2.2.1, (0 : Int32), z.2.2.2.2.2.2.2)) (ci := 10) (v := .int (0 : Int32)) (ty := .int) (Cn := RX11) (T := TX11) (N := 17) X inX11 tyX11 tyX11_ok nmX11 hP hD hS 0 rfl rfl 6 (by decide) (hts _ q_fl_X11_149) (fun _ h9 => h9) rfl (tyX11_ok 6 (by decide)) rfl rfl (Nat.le_of_ble_eq_true rfl) rfl dX11_back_43 (fun H locs hP hD hS => ?_)
        refine lv_iconst (v := 1) hx hb dX11_back_46 (by decide) ?_
        exact z_retMz (Wf := (fun z => cl_X11 cI cJ a z)) (u := (z.1, z.2.1, z.2.2.1, z.2.2.2.1, z.2.2.2.2.1, z.2.2.2.2.2.1, (0 : Int32), z.2.2.2.2.2.2.2)) X (Or.inr rfl) hf hP hD hS dX11_back_47
      · have hf := hf.2 c_3
        refine lv_aload_n hx hb dX11_back_23 rfl (lv_at hl 0 rfl) ?_
        refine va_get (D := (dC, dI)) (ci := 10) (v := .ref (a 1)) (C := RX11) (T := TX11) (N := 17) hx hb hts inX11 hown hK hP 0 rfl rfl 1 (by decide) (hts _ q_fl_X11_7) (fun _ h9 => h9) rfl dX11_back_24 ?_
        refine lv_iload_n hx hb dX11_back_27 rfl (lv_at hl 1 rfl) ?_
        refine lv_aload_n hx hb dX11_back_28 rfl (lv_at hl 0 rfl) ?_
        refine va_get (D := (dC, dI)) (ci := 10) (v := .ref (a 4)) (C := RX11) (T := TX11) (N := 17) hx hb hts inX11 hown hK hP 0 rfl rfl 4 (by decide) (hts _ q_fl_X11_19) (fun _ h9 => h9) rfl dX11_back_29 ?_
        refine lv_iload_n hx hb dX11_back_32 rfl (lv_at hl 1 rfl) ?_
        obtain ⟨hg, hf⟩ := hf
        refine va_iald hx hb hK hP 4 0 rfl rfl hg dX11_back_33 ?_
        obtain ⟨hg, hf⟩ := hf
        refine z_iast (Wn := fun f_4 => cl_X11 cI cJ a (z.1, f_4, z.2.2)) X hP hD hS 1 0 rfl rfl hg (fun _ => rfl) dX11_back_34 (fun f_4 H locs ef_4 hP hD hS => ?_)
        have hf := hf f_4 ef_4
        obtain ⟨x_5, ex_5⟩ : ∃ y : Int32, y = y1 + (1 : Int32) := ⟨_, rfl⟩
        have hf := hf x_5 ex_5
        refine lv_iinc (v := x_5) (lv' := [(1, .int x_5), (0, .ref (a 0))]) hx hb dX11_back_35 hl (k := 1) rfl (by rw [ex_5]; rfl) (by decide) rfl (fun ls hl => ?_)
        refine lv_goto (tgt := 16) hx hb dX11_back_38 (by decide) ?_
        obtain ⟨k_6, hk_6, hf⟩ := hf
        exact (ih k_6 hk_6) _ (z.1, f_4, z.2.2) _ _ ls hf hP hD hS (lv_sub hl [1, 0] rfl)
  unfold t_X11_back_e at hf
  refine lv_aload_n hx hb dX11_back_0 rfl (lv_at hl 0 rfl) ?_
  refine lv_iconst (v := 0) hx hb dX11_back_1 (by decide) ?_
  refine z_put (w' := cl_X11 cI cJ a ((0 : Int32), u.2)) (ci := 10) (v := .int (0 : Int32)) (ty := .int) (Cn := RX11) (T := TX11) (N := 17) X inX11 tyX11 tyX11_ok nmX11 hP hD hS 0 rfl rfl 0 (by decide) (hts _ q_fl_X11_43) (fun _ h9 => h9) rfl (tyX11_ok 0 (by decide)) rfl rfl (Nat.le_of_ble_eq_true rfl) rfl dX11_back_2 (fun H locs hP hD hS => ?_)
  refine lv_aload_n hx hb dX11_back_5 rfl (lv_at hl 0 rfl) ?_
  refine va_get (D := (dC, dI)) (ci := 10) (v := .int u.2.2.2.2.2.2.2.1) (C := RX11) (T := TX11) (N := 17) hx hb hts inX11 hown hK hP 0 rfl rfl 7 (by decide) (hts _ q_fl_X11_327) (fun _ h9 => h9) rfl dX11_back_6 ?_
  refine lv_if_ne (tgt := 14) hx hb dX11_back_9 (by decide) (fun c_1 => ?_) (fun c_1 => ?_)
  · have hf := hf.1 c_1
    refine lv_iconst (v := 0) hx hb dX11_back_14 (by decide) ?_
    refine lv_istore_n (lv' := [(1, .int (0 : Int32)), (0, .ref (a 0))]) hx hb dX11_back_15 rfl hl (by decide) rfl (fun ls hl => ?_)
    obtain ⟨k_2, hf⟩ := hf
    exact (LP k_2) _ ((0 : Int32), u.2) _ _ ls hf hP hD hS (lv_sub hl [1, 0] rfl)
  · have hf := hf.2 c_1
    refine lv_iconst (v := 0) hx hb dX11_back_12 (by decide) ?_
    exact z_retMz (Wf := (fun z => cl_X11 cI cJ a z)) (u := ((0 : Int32), u.2)) X (Or.inl rfl) hf hP hD hS dX11_back_13
def s_X11_back (u : zModel) (Q : Int32 → zModel → Prop) : Prop := ∃ (B : Nat) (G : zG), okG B G ∧ mG G u ∧ ∀ u' : zModel, mG (fBack G).2 u' → Q (fBack G).1 u'
theorem st_X11_back {u : zModel} {Q : Int32 → zModel → Prop} (h : s_X11_back u Q) : v_X11_back u Q := by
  obtain ⟨B, G, hG, hm, hQ⟩ := h
  unfold fBack at hQ
  have eI : u.2.2.2.2.2.2.2.1 = gIs G := hm.2.2.1
  by_cases h0 : gIs G = 0
  · rw [if_pos h0] at hQ
    exact ⟨fun _ _ _ => False, fun _ _ _ q => q.elim, fun c => absurd (eI.trans h0) c, fun _ => hQ _ (hm.th 0)⟩
  · rw [if_neg h0] at hQ
    obtain ⟨h1, hk⟩ := hG.2.1.resolve_left h0
    refine zlp2 (T := fun y z K => t_X11_back_16 y z K Q) (E := fun K => t_X11_back_e u K Q) 5497 (fun i => nI i) (fun i => (0, fa_fill u.2.2.2.2.1 u.2.1 i, u.2.2)) (fun K hK => ?_) ?_ ?_
    · refine ⟨fun c => ?_, fun c => absurd (eI.symm.trans c) h0⟩
      have hK : K (nI 0) (0, fa_fill u.2.2.2.2.1 u.2.1 0, u.2.2) := hK
      rw [fa_fill_0] at hK
      exact hK
    · intro i hi K hK
      refine ⟨fun c => absurd c (ge5497 hi), fun _ => ⟨vp_in_nI hi (by decide), vp_in_nI hi (by decide), fun f e x e' => ?_⟩⟩
      have e : f = upd (fa_fill u.2.2.2.2.1 u.2.1 i) (nI i).toNatClampNeg (u.2.2.2.2.1 (nI i).toNatClampNeg) := e
      rw [nI_clamp (by omega), fa_fill_succ u.2.2.2.2.1 u.2.1 i] at e
      rw [e, e', nI_1]; exact hK
    · intro K
      refine ⟨fun _ => hQ _ ?_, fun c => absurd le5497 c⟩
      exact mG_of (hk.same (hm.2.1 h1) (fun j hj => fa_fill_in hj)) ⟨hm.2.1, hm.2.2.1, ⟨rfl, fun i hi => absurd hi (Nat.not_lt_zero i)⟩, hm.2.2.2.2.1, hm.2.2.2.2.2.1⟩ hm.2.2.2.2.2.2
theorem c_X11_back (l : Launch) (dC : Nat → ClassId) (dI : Nat → Nat → Nat) (cI cJ cS : ClassId) (a : Nat → Nat) (u : zModel) (Q : Int32 → zModel → Prop) (hf : s_X11_back u Q) : ∀ sz : Nat, Met l yX11_back (Cond.code yX11_back cX11_back 2 (some .boolean) :: zT) rm_X11_back (zPm dC dI cI cJ cS (cl_X11 cI cJ a u) [.ref (a 0)] sz) (va_Qi (fun r u => (r = 0 ∨ r = 1) ∧ Q r u) (zB dC dI cI cJ cS (va_A (cl_X11 cI cJ a u) sz) (fun z => cl_X11 cI cJ a z)) (va_A (cl_X11 cI cJ a u) sz)) 0 0 (va_A (cl_X11 cI cJ a u) sz) := by
  obtain ⟨I16, h16, hf⟩ := st_X11_back hf
  exact L_X11_back l dC dI cI cJ cS a u Q I16 h16 hf

def t_X11_end (u : zModel) (x1 : Int32) (Q : Int32 → zModel → Prop) : Prop := s_X11_isIn x1 (0 : Int32) u.2.2.2.2.2.2.2.2.2.2.1 (fun r_1 : Int32 => ((¬ r_1 = 0 → Q (1 : Int32) ((0 : Int32), u.2.1, u.2.2.1, u.2.2.2.1, u.2.2.2.2.1, u.2.2.2.2.2.1, u.2.2.2.2.2.2.1, u.2.2.2.2.2.2.2.1, u.2.2.2.2.2.2.2.2.1, u.2.2.2.2.2.2.2.2.2.1, x1, u.2.2.2.2.2.2.2.2.2.2.2)) ∧ (r_1 = 0 → Q (0 : Int32) ((0 : Int32), u.2))))
theorem zc_X11_end : zCalV RX11 yX11_end cX11_end 2 (some .boolean) 1 := ⟨q_im_X11_end, q_se_X11_end, q_in_X11, q_cd_X11_end, ⟨by decide, by decide, by decide +kernel⟩, rfl⟩
abbrev rm_X11_end : Room := { frames := 1, cells := 0, slots := 0, locals := 22 }
set_option maxHeartbeats 4000000 in
set_option maxRecDepth 100000 in
theorem L_X11_end (l : Launch) (dC : Nat → ClassId) (dI : Nat → Nat → Nat) (cI cJ cS : ClassId) (a : Nat → Nat) (u : zModel) (x1 : Int32) (Q : Int32 → zModel → Prop) (hf : t_X11_end u x1 Q) : ∀ sz : Nat, Met l yX11_end (Cond.code yX11_end cX11_end 2 (some .boolean) :: zT) rm_X11_end (zPm dC dI cI cJ cS (cl_X11 cI cJ a u) [.ref (a 0), .int x1] sz) (va_Qi (fun r u => (r = 0 ∨ r = 1) ∧ Q r u) (zB dC dI cI cJ cS (va_A (cl_X11 cI cJ a u) sz) (fun z => cl_X11 cI cJ a z)) (va_A (cl_X11 cI cJ a u) sz)) 0 0 (va_A (cl_X11 cI cJ a u) sz) := by
  intro sz
  refine z_enterM (Qc := fun A => va_Qi (fun r u => (r = 0 ∨ r = 1) ∧ Q r u) (zB dC dI cI cJ cS A (fun z => cl_X11 cI cJ a z)) A) (cc := cX11_end) (maxL := 2) (ret := (some .boolean)) (by decide) (Nat.le_of_ble_eq_true rfl) ?_
  intro p e s m below meth c ls A X hP hD hS hA hl
  obtain ⟨⟨hx, hb, hml, hown, hts⟩, hr, hlk, hK⟩ := id X
  have hl : lv_has ls 2 [(0, .ref (a 0)), (1, .int x1)] := hl
  unfold t_X11_end at hf
  refine lv_aload_n hx hb dX11_end_0 rfl (lv_at hl 0 rfl) ?_
  refine lv_iconst (v := 0) hx hb dX11_end_1 (by decide) ?_
  refine z_put (w' := cl_X11 cI cJ a ((0 : Int32), u.2)) (ci := 10) (v := .int (0 : Int32)) (ty := .int) (Cn := RX11) (T := TX11) (N := 17) X inX11 tyX11 tyX11_ok nmX11 hP hD hS 0 rfl rfl 0 (by decide) (hts _ q_fl_X11_43) (fun _ h9 => h9) rfl (tyX11_ok 0 (by decide)) rfl rfl (Nat.le_of_ble_eq_true rfl) rfl dX11_end_2 (fun H locs hP hD hS => ?_)
  refine lv_iload_n hx hb dX11_end_5 rfl (lv_at hl 1 rfl) ?_
  refine lv_iconst (v := 0) hx hb dX11_end_6 (by decide) ?_
  refine lv_aload_n hx hb dX11_end_7 rfl (lv_at hl 0 rfl) ?_
  refine va_get (D := (dC, dI)) (ci := 10) (v := .int u.2.2.2.2.2.2.2.2.2.2.1) (C := RX11) (T := TX11) (N := 17) hx hb hts inX11 hown hK hP 0 rfl rfl 10 (by decide) (hts _ q_fl_X11_162) (fun _ h9 => h9) rfl dX11_end_8 ?_
  refine z_cSi (As := [.int x1, .int (0 : Int32), .int u.2.2.2.2.2.2.2.2.2.2.1]) (rest := []) X (c_X11_isIn l dC dI cI cJ cS   x1 (0 : Int32) u.2.2.2.2.2.2.2.2.2.2.1 _ hf) zc_X11_isIn q_ml_X11_165 ⟨rfl, rfl⟩ ⟨Nat.le_of_ble_eq_true rfl, Nat.le_of_ble_eq_true rfl⟩ hP [] rfl hl.1 rfl rfl (Nat.le_of_ble_eq_true rfl) ⟨Nat.zero_le _, Nat.zero_le _⟩ dX11_end_11 (fun r_1 hf => ?_)
  obtain ⟨hbr_1, hf⟩ := hf
  refine lv_if_ne (tgt := 19) hx hb dX11_end_14 (by decide) (fun c_2 => ?_) (fun c_2 => ?_)
  · have hf := hf.1 c_2
    refine lv_aload_n hx hb dX11_end_19 rfl (lv_at hl 0 rfl) ?_
    refine lv_iload_n hx hb dX11_end_20 rfl (lv_at hl 1 rfl) ?_
    refine z_put (w' := cl_X11 cI cJ a ((0 : Int32), u.2.1, u.2.2.1, u.2.2.2.1, u.2.2.2.2.1, u.2.2.2.2.2.1, u.2.2.2.2.2.2.1, u.2.2.2.2.2.2.2.1, u.2.2.2.2.2.2.2.2.1, u.2.2.2.2.2.2.2.2.2.1, x1, u.2.2.2.2.2.2.2.2.2.2.2)) (ci := 10) (v := .int x1) (ty := .int) (Cn := RX11) (T := TX11) (N := 17) X inX11 tyX11 tyX11_ok nmX11 hP hD hS 0 rfl rfl 10 (by decide) (hts _ q_fl_X11_162) (fun _ h9 => h9) rfl (tyX11_ok 10 (by decide)) rfl rfl (Nat.le_of_ble_eq_true rfl) rfl dX11_end_21 (fun H locs hP hD hS => ?_)
    refine lv_iconst (v := 1) hx hb dX11_end_24 (by decide) ?_
    exact z_retMz (Wf := (fun z => cl_X11 cI cJ a z)) (u := ((0 : Int32), u.2.1, u.2.2.1, u.2.2.2.1, u.2.2.2.2.1, u.2.2.2.2.2.1, u.2.2.2.2.2.2.1, u.2.2.2.2.2.2.2.1, u.2.2.2.2.2.2.2.2.1, u.2.2.2.2.2.2.2.2.2.1, x1, u.2.2.2.2.2.2.2.2.2.2.2)) X (Or.inr rfl) hf hP hD hS dX11_end_25
  · have hf := hf.2 c_2
    refine lv_iconst (v := 0) hx hb dX11_end_17 (by decide) ?_
    exact z_retMz (Wf := (fun z => cl_X11 cI cJ a z)) (u := ((0 : Int32), u.2)) X (Or.inl rfl) hf hP hD hS dX11_end_18
def s_X11_end (u : zModel) (x1 : Int32) (Q : Int32 → zModel → Prop) : Prop := ∃ (B : Nat) (G : zG), okG B G ∧ mG G u ∧ ∀ u' : zModel, mG (fEnd G x1).2 u' → Q (fEnd G x1).1 u'
theorem st_X11_end {u : zModel} {x1 : Int32} {Q : Int32 → zModel → Prop} (h : s_X11_end u x1 Q) : t_X11_end u x1 Q := by
  obtain ⟨B, G, hG, hm, hQ⟩ := h
  unfold fEnd at hQ
  have eT : u.2.2.2.2.2.2.2.2.2.2.1 = nI (gTpN G) := hm.2.2.2.2.1.1
  have h400 := hG.2.2.2
  unfold t_X11_end
  rw [eT]
  refine isIn_of (fun c => ⟨fun _ => ?_, fun q => absurd q (by decide)⟩) (fun c => ⟨fun q => absurd rfl q, fun _ => ?_⟩)
  · rw [if_pos c] at hQ
    obtain ⟨n, -, hn2, rfl, en⟩ := inR_n (a := 0) (b := gTpN G) (by omega) (by decide) c
    rw [en] at hQ
    exact hQ _ (mG_of hm.now ⟨hm.2.1, hm.2.2.1, hm.2.2.2.1, ⟨rfl, fun j hj => hm.2.2.2.2.1.2 j (by have : j < n := hj; omega)⟩, hm.2.2.2.2.2.1⟩ hm.2.2.2.2.2.2)
  · rw [if_neg c] at hQ
    exact hQ _ (hm.th 0)
theorem c_X11_end (l : Launch) (dC : Nat → ClassId) (dI : Nat → Nat → Nat) (cI cJ cS : ClassId) (a : Nat → Nat) (u : zModel) (x1 : Int32) (Q : Int32 → zModel → Prop) (hf : s_X11_end u x1 Q) : ∀ sz : Nat, Met l yX11_end (Cond.code yX11_end cX11_end 2 (some .boolean) :: zT) rm_X11_end (zPm dC dI cI cJ cS (cl_X11 cI cJ a u) [.ref (a 0), .int x1] sz) (va_Qi (fun r u => (r = 0 ∨ r = 1) ∧ Q r u) (zB dC dI cI cJ cS (va_A (cl_X11 cI cJ a u) sz) (fun z => cl_X11 cI cJ a z)) (va_A (cl_X11 cI cJ a u) sz)) 0 0 (va_A (cl_X11 cI cJ a u) sz) := L_X11_end l dC dI cI cJ cS a u x1 Q (st_X11_end hf)
