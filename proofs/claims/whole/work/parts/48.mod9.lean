/-! numbers ahead that change, the rest as it was -/
theorem mRel.tops {v v' : zState} {m m' : Nat → Int32} (h : mRel v m) (hj : ∀ j, 16 ≤ j → m' j = m j) (ht : mTop v' m') (e1 : v'.1.2.1 = v.1.2.1) (eg : v'.2.2.1 = v.2.2.1) (et : v'.2.2.2.1 = v.2.2.2.1) (en : mNo v.2.2.2.2.1 v.2.2.1 m → mNo v'.2.2.2.2.1 v.2.2.1 m) (ed : v'.2.2.2.2.2.1 = v.2.2.2.2.2.1) : mRel v' m' := by
  obtain ⟨rT, rS, rR, rE, rN', rL⟩ := mRel_iff.mp h
  refine mRel_iff.mpr ⟨ht, ?_, ?_, ?_, ?_, ?_⟩
  · rw [eg]; exact fun s w hs hw => (hj _ (by omega)).trans (rS s w hs hw)
  · rw [eg]; exact fun s k w hs hk hw => (hj _ (by omega)).trans (rR s k w hs hk hw)
  · rw [e1, et]; exact fun l k hl hk => (rE l k hl hk).cg (fun w hw => hj _ (by omega))
  · rw [eg]
    intro hc i hi
    obtain ⟨j, q1, q2, q3⟩ := en rN' hc i hi
    exact ⟨j, q1, (hj _ (by omega)).trans q2, q3⟩
  · rw [ed]; exact ⟨(hj _ (by omega)).trans rL.1, fun i hi => (hj _ (by omega)).trans (rL.2 i hi)⟩
/-! TOLD -/
def uTold (v : zState) (x : Int32) : zState := (v.1, (v.2.1.1, v.2.1.2.1 + x, v.2.1.2.2.1, v.2.1.2.2.2.1, v.2.1.2.2.2.2), v.2.2)
theorem zPr.told {ρ β mo lm L S M B z : Nat} {v : zState} (h : zP ρ β mo lm L S M B v) (hz : z ≤ 44) (hB : B < 400000) : zP ρ β mo lm L S M (B + 1) (uTold v (nI z)) := by
  obtain ⟨h1, h2, h3, h4, ⟨a1, a2, a3, a4, a5, a6, a7⟩, hg, ht, hR, hL, hC, hD, x, y, t1, t2, t3, t4⟩ := h
  exact ⟨h1, h2, h3, h4, ⟨a1, a2, a3, a4, a5, by omega, by omega⟩, hg, ht, hR, hL, hC, hD, x, y + z, t1, by show v.2.1.2.1 + nI z = _; rw [t2, nI_add], by omega, by omega⟩
theorem mRel.told {v : zState} {m : Nat → Int32} (h : mRel v m) (x : Int32) : mRel (uTold v x) (upd m 15 (m 15 + x)) := by
  refine h.tops (fun j hj => up_ne (by omega)) (lt16 ?_ ?_ ?_ ?_ ?_ ?_ ?_ ?_ ?_ ?_ ?_ ?_ ?_ ?_ ?_ ?_) rfl rfl rfl id rfl
  all_goals try exact (up_ne (by decide)).trans (h.1 _ (by decide))
  rw [up_eq rfl, h.1 15 (by decide)]; rfl
def uPut (v : zState) (k ln sd : Nat) : zState := uEnter (uTold v (4 + nI ln)) k ln sd
def uDrop (v : zState) (k : Nat) : zState := uEnter (uTold v 4) k 0 0
theorem uFits_told (v : zState) (x y : Int32) : uFits (uTold v x) y = uFits v y := rfl
theorem z4n (ln : Nat) : (4 : Int32) + nI ln = nI (4 + ln) := nI_add 4 ln
theorem zPr.put {ρ β mo lm L S M B k ln sd : Nat} {v : zState} (h : zP ρ β mo lm L S M B v) (hB : B + 2 ≤ 400000) (hk : k < 64) (hl : ln ≤ 40) (hs : sd < 256) (hf : uFits v (4 + nI ln) = true) : ∃ S' M', zP ρ β mo lm (L + 1) S' M' (B + 2) (uPut v k ln sd) := by
  have h1 : zP ρ β mo lm L S M (B + 1) (uTold v (4 + nI ln)) := by rw [z4n]; exact h.told (by omega) (by omega)
  exact zPr.enter h1 (by omega) hk hl hs (by rw [uFits_told]; exact hf)
theorem zPr.drop {ρ β mo lm L S M B k : Nat} {v : zState} (h : zP ρ β mo lm L S M B v) (hB : B + 2 ≤ 400000) (hk : k < 64) (hf : uFits v 4 = true) : ∃ S' M', zP ρ β mo lm (L + 1) S' M' (B + 2) (uDrop v k) := by
  have h1 : zP ρ β mo lm L S M (B + 1) (uTold v 4) := h.told (z := 4) (by omega) (by omega)
  exact zPr.enter h1 (by omega) hk (by omega) (by omega) (by rw [uFits_told]; exact hf)

def t_X11_put0 (u : zModel) (x1 : Int32) (x2 : Int32) (x3 : Int32) (Q : Int32 → zModel → Prop) : Prop := s_X11_sizeOf x2 (fun r_1 : Int32 => s_X11_hasRoom u r_1 (fun r_2 : Int32 => ((¬ r_2 = 0 → vp_in (15 : Int32) 5497 ∧ s_X11_sizeOf x2 (fun r_4 : Int32 => vp_in (15 : Int32) 5497 ∧ ∀ f_5 : Nat → Int32, f_5 = upd u.2.1 (15 : Int32).toNatClampNeg ((u.2.1 (15 : Int32).toNatClampNeg) + r_4) → s_X11_puts (u.1, f_5, u.2.2) x1 x2 x3 (fun (u_7 : zModel) => Q (0 : Int32) u_7))) ∧ (r_2 = 0 → Q (1 : Int32) u))))
theorem zc_X11_put0 : zCalV RX11 yX11_put0 cX11_put0 4 (some .int) 3 := ⟨q_im_X11_put0, q_se_X11_put0, q_in_X11, q_cd_X11_put0, ⟨by decide, by decide, by decide +kernel⟩, rfl⟩
abbrev rm_X11_put0 : Room := { frames := 6, cells := 0, slots := 0, locals := 133 }
set_option maxHeartbeats 4000000 in
set_option maxRecDepth 100000 in
theorem L_X11_put0 (l : Launch) (dC : Nat → ClassId) (dI : Nat → Nat → Nat) (cI cJ cS : ClassId) (a : Nat → Nat) (u : zModel) (x1 : Int32) (x2 : Int32) (x3 : Int32) (Q : Int32 → zModel → Prop) (hf : t_X11_put0 u x1 x2 x3 Q) : ∀ sz : Nat, Met l yX11_put0 (Cond.code yX11_put0 cX11_put0 4 (some .int) :: zT) rm_X11_put0 (zPm dC dI cI cJ cS (cl_X11 cI cJ a u) [.ref (a 0), .int x1, .int x2, .int x3] sz) (va_Qi Q (zB dC dI cI cJ cS (va_A (cl_X11 cI cJ a u) sz) (fun z => cl_X11 cI cJ a z)) (va_A (cl_X11 cI cJ a u) sz)) 0 0 (va_A (cl_X11 cI cJ a u) sz) := by
  intro sz
  refine z_enterM (Qc := fun A => va_Qi Q (zB dC dI cI cJ cS A (fun z => cl_X11 cI cJ a z)) A) (cc := cX11_put0) (maxL := 4) (ret := (some .int)) (by decide) (Nat.le_of_ble_eq_true rfl) ?_
  intro p e s m below meth c ls A X hP hD hS hA hl
  obtain ⟨⟨hx, hb, hml, hown, hts⟩, hr, hlk, hK⟩ := id X
  have hl : lv_has ls 4 [(0, .ref (a 0)), (1, .int x1), (2, .int x2), (3, .int x3)] := hl
  unfold t_X11_put0 at hf
  refine lv_aload_n hx hb dX11_put0_0 rfl (lv_at hl 0 rfl) ?_
  refine lv_iload_n hx hb dX11_put0_1 rfl (lv_at hl 2 rfl) ?_
  refine z_cSi (As := [.int x2]) (rest := [.ref (a 0)]) X (c_X11_sizeOf l dC dI cI cJ cS   x2 _ hf) zc_X11_sizeOf q_ml_X11_91 ⟨rfl, rfl⟩ ⟨Nat.le_of_ble_eq_true rfl, Nat.le_of_ble_eq_true rfl⟩ hP [] rfl hl.1 rfl rfl (Nat.le_of_ble_eq_true rfl) ⟨Nat.zero_le _, Nat.zero_le _⟩ dX11_put0_2 (fun r_1 hf => ?_)
  refine z_cVi (As := [.int r_1]) (rest := []) X (c_X11_hasRoom l dC dI cI cJ cS a u r_1 _ hf) zc_X11_hasRoom q_ml_X11_124 ⟨rfl, rfl⟩ ⟨Nat.le_of_ble_eq_true rfl, Nat.le_of_ble_eq_true rfl⟩ hP [0, 1, 2, 3, 4, 5, 6, 7, 8] rfl 10 rfl rfl hl.1 rfl rfl (Nat.le_of_ble_eq_true rfl) ⟨Nat.zero_le _, Nat.zero_le _⟩ dX11_put0_5 (fun r_2 hf => ?_)
  obtain ⟨hbr_2, hf⟩ := hf
  refine lv_if_ne (tgt := 13) hx hb dX11_put0_8 (by decide) (fun c_3 => ?_) (fun c_3 => ?_)
  · have hf := hf.1 c_3
    refine lv_aload_n hx hb dX11_put0_13 rfl (lv_at hl 0 rfl) ?_
    refine va_get (D := (dC, dI)) (ci := 10) (v := .ref (a 1)) (C := RX11) (T := TX11) (N := 17) hx hb hts inX11 hown hK hP 0 rfl rfl 1 (by decide) (hts _ q_fl_X11_7) (fun _ h9 => h9) rfl dX11_put0_14 ?_
    refine lv_bipush (v := 15) hx hb dX11_put0_17 (by decide) ?_
    refine lv_dup2_11 hx hb dX11_put0_19 rfl rfl ?_
    obtain ⟨hg, hf⟩ := hf
    refine va_iald hx hb hK hP 1 0 rfl rfl hg dX11_put0_20 ?_
    refine lv_iload_n hx hb dX11_put0_21 rfl (lv_at hl 2 rfl) ?_
    refine z_cSi (As := [.int x2]) (rest := [.int (u.2.1 (15 : Int32).toNatClampNeg), .int (15 : Int32), .ref (a 1)]) X (c_X11_sizeOf l dC dI cI cJ cS   x2 _ hf) zc_X11_sizeOf q_ml_X11_91 ⟨rfl, rfl⟩ ⟨Nat.le_of_ble_eq_true rfl, Nat.le_of_ble_eq_true rfl⟩ hP [] rfl hl.1 rfl rfl (Nat.le_of_ble_eq_true rfl) ⟨Nat.zero_le _, Nat.zero_le _⟩ dX11_put0_22 (fun r_4 hf => ?_)
    refine lv_iadd hx hb dX11_put0_25 ?_
    obtain ⟨hg, hf⟩ := hf
    refine z_iast (Wn := fun f_5 => cl_X11 cI cJ a (u.1, f_5, u.2.2)) X hP hD hS 1 0 rfl rfl hg (fun _ => rfl) dX11_put0_26 (fun f_5 H locs ef_5 hP hD hS => ?_)
    have hf := hf f_5 ef_5
    refine lv_aload_n hx hb dX11_put0_27 rfl (lv_at hl 0 rfl) ?_
    refine lv_iload_n hx hb dX11_put0_28 rfl (lv_at hl 1 rfl) ?_
    refine lv_iload_n hx hb dX11_put0_29 rfl (lv_at hl 2 rfl) ?_
    refine lv_iload_n hx hb dX11_put0_30 rfl (lv_at hl 3 rfl) ?_
    refine z_mVv (Wn := (fun u_7 => cl_X11 cI cJ a u_7)) (As := [.int x1, .int x2, .int x3]) (rest := []) (wr := []) X (c_X11_puts l dC dI cI cJ cS a (u.1, f_5, u.2.2) x1 x2 x3 _ hf _) zc_X11_puts q_ml_X11_127 ⟨rfl, rfl⟩ ⟨Nat.le_of_ble_eq_true rfl, Nat.le_of_ble_eq_true rfl⟩ hP hD hS hA [0, 1, 2, 3, 4, 5, 6, 7, 8] [] rfl (by decide) rfl (by decide) (by decide) [0, 1, 2, 3, 4, 5, 6, 7, 8] (by decide) (fun _ => rfl) 10 rfl rfl hl.1 rfl rfl (Nat.le_of_ble_eq_true rfl) ⟨Nat.zero_le _, Nat.zero_le _⟩ dX11_put0_31 (fun u_7 H locs hf hP hD hS => ?_)
    refine lv_iconst (v := 0) hx hb dX11_put0_34 (by decide) ?_
    exact z_retMi (Wf := (fun z => cl_X11 cI cJ a z)) (u := u_7) X hf hP hD hS dX11_put0_35
  · have hf := hf.2 c_3
    refine lv_iconst (v := 1) hx hb dX11_put0_11 (by decide) ?_
    exact z_retMi (Wf := (fun z => cl_X11 cI cJ a z)) (u := u) X hf hP hD hS dX11_put0_12
def s_X11_put0 (u : zModel) (x1 x2 x3 : Int32) (Q : Int32 → zModel → Prop) : Prop := ∃ (v : zState) (ρ β mo lm L S M B k ln sd : Nat), zP ρ β mo lm L S M B v ∧ B + 2 ≤ 400000 ∧ k < 64 ∧ 1 ≤ ln ∧ ln ≤ 40 ∧ sd < 256 ∧ x1 = nI k ∧ x2 = nI ln ∧ x3 = nI sd ∧ mRel v u.2.1 ∧ (uFits v (4 + nI ln) = true → ∀ m' : Nat → Int32, mRel (uPut v k ln sd) m' → Q 0 (u.1, m', u.2.2)) ∧ (uFits v (4 + nI ln) = false → Q 1 u)
theorem st_X11_put0 {u : zModel} {x1 x2 x3 : Int32} {Q : Int32 → zModel → Prop} (h : s_X11_put0 u x1 x2 x3 Q) : t_X11_put0 u x1 x2 x3 Q := by
  obtain ⟨v, ρ, β, mo, lm, L, S, M, B, k, ln, sd, hP, hB, hk, h1, hl, hsd, rfl, rfl, rfl, hr, hQ1, hQ0⟩ := h
  have hm : mOk v u.2.1 := mOk.of hP hr
  have hx : nI ln = lnI ln := (if_neg (by omega)).symm
  unfold t_X11_put0
  rw [hx]
  refine lnI_size hl ⟨v, 4 + ln, hm, by omega, z4n ln, fun hf => ⟨fun _ => ⟨vp_in_nI (n := 15) (by decide) (by decide), lnI_size hl ⟨vp_in_nI (n := 15) (by decide) (by decide), fun f5 e5 => ?_⟩⟩, fun q => absurd q (by decide)⟩, fun hf => ⟨fun q => absurd rfl q, fun _ => hQ0 (by rw [z4n]; exact hf)⟩⟩
  rw [n_c15] at e5
  have hf : uFits v (4 + nI ln) = true := by rw [z4n]; exact hf
  have hP1 : zP ρ β mo lm L S M (B + 1) (uTold v (4 + nI ln)) := by rw [z4n]; exact hP.told (by omega) (by omega)
  exact ⟨uTold v (4 + nI ln), ρ, β, mo, lm, L, S, M, B + 1, k, ln, sd, hP1, by omega, hk, hl, hsd, rfl, rfl, rfl, by rw [uFits_told]; exact hf, by show mRel _ f5; rw [e5]; exact hr.told _, fun m' hm' => hQ1 hf m' hm'⟩
theorem c_X11_put0 (l : Launch) (dC : Nat → ClassId) (dI : Nat → Nat → Nat) (cI cJ cS : ClassId) (a : Nat → Nat) (u : zModel) (x1 : Int32) (x2 : Int32) (x3 : Int32) (Q : Int32 → zModel → Prop) (hf : s_X11_put0 u x1 x2 x3 Q) : ∀ sz : Nat, Met l yX11_put0 (Cond.code yX11_put0 cX11_put0 4 (some .int) :: zT) rm_X11_put0 (zPm dC dI cI cJ cS (cl_X11 cI cJ a u) [.ref (a 0), .int x1, .int x2, .int x3] sz) (va_Qi Q (zB dC dI cI cJ cS (va_A (cl_X11 cI cJ a u) sz) (fun z => cl_X11 cI cJ a z)) (va_A (cl_X11 cI cJ a u) sz)) 0 0 (va_A (cl_X11 cI cJ a u) sz) := L_X11_put0 l dC dI cI cJ cS a u x1 x2 x3 Q (st_X11_put0 hf)

def t_X11_drop0 (u : zModel) (x1 : Int32) (Q : Int32 → zModel → Prop) : Prop := s_X11_hasRoom u (4 : Int32) (fun r_1 : Int32 => ((¬ r_1 = 0 → s_X11_hasValue u x1 (fun r_3 : Int32 => ((¬ r_3 = 0 → vp_in (15 : Int32) 5497 ∧ vp_in (15 : Int32) 5497 ∧ ∀ f_5 : Nat → Int32, f_5 = upd u.2.1 (15 : Int32).toNatClampNeg ((u.2.1 (15 : Int32).toNatClampNeg) + (4 : Int32)) → s_X11_puts (u.1, f_5, u.2.2) x1 (-1 : Int32) (0 : Int32) (fun (u_7 : zModel) => Q (0 : Int32) u_7)) ∧ (r_3 = 0 → Q (2 : Int32) u)))) ∧ (r_1 = 0 → Q (1 : Int32) u)))
theorem zc_X11_drop0 : zCalV RX11 yX11_drop0 cX11_drop0 2 (some .int) 1 := ⟨q_im_X11_drop0, q_se_X11_drop0, q_in_X11, q_cd_X11_drop0, ⟨by decide, by decide, by decide +kernel⟩, rfl⟩
abbrev rm_X11_drop0 : Room := { frames := 6, cells := 0, slots := 0, locals := 133 }
set_option maxHeartbeats 4000000 in
set_option maxRecDepth 100000 in
theorem L_X11_drop0 (l : Launch) (dC : Nat → ClassId) (dI : Nat → Nat → Nat) (cI cJ cS : ClassId) (a : Nat → Nat) (u : zModel) (x1 : Int32) (Q : Int32 → zModel → Prop) (hf : t_X11_drop0 u x1 Q) : ∀ sz : Nat, Met l yX11_drop0 (Cond.code yX11_drop0 cX11_drop0 2 (some .int) :: zT) rm_X11_drop0 (zPm dC dI cI cJ cS (cl_X11 cI cJ a u) [.ref (a 0), .int x1] sz) (va_Qi Q (zB dC dI cI cJ cS (va_A (cl_X11 cI cJ a u) sz) (fun z => cl_X11 cI cJ a z)) (va_A (cl_X11 cI cJ a u) sz)) 0 0 (va_A (cl_X11 cI cJ a u) sz) := by
  intro sz
  refine z_enterM (Qc := fun A => va_Qi Q (zB dC dI cI cJ cS A (fun z => cl_X11 cI cJ a z)) A) (cc := cX11_drop0) (maxL := 2) (ret := (some .int)) (by decide) (Nat.le_of_ble_eq_true rfl) ?_
  intro p e s m below meth c ls A X hP hD hS hA hl
  obtain ⟨⟨hx, hb, hml, hown, hts⟩, hr, hlk, hK⟩ := id X
  have hl : lv_has ls 2 [(0, .ref (a 0)), (1, .int x1)] := hl
  unfold t_X11_drop0 at hf
  refine lv_aload_n hx hb dX11_drop0_0 rfl (lv_at hl 0 rfl) ?_
  refine lv_iconst (v := 4) hx hb dX11_drop0_1 (by decide) ?_
  refine z_cVi (As := [.int (4 : Int32)]) (rest := []) X (c_X11_hasRoom l dC dI cI cJ cS a u (4 : Int32) _ hf) zc_X11_hasRoom q_ml_X11_124 ⟨rfl, rfl⟩ ⟨Nat.le_of_ble_eq_true rfl, Nat.le_of_ble_eq_true rfl⟩ hP [0, 1, 2, 3, 4, 5, 6, 7, 8] rfl 10 rfl rfl hl.1 rfl rfl (Nat.le_of_ble_eq_true rfl) ⟨Nat.zero_le _, Nat.zero_le _⟩ dX11_drop0_2 (fun r_1 hf => ?_)
  obtain ⟨hbr_1, hf⟩ := hf
  refine lv_if_ne (tgt := 10) hx hb dX11_drop0_5 (by decide) (fun c_2 => ?_) (fun c_2 => ?_)
  · have hf := hf.1 c_2
    refine lv_aload_n hx hb dX11_drop0_10 rfl (lv_at hl 0 rfl) ?_
    refine lv_iload_n hx hb dX11_drop0_11 rfl (lv_at hl 1 rfl) ?_
    refine z_cVi (As := [.int x1]) (rest := []) X (c_X11_hasValue l dC dI cI cJ cS a u x1 _ hf) zc_X11_hasValue q_ml_X11_81 ⟨rfl, rfl⟩ ⟨Nat.le_of_ble_eq_true rfl, Nat.le_of_ble_eq_true rfl⟩ hP [0, 1, 2, 3, 4, 5, 6, 7, 8] rfl 10 rfl rfl hl.1 rfl rfl (Nat.le_of_ble_eq_true rfl) ⟨Nat.zero_le _, Nat.zero_le _⟩ dX11_drop0_12 (fun r_3 hf => ?_)
    obtain ⟨hbr_3, hf⟩ := hf
    refine lv_if_ne (tgt := 20) hx hb dX11_drop0_15 (by decide) (fun c_4 => ?_) (fun c_4 => ?_)
    · have hf := hf.1 c_4
      refine lv_aload_n hx hb dX11_drop0_20 rfl (lv_at hl 0 rfl) ?_
      refine va_get (D := (dC, dI)) (ci := 10) (v := .ref (a 1)) (C := RX11) (T := TX11) (N := 17) hx hb hts inX11 hown hK hP 0 rfl rfl 1 (by decide) (hts _ q_fl_X11_7) (fun _ h9 => h9) rfl dX11_drop0_21 ?_
      refine lv_bipush (v := 15) hx hb dX11_drop0_24 (by decide) ?_
      refine lv_dup2_11 hx hb dX11_drop0_26 rfl rfl ?_
      obtain ⟨hg, hf⟩ := hf
      refine va_iald hx hb hK hP 1 0 rfl rfl hg dX11_drop0_27 ?_
      refine lv_iconst (v := 4) hx hb dX11_drop0_28 (by decide) ?_
      refine lv_iadd hx hb dX11_drop0_29 ?_
      obtain ⟨hg, hf⟩ := hf
      refine z_iast (Wn := fun f_5 => cl_X11 cI cJ a (u.1, f_5, u.2.2)) X hP hD hS 1 0 rfl rfl hg (fun _ => rfl) dX11_drop0_30 (fun f_5 H locs ef_5 hP hD hS => ?_)
      have hf := hf f_5 ef_5
      refine lv_aload_n hx hb dX11_drop0_31 rfl (lv_at hl 0 rfl) ?_
      refine lv_iload_n hx hb dX11_drop0_32 rfl (lv_at hl 1 rfl) ?_
      refine lv_iconst (v := (-1)) hx hb dX11_drop0_33 (by decide) ?_
      refine lv_iconst (v := 0) hx hb dX11_drop0_34 (by decide) ?_
      refine z_mVv (Wn := (fun u_7 => cl_X11 cI cJ a u_7)) (As := [.int x1, .int (-1 : Int32), .int (0 : Int32)]) (rest := []) (wr := []) X (c_X11_puts l dC dI cI cJ cS a (u.1, f_5, u.2.2) x1 (-1 : Int32) (0 : Int32) _ hf _) zc_X11_puts q_ml_X11_127 ⟨rfl, rfl⟩ ⟨Nat.le_of_ble_eq_true rfl, Nat.le_of_ble_eq_true rfl⟩ hP hD hS hA [0, 1, 2, 3, 4, 5, 6, 7, 8] [] rfl (by decide) rfl (by decide) (by decide) [0, 1, 2, 3, 4, 5, 6, 7, 8] (by decide) (fun _ => rfl) 10 rfl rfl hl.1 rfl rfl (Nat.le_of_ble_eq_true rfl) ⟨Nat.zero_le _, Nat.zero_le _⟩ dX11_drop0_35 (fun u_7 H locs hf hP hD hS => ?_)
      refine lv_iconst (v := 0) hx hb dX11_drop0_38 (by decide) ?_
      exact z_retMi (Wf := (fun z => cl_X11 cI cJ a z)) (u := u_7) X hf hP hD hS dX11_drop0_39
    · have hf := hf.2 c_4
      refine lv_iconst (v := 2) hx hb dX11_drop0_18 (by decide) ?_
      exact z_retMi (Wf := (fun z => cl_X11 cI cJ a z)) (u := u) X hf hP hD hS dX11_drop0_19
  · have hf := hf.2 c_2
    refine lv_iconst (v := 1) hx hb dX11_drop0_8 (by decide) ?_
    exact z_retMi (Wf := (fun z => cl_X11 cI cJ a z)) (u := u) X hf hP hD hS dX11_drop0_9
def s_X11_drop0 (u : zModel) (x1 : Int32) (Q : Int32 → zModel → Prop) : Prop := ∃ (v : zState) (ρ β mo lm L S M B k : Nat), zP ρ β mo lm L S M B v ∧ B + 2 ≤ 400000 ∧ k < 64 ∧ x1 = nI k ∧ mRel v u.2.1 ∧ (uFits v 4 = true → uVal v k = true → ∀ m' : Nat → Int32, mRel (uDrop v k) m' → Q 0 (u.1, m', u.2.2)) ∧ (uFits v 4 = true → uVal v k = false → Q 2 u) ∧ (uFits v 4 = false → Q 1 u)
theorem st_X11_drop0 {u : zModel} {x1 : Int32} {Q : Int32 → zModel → Prop} (h : s_X11_drop0 u x1 Q) : t_X11_drop0 u x1 Q := by
  obtain ⟨v, ρ, β, mo, lm, L, S, M, B, k, hP, hB, hk, rfl, hr, hQ0, hQ2, hQ1⟩ := h
  have hm : mOk v u.2.1 := mOk.of hP hr
  refine ⟨v, 4, hm, by omega, rfl, fun hf => ⟨fun _ => ⟨v, k, hm, hk, rfl, fun hv => ⟨fun _ => ⟨vp_in_nI (n := 15) (by decide) (by decide), vp_in_nI (n := 15) (by decide) (by decide), fun f5 e5 => ?_⟩, fun q => absurd q (by decide)⟩, fun hv => ⟨fun q => absurd rfl q, fun _ => hQ2 hf hv⟩⟩, fun q => absurd q (by decide)⟩, fun hf => ⟨fun q => absurd rfl q, fun _ => hQ1 hf⟩⟩
  rw [n_c15] at e5
  have hf : uFits v 4 = true := hf
  have hP1 : zP ρ β mo lm L S M (B + 1) (uTold v 4) := hP.told (z := 4) (by omega) (by omega)
  exact ⟨uTold v 4, ρ, β, mo, lm, L, S, M, B + 1, k, 0, 0, hP1, by omega, hk, by omega, by omega, rfl, rfl, rfl, by rw [uFits_told]; exact hf, by show mRel _ f5; rw [e5]; exact hr.told _, fun m' hm' => hQ0 hf hv m' hm'⟩
theorem c_X11_drop0 (l : Launch) (dC : Nat → ClassId) (dI : Nat → Nat → Nat) (cI cJ cS : ClassId) (a : Nat → Nat) (u : zModel) (x1 : Int32) (Q : Int32 → zModel → Prop) (hf : s_X11_drop0 u x1 Q) : ∀ sz : Nat, Met l yX11_drop0 (Cond.code yX11_drop0 cX11_drop0 2 (some .int) :: zT) rm_X11_drop0 (zPm dC dI cI cJ cS (cl_X11 cI cJ a u) [.ref (a 0), .int x1] sz) (va_Qi Q (zB dC dI cI cJ cS (va_A (cl_X11 cI cJ a u) sz) (fun z => cl_X11 cI cJ a z)) (va_A (cl_X11 cI cJ a u) sz)) 0 0 (va_A (cl_X11 cI cJ a u) sz) := L_X11_drop0 l dC dI cI cJ cS a u x1 Q (st_X11_drop0 hf)

def t_X11_quit0 (u : zModel) (Q : Int32 → zModel → Prop) : Prop := vp_in (8 : Int32) 5497 ∧ ((¬ (u.2.1 (8 : Int32).toNatClampNeg) = (-1 : Int32) → vp_in (8 : Int32) 5497 ∧ ∀ f_2 : Nat → Int32, f_2 = upd u.2.1 (8 : Int32).toNatClampNeg (-1 : Int32) → vp_in (9 : Int32) 5497 ∧ ∀ f_3 : Nat → Int32, f_3 = upd f_2 (9 : Int32).toNatClampNeg (0 : Int32) → vp_in (10 : Int32) 5497 ∧ ∀ f_4 : Nat → Int32, f_4 = upd f_3 (10 : Int32).toNatClampNeg (0 : Int32) → Q (0 : Int32) (u.1, f_4, u.2.2)) ∧ ((u.2.1 (8 : Int32).toNatClampNeg) = (-1 : Int32) → Q (5 : Int32) u))
theorem zc_X11_quit0 : zCalV RX11 yX11_quit0 cX11_quit0 1 (some .int) 0 := ⟨q_im_X11_quit0, q_se_X11_quit0, q_in_X11, q_cd_X11_quit0, ⟨by decide, by decide, by decide +kernel⟩, rfl⟩
abbrev rm_X11_quit0 : Room := { frames := 0, cells := 0, slots := 0, locals := 0 }
set_option maxHeartbeats 4000000 in
set_option maxRecDepth 100000 in
theorem L_X11_quit0 (l : Launch) (dC : Nat → ClassId) (dI : Nat → Nat → Nat) (cI cJ cS : ClassId) (a : Nat → Nat) (u : zModel) (Q : Int32 → zModel → Prop) (hf : t_X11_quit0 u Q) : ∀ sz : Nat, Met l yX11_quit0 (Cond.code yX11_quit0 cX11_quit0 1 (some .int) :: zT) rm_X11_quit0 (zPm dC dI cI cJ cS (cl_X11 cI cJ a u) [.ref (a 0)] sz) (va_Qi Q (zB dC dI cI cJ cS (va_A (cl_X11 cI cJ a u) sz) (fun z => cl_X11 cI cJ a z)) (va_A (cl_X11 cI cJ a u) sz)) 0 0 (va_A (cl_X11 cI cJ a u) sz) := by
  intro sz
  refine z_enterM (Qc := fun A => va_Qi Q (zB dC dI cI cJ cS A (fun z => cl_X11 cI cJ a z)) A) (cc := cX11_quit0) (maxL := 1) (ret := (some .int)) (by decide) (Nat.le_of_ble_eq_true rfl) ?_
  intro p e s m below meth c ls A X hP hD hS hA hl
  obtain ⟨⟨hx, hb, hml, hown, hts⟩, hr, hlk, hK⟩ := id X
  have hl : lv_has ls 1 [(0, .ref (a 0))] := hl
  unfold t_X11_quit0 at hf
  refine lv_aload_n hx hb dX11_quit0_0 rfl (lv_at hl 0 rfl) ?_
  refine va_get (D := (dC, dI)) (ci := 10) (v := .ref (a 1)) (C := RX11) (T := TX11) (N := 17) hx hb hts inX11 hown hK hP 0 rfl rfl 1 (by decide) (hts _ q_fl_X11_7) (fun _ h9 => h9) rfl dX11_quit0_1 ?_
  refine lv_bipush (v := 8) hx hb dX11_quit0_4 (by decide) ?_
  obtain ⟨hg, hf⟩ := hf
  refine va_iald hx hb hK hP 1 0 rfl rfl hg dX11_quit0_6 ?_
  refine lv_iconst (v := (-1)) hx hb dX11_quit0_7 (by decide) ?_
  refine lv_icmp_ne (tgt := 13) hx hb dX11_quit0_8 (by decide) (fun c_1 => ?_) (fun c_1 => ?_)
  · have hf := hf.1 c_1
    refine lv_aload_n hx hb dX11_quit0_13 rfl (lv_at hl 0 rfl) ?_
    refine va_get (D := (dC, dI)) (ci := 10) (v := .ref (a 1)) (C := RX11) (T := TX11) (N := 17) hx hb hts inX11 hown hK hP 0 rfl rfl 1 (by decide) (hts _ q_fl_X11_7) (fun _ h9 => h9) rfl dX11_quit0_14 ?_
    refine lv_bipush (v := 8) hx hb dX11_quit0_17 (by decide) ?_
    refine lv_iconst (v := (-1)) hx hb dX11_quit0_19 (by decide) ?_
    obtain ⟨hg, hf⟩ := hf
    refine z_iast (Wn := fun f_2 => cl_X11 cI cJ a (u.1, f_2, u.2.2)) X hP hD hS 1 0 rfl rfl hg (fun _ => rfl) dX11_quit0_20 (fun f_2 H locs ef_2 hP hD hS => ?_)
    have hf := hf f_2 ef_2
    refine lv_aload_n hx hb dX11_quit0_21 rfl (lv_at hl 0 rfl) ?_
    refine va_get (D := (dC, dI)) (ci := 10) (v := .ref (a 1)) (C := RX11) (T := TX11) (N := 17) hx hb hts inX11 hown hK hP 0 rfl rfl 1 (by decide) (hts _ q_fl_X11_7) (fun _ h9 => h9) rfl dX11_quit0_22 ?_
    refine lv_bipush (v := 9) hx hb dX11_quit0_25 (by decide) ?_
    refine lv_iconst (v := 0) hx hb dX11_quit0_27 (by decide) ?_
    obtain ⟨hg, hf⟩ := hf
    refine z_iast (Wn := fun f_3 => cl_X11 cI cJ a (u.1, f_3, u.2.2)) X hP hD hS 1 0 rfl rfl hg (fun _ => rfl) dX11_quit0_28 (fun f_3 H locs ef_3 hP hD hS => ?_)
    have hf := hf f_3 ef_3
    refine lv_aload_n hx hb dX11_quit0_29 rfl (lv_at hl 0 rfl) ?_
    refine va_get (D := (dC, dI)) (ci := 10) (v := .ref (a 1)) (C := RX11) (T := TX11) (N := 17) hx hb hts inX11 hown hK hP 0 rfl rfl 1 (by decide) (hts _ q_fl_X11_7) (fun _ h9 => h9) rfl dX11_quit0_30 ?_
    refine lv_bipush (v := 10) hx hb dX11_quit0_33 (by decide) ?_
    refine lv_iconst (v := 0) hx hb dX11_quit0_35 (by decide) ?_
    obtain ⟨hg, hf⟩ := hf
    refine z_iast (Wn := fun f_4 => cl_X11 cI cJ a (u.1, f_4, u.2.2)) X hP hD hS 1 0 rfl rfl hg (fun _ => rfl) dX11_quit0_36 (fun f_4 H locs ef_4 hP hD hS => ?_)
    have hf := hf f_4 ef_4
    refine lv_iconst (v := 0) hx hb dX11_quit0_37 (by decide) ?_
    exact z_retMi (Wf := (fun z => cl_X11 cI cJ a z)) (u := (u.1, f_4, u.2.2)) X hf hP hD hS dX11_quit0_38
  · have hf := hf.2 c_1
    refine lv_iconst (v := 5) hx hb dX11_quit0_11 (by decide) ?_
    exact z_retMi (Wf := (fun z => cl_X11 cI cJ a z)) (u := u) X hf hP hD hS dX11_quit0_12
/-- QUIT -/
def uQuit (v : zState) : zState := (v.1, v.2.1, v.2.2.1, v.2.2.2.1, (v.2.2.2.2.1.1, -1, 0, 0), v.2.2.2.2.2)
theorem zPr.quit {R ρ β mo lm L S M B : Nat} {v : zState} (h : zPr R ρ β mo lm L S M B v) : zPr R ρ β mo lm L S M B (uQuit v) := by
  obtain ⟨h1, h2, h3, h4, h5, hg, ht, hR, hL, hC, hD, hT⟩ := h
  exact ⟨h1, h2, h3, h4, h5, hg, ht, hR, hL, ⟨⟨rfl, by show (0 : Int32).toNatClampNeg ≤ 50; decide⟩, ⟨rfl, Nat.le_refl _⟩, Or.inl rfl⟩, hD, hT⟩
theorem mRel.quit {v : zState} {m m' : Nat → Int32} (h : mRel v m) (e8 : m' 8 = -1) (e9 : m' 9 = 0) (e10 : m' 10 = 0) (hj : ∀ j, ¬ j = 8 → ¬ j = 9 → ¬ j = 10 → m' j = m j) : mRel (uQuit v) m' := by
  refine h.tops (fun j q => hj j (by omega) (by omega) (by omega)) (lt16 ?_ ?_ ?_ ?_ ?_ ?_ ?_ ?_ ?_ ?_ ?_ ?_ ?_ ?_ ?_ ?_) rfl rfl rfl (fun _ q => absurd rfl q) rfl
  all_goals try exact (hj _ (by decide) (by decide) (by decide)).trans (h.1 _ (by decide))
  · exact e8
  · exact e9
  · exact e10
def s_X11_quit0 (u : zModel) (Q : Int32 → zModel → Prop) : Prop := ∃ v : zState, mRel v u.2.1 ∧ (¬ v.2.2.2.2.1.2.1 = -1 → ∀ m' : Nat → Int32, mRel (uQuit v) m' → Q 0 (u.1, m', u.2.2)) ∧ (v.2.2.2.2.1.2.1 = -1 → Q 5 u)
theorem st_X11_quit0 {u : zModel} {Q : Int32 → zModel → Prop} (h : s_X11_quit0 u Q) : t_X11_quit0 u Q := by
  obtain ⟨v, hr, h1, h0⟩ := h
  have m8 : u.2.1 8 = v.2.2.2.2.1.2.1 := hr.1 8 (by decide)
  unfold t_X11_quit0
  rw [n_c8, n_c9, n_c10, m8]
  refine ⟨vp_in_nI (n := 8) (by decide) (by decide), fun c => ⟨vp_in_nI (n := 8) (by decide) (by decide), fun f2 e2 => ⟨vp_in_nI (n := 9) (by decide) (by decide), fun f3 e3 => ⟨vp_in_nI (n := 10) (by decide) (by decide), fun f4 e4 => h1 c f4 (hr.quit ?_ ?_ ?_ ?_)⟩⟩⟩, fun c => h0 c⟩
  · rw [e4, up_ne (by decide), e3, up_ne (by decide), e2, up_eq rfl]
  · rw [e4, up_ne (by decide), e3, up_eq rfl]
  · rw [e4, up_eq rfl]
  · intro j a b c
    rw [e4, up_ne c, e3, up_ne b, e2, up_ne a]
theorem c_X11_quit0 (l : Launch) (dC : Nat → ClassId) (dI : Nat → Nat → Nat) (cI cJ cS : ClassId) (a : Nat → Nat) (u : zModel) (Q : Int32 → zModel → Prop) (hf : s_X11_quit0 u Q) : ∀ sz : Nat, Met l yX11_quit0 (Cond.code yX11_quit0 cX11_quit0 1 (some .int) :: zT) rm_X11_quit0 (zPm dC dI cI cJ cS (cl_X11 cI cJ a u) [.ref (a 0)] sz) (va_Qi Q (zB dC dI cI cJ cS (va_A (cl_X11 cI cJ a u) sz) (fun z => cl_X11 cI cJ a z)) (va_A (cl_X11 cI cJ a u) sz)) 0 0 (va_A (cl_X11 cI cJ a u) sz) := L_X11_quit0 l dC dI cI cJ cS a u Q (st_X11_quit0 hf)

def t_X11_ends (u : zModel) (Q : zModel → Prop) : Prop := vp_in (8 : Int32) 5497 ∧ ∀ x_1 : Int32, x_1 = (u.2.1 (8 : Int32).toNatClampNeg) → s_X11_flushes u (fun (u_3 : zModel) => vp_in (((66 : Int32) + ((3 : Int32) * x_1)) + (0 : Int32)) 5497 ∧ ∀ f_4 : Nat → Int32, f_4 = upd u_3.2.1 (((66 : Int32) + ((3 : Int32) * x_1)) + (0 : Int32)).toNatClampNeg (0 : Int32) → vp_in (((66 : Int32) + ((3 : Int32) * x_1)) + (1 : Int32)) 5497 ∧ ∀ f_5 : Nat → Int32, f_5 = upd f_4 (((66 : Int32) + ((3 : Int32) * x_1)) + (1 : Int32)).toNatClampNeg (0 : Int32) → vp_in (((66 : Int32) + ((3 : Int32) * x_1)) + (2 : Int32)) 5497 ∧ ∀ f_6 : Nat → Int32, f_6 = upd f_5 (((66 : Int32) + ((3 : Int32) * x_1)) + (2 : Int32)).toNatClampNeg (0 : Int32) → s_X11_logs (u_3.1, f_6, u_3.2.2) (2 : Int32) x_1 (fun (u_8 : zModel) => vp_in (8 : Int32) 5497 ∧ ∀ f_9 : Nat → Int32, f_9 = upd u_8.2.1 (8 : Int32).toNatClampNeg (-1 : Int32) → vp_in (9 : Int32) 5497 ∧ ∀ f_10 : Nat → Int32, f_10 = upd f_9 (9 : Int32).toNatClampNeg (0 : Int32) → vp_in (10 : Int32) 5497 ∧ ∀ f_11 : Nat → Int32, f_11 = upd f_10 (10 : Int32).toNatClampNeg (0 : Int32) → Q (u_8.1, f_11, u_8.2.2)))
theorem zc_X11_ends : zCalV RX11 yX11_ends cX11_ends 2 none 0 := ⟨q_im_X11_ends, q_se_X11_ends, q_in_X11, q_cd_X11_ends, ⟨by decide, by decide, by decide +kernel⟩, rfl⟩
abbrev rm_X11_ends : Room := { frames := 5, cells := 0, slots := 0, locals := 110 }
set_option maxHeartbeats 4000000 in
set_option maxRecDepth 100000 in
theorem L_X11_ends (l : Launch) (dC : Nat → ClassId) (dI : Nat → Nat → Nat) (cI cJ cS : ClassId) (a : Nat → Nat) (u : zModel) (Q : zModel → Prop) (hf : t_X11_ends u Q) : ∀ sz : Nat, Met l yX11_ends (Cond.code yX11_ends cX11_ends 2 none :: zT) rm_X11_ends (zPm dC dI cI cJ cS (cl_X11 cI cJ a u) [.ref (a 0)] sz) (va_Qv Q (zB dC dI cI cJ cS (va_A (cl_X11 cI cJ a u) sz) (fun z => cl_X11 cI cJ a z)) (va_A (cl_X11 cI cJ a u) sz)) 0 0 (va_A (cl_X11 cI cJ a u) sz) := by
  intro sz
  refine z_enterM (Qc := fun A => va_Qv Q (zB dC dI cI cJ cS A (fun z => cl_X11 cI cJ a z)) A) (cc := cX11_ends) (maxL := 2) (ret := none) (by decide) (Nat.le_of_ble_eq_true rfl) ?_
  intro p e s m below meth c ls A X hP hD hS hA hl
  obtain ⟨⟨hx, hb, hml, hown, hts⟩, hr, hlk, hK⟩ := id X
  have hl : lv_has ls 2 [(0, .ref (a 0))] := hl
  unfold t_X11_ends at hf
  refine lv_aload_n hx hb dX11_ends_0 rfl (lv_at hl 0 rfl) ?_
  refine va_get (D := (dC, dI)) (ci := 10) (v := .ref (a 1)) (C := RX11) (T := TX11) (N := 17) hx hb hts inX11 hown hK hP 0 rfl rfl 1 (by decide) (hts _ q_fl_X11_7) (fun _ h9 => h9) rfl dX11_ends_1 ?_
  refine lv_bipush (v := 8) hx hb dX11_ends_4 (by decide) ?_
  obtain ⟨hg, hf⟩ := hf
  refine va_iald hx hb hK hP 1 0 rfl rfl hg dX11_ends_6 ?_
  refine lv_topi (fun x_1 ex_1 => ?_)
  have hf := hf x_1 ex_1
  refine lv_istore_n (lv' := [(1, .int x_1), (0, .ref (a 0))]) hx hb dX11_ends_7 rfl hl (by decide) rfl (fun ls hl => ?_)
  refine lv_aload_n hx hb dX11_ends_8 rfl (lv_at hl 1 rfl) ?_
  refine z_mVv (Wn := (fun u_3 => cl_X11 cI cJ a u_3)) (As := []) (rest := []) (wr := []) X (c_X11_flushes l dC dI cI cJ cS a u  _ hf _) zc_X11_flushes q_ml_X11_118 ⟨rfl, rfl⟩ ⟨Nat.le_of_ble_eq_true rfl, Nat.le_of_ble_eq_true rfl⟩ hP hD hS hA [0, 1, 2, 3, 4, 5, 6, 7, 8] [] rfl (by decide) rfl (by decide) (by decide) [0, 1, 2, 3, 4, 5, 6, 7, 8] (by decide) (fun _ => rfl) 10 rfl rfl hl.1 rfl rfl (Nat.le_of_ble_eq_true rfl) ⟨Nat.zero_le _, Nat.zero_le _⟩ dX11_ends_9 (fun u_3 H locs hf hP hD hS => ?_)
  refine lv_aload_n hx hb dX11_ends_12 rfl (lv_at hl 1 rfl) ?_
  refine va_get (D := (dC, dI)) (ci := 10) (v := .ref (a 1)) (C := RX11) (T := TX11) (N := 17) hx hb hts inX11 hown hK hP 0 rfl rfl 1 (by decide) (hts _ q_fl_X11_7) (fun _ h9 => h9) rfl dX11_ends_13 ?_
  refine lv_bipush (v := 66) hx hb dX11_ends_16 (by decide) ?_
  refine lv_iconst (v := 3) hx hb dX11_ends_18 (by decide) ?_
  refine lv_iload_n hx hb dX11_ends_19 rfl (lv_at hl 0 rfl) ?_
  refine lv_imul hx hb dX11_ends_20 ?_
  refine lv_iadd hx hb dX11_ends_21 ?_
  refine lv_iconst (v := 0) hx hb dX11_ends_22 (by decide) ?_
  refine lv_iadd hx hb dX11_ends_23 ?_
  refine lv_iconst (v := 0) hx hb dX11_ends_24 (by decide) ?_
  obtain ⟨hg, hf⟩ := hf
  refine z_iast (Wn := fun f_4 => cl_X11 cI cJ a (u_3.1, f_4, u_3.2.2)) X hP hD hS 1 0 rfl rfl hg (fun _ => rfl) dX11_ends_25 (fun f_4 H locs ef_4 hP hD hS => ?_)
  have hf := hf f_4 ef_4
  refine lv_aload_n hx hb dX11_ends_26 rfl (lv_at hl 1 rfl) ?_
  refine va_get (D := (dC, dI)) (ci := 10) (v := .ref (a 1)) (C := RX11) (T := TX11) (N := 17) hx hb hts inX11 hown hK hP 0 rfl rfl 1 (by decide) (hts _ q_fl_X11_7) (fun _ h9 => h9) rfl dX11_ends_27 ?_
  refine lv_bipush (v := 66) hx hb dX11_ends_30 (by decide) ?_
  refine lv_iconst (v := 3) hx hb dX11_ends_32 (by decide) ?_
  refine lv_iload_n hx hb dX11_ends_33 rfl (lv_at hl 0 rfl) ?_
  refine lv_imul hx hb dX11_ends_34 ?_
  refine lv_iadd hx hb dX11_ends_35 ?_
  refine lv_iconst (v := 1) hx hb dX11_ends_36 (by decide) ?_
  refine lv_iadd hx hb dX11_ends_37 ?_
  refine lv_iconst (v := 0) hx hb dX11_ends_38 (by decide) ?_
  obtain ⟨hg, hf⟩ := hf
  refine z_iast (Wn := fun f_5 => cl_X11 cI cJ a (u_3.1, f_5, u_3.2.2)) X hP hD hS 1 0 rfl rfl hg (fun _ => rfl) dX11_ends_39 (fun f_5 H locs ef_5 hP hD hS => ?_)
  have hf := hf f_5 ef_5
  refine lv_aload_n hx hb dX11_ends_40 rfl (lv_at hl 1 rfl) ?_
  refine va_get (D := (dC, dI)) (ci := 10) (v := .ref (a 1)) (C := RX11) (T := TX11) (N := 17) hx hb hts inX11 hown hK hP 0 rfl rfl 1 (by decide) (hts _ q_fl_X11_7) (fun _ h9 => h9) rfl dX11_ends_41 ?_
  refine lv_bipush (v := 66) hx hb dX11_ends_44 (by decide) ?_
  refine lv_iconst (v := 3) hx hb dX11_ends_46 (by decide) ?_
  refine lv_iload_n hx hb dX11_ends_47 rfl (lv_at hl 0 rfl) ?_
  refine lv_imul hx hb dX11_ends_48 ?_
  refine lv_iadd hx hb dX11_ends_49 ?_
  refine lv_iconst (v := 2) hx hb dX11_ends_50 (by decide) ?_
  refine lv_iadd hx hb dX11_ends_51 ?_
  refine lv_iconst (v := 0) hx hb dX11_ends_52 (by decide) ?_
  obtain ⟨hg, hf⟩ := hf
  refine z_iast (Wn := fun f_6 => cl_X11 cI cJ a (u_3.1, f_6, u_3.2.2)) X hP hD hS 1 0 rfl rfl hg (fun _ => rfl) dX11_ends_53 (fun f_6 H locs ef_6 hP hD hS => ?_)
  have hf := hf f_6 ef_6
  refine lv_aload_n hx hb dX11_ends_54 rfl (lv_at hl 1 rfl) ?_
  refine lv_iconst (v := 2) hx hb dX11_ends_55 (by decide) ?_
  refine lv_iload_n hx hb dX11_ends_56 rfl (lv_at hl 0 rfl) ?_
  refine z_mVv (Wn := (fun u_8 => cl_X11 cI cJ a u_8)) (As := [.int (2 : Int32), .int x_1]) (rest := []) (wr := []) X (c_X11_logs l dC dI cI cJ cS a (u_3.1, f_6, u_3.2.2) (2 : Int32) x_1 _ hf _) zc_X11_logs q_ml_X11_94 ⟨rfl, rfl⟩ ⟨Nat.le_of_ble_eq_true rfl, Nat.le_of_ble_eq_true rfl⟩ hP hD hS hA [0, 1, 2, 3, 4, 5, 6, 7, 8] [] rfl (by decide) rfl (by decide) (by decide) [0, 1, 2, 3, 4, 5, 6, 7, 8] (by decide) (fun _ => rfl) 10 rfl rfl hl.1 rfl rfl (Nat.le_of_ble_eq_true rfl) ⟨Nat.zero_le _, Nat.zero_le _⟩ dX11_ends_57 (fun u_8 H locs hf hP hD hS => ?_)
  refine lv_aload_n hx hb dX11_ends_60 rfl (lv_at hl 1 rfl) ?_
  refine va_get (D := (dC, dI)) (ci := 10) (v := .ref (a 1)) (C := RX11) (T := TX11) (N := 17) hx hb hts inX11 hown hK hP 0 rfl rfl 1 (by decide) (hts _ q_fl_X11_7) (fun _ h9 => h9) rfl dX11_ends_61 ?_
  refine lv_bipush (v := 8) hx hb dX11_ends_64 (by decide) ?_
  refine lv_iconst (v := (-1)) hx hb dX11_ends_66 (by decide) ?_
  obtain ⟨hg, hf⟩ := hf
  refine z_iast (Wn := fun f_9 => cl_X11 cI cJ a (u_8.1, f_9, u_8.2.2)) X hP hD hS 1 0 rfl rfl hg (fun _ => rfl) dX11_ends_67 (fun f_9 H locs ef_9 hP hD hS => ?_)
  have hf := hf f_9 ef_9
  refine lv_aload_n hx hb dX11_ends_68 rfl (lv_at hl 1 rfl) ?_
  refine va_get (D := (dC, dI)) (ci := 10) (v := .ref (a 1)) (C := RX11) (T := TX11) (N := 17) hx hb hts inX11 hown hK hP 0 rfl rfl 1 (by decide) (hts _ q_fl_X11_7) (fun _ h9 => h9) rfl dX11_ends_69 ?_
  refine lv_bipush (v := 9) hx hb dX11_ends_72 (by decide) ?_
  refine lv_iconst (v := 0) hx hb dX11_ends_74 (by decide) ?_
  obtain ⟨hg, hf⟩ := hf
  refine z_iast (Wn := fun f_10 => cl_X11 cI cJ a (u_8.1, f_10, u_8.2.2)) X hP hD hS 1 0 rfl rfl hg (fun _ => rfl) dX11_ends_75 (fun f_10 H locs ef_10 hP hD hS => ?_)
  have hf := hf f_10 ef_10
  refine lv_aload_n hx hb dX11_ends_76 rfl (lv_at hl 1 rfl) ?_
  refine va_get (D := (dC, dI)) (ci := 10) (v := .ref (a 1)) (C := RX11) (T := TX11) (N := 17) hx hb hts inX11 hown hK hP 0 rfl rfl 1 (by decide) (hts _ q_fl_X11_7) (fun _ h9 => h9) rfl dX11_ends_77 ?_
  refine lv_bipush (v := 10) hx hb dX11_ends_80 (by decide) ?_
  refine lv_iconst (v := 0) hx hb dX11_ends_82 (by decide) ?_
  obtain ⟨hg, hf⟩ := hf
  refine z_iast (Wn := fun f_11 => cl_X11 cI cJ a (u_8.1, f_11, u_8.2.2)) X hP hD hS 1 0 rfl rfl hg (fun _ => rfl) dX11_ends_83 (fun f_11 H locs ef_11 hP hD hS => ?_)
  have hf := hf f_11 ef_11
  exact z_retMv (Wf := (fun z => cl_X11 cI cJ a z)) (u := (u_8.1, f_11, u_8.2.2)) X hf hP hD hS dX11_ends_84
/-- a segment given free, the collection off, behind a FLUSH -/
def uRelS (w : zState) (s : Nat) : zState := (w.1, w.2.1, zRel w.2.2.1 s, w.2.2.2.1, (w.2.2.2.2.1.1, -1, 0, 0), zTell w.2.2.2.2.2.1 (dN w.2.2.2.2.2.1) 2 (nI s) w.2.2.2.2.2.2.1, w.2.2.2.2.2.2.1, w.2.2.2.2.2.2.2.1, w.2.2.2.2.2.2.2.2)
theorem uEndC_eq (v : zState) (s : Nat) : uEndC v s = uRelS (uFlush v) s := rfl
theorem mRel.relS {w : zState} {s : Nat} {m m' : Nat → Int32} (h : mRel w m) (hs : s < 12) (h50 : ∀ q, q < 12 → gN w.2.2.1 q ≤ 50) (h6 : tR w.2.2.2.1 < 6) (e8 : m' 8 = -1) (e9 : m' 9 = 0) (e10 : m' 10 = 0) (es : ∀ z, z < 3 → m' (66 + 3 * s + z) = 0) (hj : ∀ j, j < 5406 → ¬ j = 8 → ¬ j = 9 → ¬ j = 10 → ¬ (66 + 3 * s ≤ j ∧ j < 66 + 3 * s + 3) → m' j = m j) (hl : mLg (zTell w.2.2.2.2.2.1 (dN w.2.2.2.2.2.1) 2 (nI s) w.2.2.2.2.2.2.1) m') : mRel (uRelS w s) m' := by
  obtain ⟨rT, rS, rR, rE, rN', rL⟩ := mRel_iff.mp h
  refine mRel_iff.mpr ⟨lt16 ?_ ?_ ?_ ?_ ?_ ?_ ?_ ?_ ?_ ?_ ?_ ?_ ?_ ?_ ?_ ?_, ?_, ?_, ?_, fun q => absurd rfl q, hl⟩
  all_goals try exact (hj _ (by omega) (by decide) (by decide) (by decide) (by omega)).trans (rT _ (by decide))
  · exact e8
  · exact e9
  · exact e10
  · intro q z hq hz
    show m' _ = segF (zRel w.2.2.1 s) q z
    by_cases hqs : q = s
    · subst hqs
      rw [es z hz]
      match z, hz with
      | 0, _ => exact (up_eq rfl).symm
      | 1, _ => exact (up_eq rfl).symm
      | 2, _ => exact (up_eq rfl).symm
      | n + 3, h => exact absurd h (by omega)
    · rw [hj _ (by omega) (by omega) (by omega) (by omega) (by omega), rS q z hq hz]
      match z, hz with
      | 0, _ => exact (up_ne hqs).symm
      | 1, _ => exact (up_ne hqs).symm
      | 2, _ => exact (up_ne hqs).symm
      | n + 3, h => exact absurd h (by omega)
  · intro q k z hq hk hz
    have hk : k < gN (zRel w.2.2.1 s) q := hk
    rw [gN_rel] at hk
    by_cases hqs : q = s
    · rw [if_pos hqs] at hk; omega
    · rw [if_neg hqs] at hk
      have := h50 q hq
      rw [hj _ (by omega) (by omega) (by omega) (by omega) (by omega)]
      exact rR q k z hq hk hz
  · exact rE.cg h6 (fun j a b => hj j (by omega) (by omega) (by omega) (by omega) (by omega))
def s_X11_ends (u : zModel) (Q : zModel → Prop) : Prop := ∃ (v : zState) (ρ β mo lm L S M B s : Nat), zP ρ β mo lm L S M B v ∧ s < 12 ∧ v.2.2.2.2.1.2.1 = nI s ∧ mRel v u.2.1 ∧ ∀ m' : Nat → Int32, mRel (uEndC v s) m' → Q (u.1, m', u.2.2)
theorem st_X11_ends {u : zModel} {Q : zModel → Prop} (h : s_X11_ends u Q) : t_X11_ends u Q := by
  obtain ⟨v, ρ, β, mo, lm, L, S, M, B, s, hP, hs, hseg, hr, hQ⟩ := h
  have m8 : u.2.1 8 = nI s := (hr.1 8 (by decide)).trans hseg
  refine ⟨vp_in_nI (n := 8) (by decide) (by decide), fun x1 e1 => ?_⟩
  rw [n_c8, m8] at e1
  subst e1
  refine ⟨v, ρ, β, mo, lm, L, S, M, B, hP, hr, fun m1 hm1 => ?_⟩
  have hF := zPr.flush hP
  rw [uEndC_eq] at hQ
  generalize uFlush v = w at hQ hm1 hF
  obtain ⟨h1, h2, h3, h4, h5, hg, ht, hR, hL, hC, hD, hT⟩ := hF
  dsimp only
  rw [ix_seg', nc_0 (by omega), nc_1 (by omega), nc_2 (by omega), n_c8, n_c9, n_c10]
  refine ⟨vi_0 (by omega) (by decide), fun f4 e4 => ⟨vi_1 (by omega) (by decide), fun f5 e5 => ⟨vi_2 (by omega) (by decide), fun f6 e6 => ?_⟩⟩⟩
  have o6 : ∀ j, ¬ (66 + 3 * s ≤ j ∧ j < 66 + 3 * s + 3) → f6 j = m1 j := fun j hj => by
    rw [e6, up_ne (by omega), e5, up_ne (by omega), e4, up_ne (by omega)]
  have z6 : ∀ z, z < 3 → f6 (66 + 3 * s + z) = 0 := fun z hz => by
    match z, hz with
    | 0, _ => rw [e6, up_ne (by omega), e5, up_ne (by omega), e4, up_eq (by omega)]
    | 1, _ => rw [e6, up_ne (by omega), e5, up_eq rfl]
    | 2, _ => rw [e6, up_eq rfl]
    | n + 3, h => exact absurd h (by omega)
  have lg := (mRel_iff.mp hm1).2.2.2.2.2
  refine ⟨w.2.2.2.2.2.1, hD, lg.cg hD.2 (fun j a b => o6 j (by omega)), fun m2 hlg hj2 => ⟨vp_in_nI (n := 8) (by decide) (by decide), fun f9 e9 => ⟨vp_in_nI (n := 9) (by decide) (by decide), fun f10 e10 => ⟨vp_in_nI (n := 10) (by decide) (by decide), fun f11 e11 => hQ f11 ?_⟩⟩⟩⟩
  have hj2 : ∀ j, j < 5406 → m2 j = f6 j := hj2
  have e9 : f9 = upd m2 8 (-1) := e9
  have hlg : mLg (zTell w.2.2.2.2.2.1 (dN w.2.2.2.2.2.1) 2 (nI s) (f6 5)) m2 := hlg
  rw [o6 5 (by omega), hm1.1 5 (by decide)] at hlg
  have o11 : ∀ j, ¬ j = 8 → ¬ j = 9 → ¬ j = 10 → f11 j = m2 j := fun j a b c => by rw [e11, up_ne c, e10, up_ne b, e9, up_ne a]
  refine hm1.relS hs (fun q hq => (hg.2.1 q hq).2) ht.1.2 ?_ ?_ ?_ (fun z hz => ?_) (fun j a b c d e => ?_) ?_
  · rw [e11, up_ne (by decide), e10, up_ne (by decide), e9, up_eq rfl]
  · rw [e11, up_ne (by decide), e10, up_eq rfl]
  · rw [e11, up_eq rfl]
  · rw [o11 _ (by omega) (by omega) (by omega), hj2 _ (by omega), z6 z hz]
  · rw [o11 _ b c d, hj2 _ a, o6 j e]
  · exact hlg.cg (hD.tell _ _ _).2 (fun j a b => o11 j (by omega) (by omega) (by omega))
theorem c_X11_ends (l : Launch) (dC : Nat → ClassId) (dI : Nat → Nat → Nat) (cI cJ cS : ClassId) (a : Nat → Nat) (u : zModel) (Q : zModel → Prop) (hf : s_X11_ends u Q) : ∀ sz : Nat, Met l yX11_ends (Cond.code yX11_ends cX11_ends 2 none :: zT) rm_X11_ends (zPm dC dI cI cJ cS (cl_X11 cI cJ a u) [.ref (a 0)] sz) (va_Qv Q (zB dC dI cI cJ cS (va_A (cl_X11 cI cJ a u) sz) (fun z => cl_X11 cI cJ a z)) (va_A (cl_X11 cI cJ a u) sz)) 0 0 (va_A (cl_X11 cI cJ a u) sz) := L_X11_ends l dC dI cI cJ cS a u Q (st_X11_ends hf)

def t_X11_oneNoted (u : zModel) (Q : Int32 → zModel → Prop) : Prop := vp_in (8 : Int32) 5497 ∧ ∀ x_1 : Int32, x_1 = (u.2.1 (8 : Int32).toNatClampNeg) → vp_in (10 : Int32) 5497 ∧ vp_in ((16 : Int32) + (u.2.1 (10 : Int32).toNatClampNeg)) 5497 ∧ ∀ x_2 : Int32, x_2 = (u.2.1 ((16 : Int32) + (u.2.1 (10 : Int32).toNatClampNeg)).toNatClampNeg) → s_X11_isLive u x_1 x_2 (fun r_3 : Int32 => ((¬ r_3 = 0 → s_X11_noted u x_1 x_2 (1 : Int32) (fun r_5 : Int32 => s_X11_sizeOf r_5 (fun r_6 : Int32 => s_X11_hasRoom u r_6 (fun r_7 : Int32 => ((¬ r_7 = 0 → s_X11_noted u x_1 x_2 (0 : Int32) (fun r_9 : Int32 => s_X11_noted u x_1 x_2 (2 : Int32) (fun r_10 : Int32 => s_X11_puts u r_9 r_5 r_10 (fun (u_12 : zModel) => vp_in (11 : Int32) 5497 ∧ vp_in (11 : Int32) 5497 ∧ ∀ f_13 : Nat → Int32, f_13 = upd u_12.2.1 (11 : Int32).toNatClampNeg ((u_12.2.1 (11 : Int32).toNatClampNeg) + (1 : Int32)) → vp_in (10 : Int32) 5497 ∧ vp_in (10 : Int32) 5497 ∧ ∀ f_14 : Nat → Int32, f_14 = upd f_13 (10 : Int32).toNatClampNeg ((f_13 (10 : Int32).toNatClampNeg) + (1 : Int32)) → Q (1 : Int32) (u_12.1, f_14, u_12.2.2))))) ∧ (r_7 = 0 → Q (-1 : Int32) u)))))) ∧ (r_3 = 0 → vp_in (12 : Int32) 5497 ∧ vp_in (12 : Int32) 5497 ∧ ∀ f_15 : Nat → Int32, f_15 = upd u.2.1 (12 : Int32).toNatClampNeg ((u.2.1 (12 : Int32).toNatClampNeg) + (1 : Int32)) → vp_in (10 : Int32) 5497 ∧ vp_in (10 : Int32) 5497 ∧ ∀ f_16 : Nat → Int32, f_16 = upd f_15 (10 : Int32).toNatClampNeg ((f_15 (10 : Int32).toNatClampNeg) + (1 : Int32)) → Q (0 : Int32) (u.1, f_16, u.2.2))))
theorem zc_X11_oneNoted : zCalV RX11 yX11_oneNoted cX11_oneNoted 4 (some .int) 0 := ⟨q_im_X11_oneNoted, q_se_X11_oneNoted, q_in_X11, q_cd_X11_oneNoted, ⟨by decide, by decide, by decide +kernel⟩, rfl⟩
abbrev rm_X11_oneNoted : Room := { frames := 6, cells := 0, slots := 0, locals := 133 }
set_option maxHeartbeats 4000000 in
set_option maxRecDepth 100000 in
theorem L_X11_oneNoted (l : Launch) (dC : Nat → ClassId) (dI : Nat → Nat → Nat) (cI cJ cS : ClassId) (a : Nat → Nat) (u : zModel) (Q : Int32 → zModel → Prop) (hf : t_X11_oneNoted u Q) : ∀ sz : Nat, Met l yX11_oneNoted (Cond.code yX11_oneNoted cX11_oneNoted 4 (some .int) :: zT) rm_X11_oneNoted (zPm dC dI cI cJ cS (cl_X11 cI cJ a u) [.ref (a 0)] sz) (va_Qi Q (zB dC dI cI cJ cS (va_A (cl_X11 cI cJ a u) sz) (fun z => cl_X11 cI cJ a z)) (va_A (cl_X11 cI cJ a u) sz)) 0 0 (va_A (cl_X11 cI cJ a u) sz) := by
  intro sz
  refine z_enterM (Qc := fun A => va_Qi Q (zB dC dI cI cJ cS A (fun z => cl_X11 cI cJ a z)) A) (cc := cX11_oneNoted) (maxL := 4) (ret := (some .int)) (by decide) (Nat.le_of_ble_eq_true rfl) ?_
  intro p e s m below meth c ls A X hP hD hS hA hl
  obtain ⟨⟨hx, hb, hml, hown, hts⟩, hr, hlk, hK⟩ := id X
  have hl : lv_has ls 4 [(0, .ref (a 0))] := hl
  unfold t_X11_oneNoted at hf
  refine lv_aload_n hx hb dX11_oneNoted_0 rfl (lv_at hl 0 rfl) ?_
  refine va_get (D := (dC, dI)) (ci := 10) (v := .ref (a 1)) (C := RX11) (T := TX11) (N := 17) hx hb hts inX11 hown hK hP 0 rfl rfl 1 (by decide) (hts _ q_fl_X11_7) (fun _ h9 => h9) rfl dX11_oneNoted_1 ?_
  refine lv_bipush (v := 8) hx hb dX11_oneNoted_4 (by decide) ?_
  obtain ⟨hg, hf⟩ := hf
  refine va_iald hx hb hK hP 1 0 rfl rfl hg dX11_oneNoted_6 ?_
  refine lv_topi (fun x_1 ex_1 => ?_)
  have hf := hf x_1 ex_1
  refine lv_istore_n (lv' := [(1, .int x_1), (0, .ref (a 0))]) hx hb dX11_oneNoted_7 rfl hl (by decide) rfl (fun ls hl => ?_)
  refine lv_aload_n hx hb dX11_oneNoted_8 rfl (lv_at hl 1 rfl) ?_
  refine va_get (D := (dC, dI)) (ci := 10) (v := .ref (a 1)) (C := RX11) (T := TX11) (N := 17) hx hb hts inX11 hown hK hP 0 rfl rfl 1 (by decide) (hts _ q_fl_X11_7) (fun _ h9 => h9) rfl dX11_oneNoted_9 ?_
  refine lv_bipush (v := 16) hx hb dX11_oneNoted_12 (by decide) ?_
  refine lv_aload_n hx hb dX11_oneNoted_14 rfl (lv_at hl 1 rfl) ?_
  refine va_get (D := (dC, dI)) (ci := 10) (v := .ref (a 1)) (C := RX11) (T := TX11) (N := 17) hx hb hts inX11 hown hK hP 0 rfl rfl 1 (by decide) (hts _ q_fl_X11_7) (fun _ h9 => h9) rfl dX11_oneNoted_15 ?_
  refine lv_bipush (v := 10) hx hb dX11_oneNoted_18 (by decide) ?_
  obtain ⟨hg, hf⟩ := hf
  refine va_iald hx hb hK hP 1 0 rfl rfl hg dX11_oneNoted_20 ?_
  refine lv_iadd hx hb dX11_oneNoted_21 ?_
  obtain ⟨hg, hf⟩ := hf
  refine va_iald hx hb hK hP 1 0 rfl rfl hg dX11_oneNoted_22 ?_
  refine lv_topi (fun x_2 ex_2 => ?_)
  have hf := hf x_2 ex_2
  refine lv_istore_n (lv' := [(2, .int x_2), (1, .int x_1), (0, .ref (a 0))]) hx hb dX11_oneNoted_23 rfl hl (by decide) rfl (fun ls hl => ?_)
  refine lv_aload_n hx hb dX11_oneNoted_24 rfl (lv_at hl 2 rfl) ?_
  refine lv_iload_n hx hb dX11_oneNoted_25 rfl (lv_at hl 1 rfl) ?_
  refine lv_iload_n hx hb dX11_oneNoted_26 rfl (lv_at hl 0 rfl) ?_
  refine z_cVi (As := [.int x_1, .int x_2]) (rest := []) X (c_X11_isLive l dC dI cI cJ cS a u x_1 x_2 _ hf) zc_X11_isLive q_ml_X11_88 ⟨rfl, rfl⟩ ⟨Nat.le_of_ble_eq_true rfl, Nat.le_of_ble_eq_true rfl⟩ hP [0, 1, 2, 3, 4, 5, 6, 7, 8] rfl 10 rfl rfl hl.1 rfl rfl (Nat.le_of_ble_eq_true rfl) ⟨Nat.zero_le _, Nat.zero_le _⟩ dX11_oneNoted_27 (fun r_3 hf => ?_)
  obtain ⟨hbr_3, hf⟩ := hf
  refine lv_if_ne (tgt := 57) hx hb dX11_oneNoted_30 (by decide) (fun c_4 => ?_) (fun c_4 => ?_)
  · have hf := hf.1 c_4
    refine lv_aload_n hx hb dX11_oneNoted_57 rfl (lv_at hl 2 rfl) ?_
    refine lv_iload_n hx hb dX11_oneNoted_58 rfl (lv_at hl 1 rfl) ?_
    refine lv_iload_n hx hb dX11_oneNoted_59 rfl (lv_at hl 0 rfl) ?_
    refine lv_iconst (v := 1) hx hb dX11_oneNoted_60 (by decide) ?_
    refine z_cVi (As := [.int x_1, .int x_2, .int (1 : Int32)]) (rest := []) X (c_X11_noted l dC dI cI cJ cS a u x_1 x_2 (1 : Int32) _ hf) zc_X11_noted q_ml_X11_77 ⟨rfl, rfl⟩ ⟨Nat.le_of_ble_eq_true rfl, Nat.le_of_ble_eq_true rfl⟩ hP [0, 1, 2, 3, 4, 5, 6, 7, 8] rfl 10 rfl rfl hl.1 rfl rfl (Nat.le_of_ble_eq_true rfl) ⟨Nat.zero_le _, Nat.zero_le _⟩ dX11_oneNoted_61 (fun r_5 hf => ?_)
    refine lv_istore_n (lv' := [(3, .int r_5), (2, .int x_2), (1, .int x_1), (0, .ref (a 0))]) hx hb dX11_oneNoted_64 rfl hl (by decide) rfl (fun ls hl => ?_)
    refine lv_aload_n hx hb dX11_oneNoted_65 rfl (lv_at hl 3 rfl) ?_
    refine lv_iload_n hx hb dX11_oneNoted_66 rfl (lv_at hl 0 rfl) ?_
    refine z_cSi (As := [.int r_5]) (rest := [.ref (a 0)]) X (c_X11_sizeOf l dC dI cI cJ cS   r_5 _ hf) zc_X11_sizeOf q_ml_X11_91 ⟨rfl, rfl⟩ ⟨Nat.le_of_ble_eq_true rfl, Nat.le_of_ble_eq_true rfl⟩ hP [] rfl hl.1 rfl rfl (Nat.le_of_ble_eq_true rfl) ⟨Nat.zero_le _, Nat.zero_le _⟩ dX11_oneNoted_67 (fun r_6 hf => ?_)
    refine z_cVi (As := [.int r_6]) (rest := []) X (c_X11_hasRoom l dC dI cI cJ cS a u r_6 _ hf) zc_X11_hasRoom q_ml_X11_124 ⟨rfl, rfl⟩ ⟨Nat.le_of_ble_eq_true rfl, Nat.le_of_ble_eq_true rfl⟩ hP [0, 1, 2, 3, 4, 5, 6, 7, 8] rfl 10 rfl rfl hl.1 rfl rfl (Nat.le_of_ble_eq_true rfl) ⟨Nat.zero_le _, Nat.zero_le _⟩ dX11_oneNoted_70 (fun r_7 hf => ?_)
    obtain ⟨hbr_7, hf⟩ := hf
    refine lv_if_ne (tgt := 78) hx hb dX11_oneNoted_73 (by decide) (fun c_8 => ?_) (fun c_8 => ?_)
    · have hf := hf.1 c_8
      refine lv_aload_n hx hb dX11_oneNoted_78 rfl (lv_at hl 3 rfl) ?_
      refine lv_aload_n hx hb dX11_oneNoted_79 rfl (lv_at hl 3 rfl) ?_
      refine lv_iload_n hx hb dX11_oneNoted_80 rfl (lv_at hl 2 rfl) ?_
      refine lv_iload_n hx hb dX11_oneNoted_81 rfl (lv_at hl 1 rfl) ?_
      refine lv_iconst (v := 0) hx hb dX11_oneNoted_82 (by decide) ?_
      refine z_cVi (As := [.int x_1, .int x_2, .int (0 : Int32)]) (rest := [.ref (a 0)]) X (c_X11_noted l dC dI cI cJ cS a u x_1 x_2 (0 : Int32) _ hf) zc_X11_noted q_ml_X11_77 ⟨rfl, rfl⟩ ⟨Nat.le_of_ble_eq_true rfl, Nat.le_of_ble_eq_true rfl⟩ hP [0, 1, 2, 3, 4, 5, 6, 7, 8] rfl 10 rfl rfl hl.1 rfl rfl (Nat.le_of_ble_eq_true rfl) ⟨Nat.zero_le _, Nat.zero_le _⟩ dX11_oneNoted_83 (fun r_9 hf => ?_)
      refine lv_iload_n hx hb dX11_oneNoted_86 rfl (lv_at hl 0 rfl) ?_
      refine lv_aload_n hx hb dX11_oneNoted_87 rfl (lv_at hl 3 rfl) ?_
      refine lv_iload_n hx hb dX11_oneNoted_88 rfl (lv_at hl 2 rfl) ?_
      refine lv_iload_n hx hb dX11_oneNoted_89 rfl (lv_at hl 1 rfl) ?_
      refine lv_iconst (v := 2) hx hb dX11_oneNoted_90 (by decide) ?_
      refine z_cVi (As := [.int x_1, .int x_2, .int (2 : Int32)]) (rest := [.int r_5, .int r_9, .ref (a 0)]) X (c_X11_noted l dC dI cI cJ cS a u x_1 x_2 (2 : Int32) _ hf) zc_X11_noted q_ml_X11_77 ⟨rfl, rfl⟩ ⟨Nat.le_of_ble_eq_true rfl, Nat.le_of_ble_eq_true rfl⟩ hP [0, 1, 2, 3, 4, 5, 6, 7, 8] rfl 10 rfl rfl hl.1 rfl rfl (Nat.le_of_ble_eq_true rfl) ⟨Nat.zero_le _, Nat.zero_le _⟩ dX11_oneNoted_91 (fun r_10 hf => ?_)
      refine z_mVv (Wn := (fun u_12 => cl_X11 cI cJ a u_12)) (As := [.int r_9, .int r_5, .int r_10]) (rest := []) (wr := []) X (c_X11_puts l dC dI cI cJ cS a u r_9 r_5 r_10 _ hf _) zc_X11_puts q_ml_X11_127 ⟨rfl, rfl⟩ ⟨Nat.le_of_ble_eq_true rfl, Nat.le_of_ble_eq_true rfl⟩ hP hD hS hA [0, 1, 2, 3, 4, 5, 6, 7, 8] [] rfl (by decide) rfl (by decide) (by decide) [0, 1, 2, 3, 4, 5, 6, 7, 8] (by decide) (fun _ => rfl) 10 rfl rfl hl.1 rfl rfl (Nat.le_of_ble_eq_true rfl) ⟨Nat.zero_le _, Nat.zero_le _⟩ dX11_oneNoted_94 (fun u_12 H locs hf hP hD hS => ?_)
      refine lv_aload_n hx hb dX11_oneNoted_97 rfl (lv_at hl 3 rfl) ?_
      refine va_get (D := (dC, dI)) (ci := 10) (v := .ref (a 1)) (C := RX11) (T := TX11) (N := 17) hx hb hts inX11 hown hK hP 0 rfl rfl 1 (by decide) (hts _ q_fl_X11_7) (fun _ h9 => h9) rfl dX11_oneNoted_98 ?_
      refine lv_bipush (v := 11) hx hb dX11_oneNoted_101 (by decide) ?_
      refine lv_dup2_11 hx hb dX11_oneNoted_103 rfl rfl ?_
      obtain ⟨hg, hf⟩ := hf
      refine va_iald hx hb hK hP 1 0 rfl rfl hg dX11_oneNoted_104 ?_
      refine lv_iconst (v := 1) hx hb dX11_oneNoted_105 (by decide) ?_
      refine lv_iadd hx hb dX11_oneNoted_106 ?_
      obtain ⟨hg, hf⟩ := hf
      refine z_iast (Wn := fun f_13 => cl_X11 cI cJ a (u_12.1, f_13, u_12.2.2)) X hP hD hS 1 0 rfl rfl hg (fun _ => rfl) dX11_oneNoted_107 (fun f_13 H locs ef_13 hP hD hS => ?_)
      have hf := hf f_13 ef_13
      refine lv_aload_n hx hb dX11_oneNoted_108 rfl (lv_at hl 3 rfl) ?_
      refine va_get (D := (dC, dI)) (ci := 10) (v := .ref (a 1)) (C := RX11) (T := TX11) (N := 17) hx hb hts inX11 hown hK hP 0 rfl rfl 1 (by decide) (hts _ q_fl_X11_7) (fun _ h9 => h9) rfl dX11_oneNoted_109 ?_
      refine lv_bipush (v := 10) hx hb dX11_oneNoted_112 (by decide) ?_
      refine lv_dup2_11 hx hb dX11_oneNoted_114 rfl rfl ?_
      obtain ⟨hg, hf⟩ := hf
      refine va_iald hx hb hK hP 1 0 rfl rfl hg dX11_oneNoted_115 ?_
      refine lv_iconst (v := 1) hx hb dX11_oneNoted_116 (by decide) ?_
      refine lv_iadd hx hb dX11_oneNoted_117 ?_
      obtain ⟨hg, hf⟩ := hf
      refine z_iast (Wn := fun f_14 => cl_X11 cI cJ a (u_12.1, f_14, u_12.2.2)) X hP hD hS 1 0 rfl rfl hg (fun _ => rfl) dX11_oneNoted_118 (fun f_14 H locs ef_14 hP hD hS => ?_)
      have hf := hf f_14 ef_14
      refine lv_iconst (v := 1) hx hb dX11_oneNoted_119 (by decide) ?_
      exact z_retMi (Wf := (fun z => cl_X11 cI cJ a z)) (u := (u_12.1, f_14, u_12.2.2)) X hf hP hD hS dX11_oneNoted_120
    · have hf := hf.2 c_8
      refine lv_iconst (v := (-1)) hx hb dX11_oneNoted_76 (by decide) ?_
      exact z_retMi (Wf := (fun z => cl_X11 cI cJ a z)) (u := u) X hf hP hD hS dX11_oneNoted_77
  · have hf := hf.2 c_4
    refine lv_aload_n hx hb dX11_oneNoted_33 rfl (lv_at hl 2 rfl) ?_
    refine va_get (D := (dC, dI)) (ci := 10) (v := .ref (a 1)) (C := RX11) (T := TX11) (N := 17) hx hb hts inX11 hown hK hP 0 rfl rfl 1 (by decide) (hts _ q_fl_X11_7) (fun _ h9 => h9) rfl dX11_oneNoted_34 ?_
    refine lv_bipush (v := 12) hx hb dX11_oneNoted_37 (by decide) ?_
    refine lv_dup2_11 hx hb dX11_oneNoted_39 rfl rfl ?_
    obtain ⟨hg, hf⟩ := hf
    refine va_iald hx hb hK hP 1 0 rfl rfl hg dX11_oneNoted_40 ?_
    refine lv_iconst (v := 1) hx hb dX11_oneNoted_41 (by decide) ?_
    refine lv_iadd hx hb dX11_oneNoted_42 ?_
    obtain ⟨hg, hf⟩ := hf
    refine z_iast (Wn := fun f_15 => cl_X11 cI cJ a (u.1, f_15, u.2.2)) X hP hD hS 1 0 rfl rfl hg (fun _ => rfl) dX11_oneNoted_43 (fun f_15 H locs ef_15 hP hD hS => ?_)
    have hf := hf f_15 ef_15
    refine lv_aload_n hx hb dX11_oneNoted_44 rfl (lv_at hl 2 rfl) ?_
    refine va_get (D := (dC, dI)) (ci := 10) (v := .ref (a 1)) (C := RX11) (T := TX11) (N := 17) hx hb hts inX11 hown hK hP 0 rfl rfl 1 (by decide) (hts _ q_fl_X11_7) (fun _ h9 => h9) rfl dX11_oneNoted_45 ?_
    refine lv_bipush (v := 10) hx hb dX11_oneNoted_48 (by decide) ?_
    refine lv_dup2_11 hx hb dX11_oneNoted_50 rfl rfl ?_
    obtain ⟨hg, hf⟩ := hf
    refine va_iald hx hb hK hP 1 0 rfl rfl hg dX11_oneNoted_51 ?_
    refine lv_iconst (v := 1) hx hb dX11_oneNoted_52 (by decide) ?_
    refine lv_iadd hx hb dX11_oneNoted_53 ?_
    obtain ⟨hg, hf⟩ := hf
    refine z_iast (Wn := fun f_16 => cl_X11 cI cJ a (u.1, f_16, u.2.2)) X hP hD hS 1 0 rfl rfl hg (fun _ => rfl) dX11_oneNoted_54 (fun f_16 H locs ef_16 hP hD hS => ?_)
    have hf := hf f_16 ef_16
    refine lv_iconst (v := 0) hx hb dX11_oneNoted_55 (by decide) ?_
    exact z_retMi (Wf := (fun z => cl_X11 cI cJ a z)) (u := (u.1, f_16, u.2.2)) X hf hP hD hS dX11_oneNoted_56
theorem mRel.bk {v : zState} {m m' : Nat → Int32} (h : mRel v m) (e10 : m' 10 = m 10 + 1) (e11 : m' 11 = m 11 + 1) (hj : ∀ j, ¬ j = 10 → ¬ j = 11 → m' j = m j) : mRel (uBk v) m' := by
  refine h.tops (fun j q => hj j (by omega) (by omega)) (lt16 ?_ ?_ ?_ ?_ ?_ ?_ ?_ ?_ ?_ ?_ ?_ ?_ ?_ ?_ ?_ ?_) rfl rfl rfl id rfl
  all_goals try exact (hj _ (by decide) (by decide)).trans (h.1 _ (by decide))
  · rw [e10, h.1 10 (by decide)]; rfl
  · rw [e11, h.1 11 (by decide)]; rfl
theorem mRel.sk {v : zState} {m m' : Nat → Int32} (h : mRel v m) (e10 : m' 10 = m 10 + 1) (e12 : m' 12 = m 12 + 1) (hj : ∀ j, ¬ j = 10 → ¬ j = 12 → m' j = m j) : mRel (uSk v) m' := by
  refine h.tops (fun j q => hj j (by omega) (by omega)) (lt16 ?_ ?_ ?_ ?_ ?_ ?_ ?_ ?_ ?_ ?_ ?_ ?_ ?_ ?_ ?_ ?_) rfl rfl rfl id rfl
  all_goals try exact (hj _ (by decide) (by decide)).trans (h.1 _ (by decide))
  · rw [e10, h.1 10 (by decide)]; rfl
  · rw [e12, h.1 12 (by decide)]; rfl
def s_X11_oneNoted (u : zModel) (Q : Int32 → zModel → Prop) : Prop := ∃ (v : zState) (ρ β mo lm L S M B : Nat), zP ρ β mo lm L S M B v ∧ B < 400000 ∧ ¬ v.2.2.2.2.1.2.1 = -1 ∧ xN v.2.2.2.2.1 < wN v.2.2.2.2.1 ∧ mRel v u.2.1 ∧ (uBlk v = true → Q (-1) u) ∧ (uBlk v = false → ∀ m' : Nat → Int32, mRel (uAdv v) m' → Q (nI (uWr v)) (u.1, m', u.2.2))
theorem st_X11_oneNoted {u : zModel} {Q : Int32 → zModel → Prop} (h : s_X11_oneNoted u Q) : t_X11_oneNoted u Q := by
  obtain ⟨v, ρ, β, mo, lm, L, S, M, B, hP, hB, hon, hxw, hr, hQb, hQ⟩ := h
  have hm : mOk v u.2.1 := mOk.of hP hr
  obtain ⟨s, hs, es, esg, -⟩ := uHd_rec hP hon
  have hC := hP.2.2.2.2.2.2.2.2.2.1
  have hg := hP.2.2.2.2.2.1
  have m8 : u.2.1 8 = nI s := (hr.1 8 (by decide)).trans es
  have m10 : u.2.1 10 = nI (xN v.2.2.2.2.1) := (hr.1 10 (by decide)).trans hC.2.1.1
  have hw50 := hC.1.2
  obtain ⟨j, hj, mj, ej⟩ := hr.2.2.2.2.1 hon _ hxw
  rw [esg] at hj ej
  have ehd : uHd v = uRec v s j := ej
  have h50 := (hg.2.1 s hs).2
  obtain ⟨q1, q2⟩ := uHd_ok hP hon hxw
  refine ⟨vp_in_nI (n := 8) (by decide) (by decide), fun x1 e1 => ⟨vp_in_nI (n := 10) (by decide) (by decide), ?_⟩⟩
  rw [n_c10, m10, show (16 : Int32) + nI (xN v.2.2.2.2.1) = nI (16 + xN v.2.2.2.2.1) from nI_add 16 _, nI_clamp (by omega), mj]
  rw [n_c8, m8] at e1
  subst e1
  refine ⟨vp_in_nI (by omega) (by decide), fun x2 e2 => ?_⟩
  subst e2
  refine ⟨v, s, j, hm, hs, hj, rfl, rfl, fun hl => ⟨fun _ => ?_, fun q => absurd q (by decide)⟩, fun hl => ⟨fun q => absurd rfl q, fun _ => ?_⟩⟩
  · rw [← ehd] at hl
    have elen : lenI (uRec v s j) = lnI (lnN (uHd v)) := by rw [← ehd]; exact lnI_c (lnN_eq _).1 q2
    refine ⟨s, j, 1, hs, by omega, by decide, rfl, rfl, rfl, ?_⟩
    rw [hr.2.2.1 s j 1 hs hj (by decide), show recF (uRec v s j) 1 = lnI (lnN (uHd v)) from elen]
    refine lnI_size q2 ⟨v, 4 + lnN (uHd v), hm, by omega, z4n _, fun hf => ⟨fun _ => ?_, fun q => absurd q (by decide)⟩, fun hf => ⟨fun q => absurd rfl q, fun _ => hQb ?_⟩⟩
    · have hf : uFits v (4 + nI (lnN (uHd v))) = true := by rw [z4n]; exact hf
      have hb : uBlk v = false := by unfold uBlk; rw [(lnN_eq (uHd v)).1, hf]; simp
      have ea : uAdv v = uBk (uEnter v (kN (uHd v)) (lnN (uHd v)) (sdN (uHd v))) := by unfold uAdv; rw [if_pos hxw, if_pos hl]
      have ew : uWr v = 1 := by unfold uWr; rw [if_pos ⟨hxw, hl⟩]
      have hQ := hQ hb
      rw [ea, ew] at hQ
      refine ⟨s, j, 0, hs, by omega, by decide, rfl, rfl, rfl, s, j, 2, hs, by omega, by decide, rfl, rfl, rfl, ?_⟩
      rw [hr.2.2.1 s j 0 hs hj (by decide), hr.2.2.1 s j 2 hs hj (by decide), ← ehd]
      refine ⟨v, ρ, β, mo, lm, L, S, M, B, kN (uHd v), lnN (uHd v), sdN (uHd v), hP, hB, kN_lt _, q2, (sdN_eq _).2, kN_eq _, rfl, (sdN_eq _).1, hf, hr, fun m' hm' => ?_⟩
      generalize uEnter v (kN (uHd v)) (lnN (uHd v)) (sdN (uHd v)) = w at hQ hm'
      dsimp only
      rw [n_c11]
      refine ⟨vp_in_nI (n := 11) (by decide) (by decide), vp_in_nI (n := 11) (by decide) (by decide), fun f13 e13 => ⟨vp_in_nI (n := 10) (by decide) (by decide), vp_in_nI (n := 10) (by decide) (by decide), fun f14 e14 => hQ f14 (hm'.bk ?_ ?_ ?_)⟩⟩
      · rw [e14, up_eq rfl, e13, up_ne (by decide)]
      · rw [e14, up_ne (by decide), e13, up_eq rfl]
      · intro j a b
        rw [e14, up_ne a, e13, up_ne b]
    · have hf : uFits v (4 + nI (lnN (uHd v))) = false := by rw [z4n]; exact hf
      unfold uBlk
      rw [decide_eq_true hxw, hl, (lnN_eq (uHd v)).1, hf]; rfl
  · rw [← ehd] at hl
    have hb : uBlk v = false := by unfold uBlk; rw [hl]; simp
    have ea : uAdv v = uSk v := by unfold uAdv; rw [if_pos hxw, if_neg (by rw [hl]; decide)]
    have ew : uWr v = 0 := by unfold uWr; rw [if_neg (fun q => by rw [hl] at q; exact absurd q.2 (by decide))]
    have hQ := hQ hb
    rw [ea, ew] at hQ
    rw [n_c12]
    refine ⟨vp_in_nI (n := 12) (by decide) (by decide), vp_in_nI (n := 12) (by decide) (by decide), fun f13 e13 => ⟨vp_in_nI (n := 10) (by decide) (by decide), vp_in_nI (n := 10) (by decide) (by decide), fun f14 e14 => hQ f14 (hr.sk ?_ ?_ ?_)⟩⟩
    · rw [e14, up_eq rfl, e13, up_ne (by decide)]
    · rw [e14, up_ne (by decide), e13, up_eq rfl]
    · intro j a b
      rw [e14, up_ne a, e13, up_ne b]
theorem c_X11_oneNoted (l : Launch) (dC : Nat → ClassId) (dI : Nat → Nat → Nat) (cI cJ cS : ClassId) (a : Nat → Nat) (u : zModel) (Q : Int32 → zModel → Prop) (hf : s_X11_oneNoted u Q) : ∀ sz : Nat, Met l yX11_oneNoted (Cond.code yX11_oneNoted cX11_oneNoted 4 (some .int) :: zT) rm_X11_oneNoted (zPm dC dI cI cJ cS (cl_X11 cI cJ a u) [.ref (a 0)] sz) (va_Qi Q (zB dC dI cI cJ cS (va_A (cl_X11 cI cJ a u) sz) (fun z => cl_X11 cI cJ a z)) (va_A (cl_X11 cI cJ a u) sz)) 0 0 (va_A (cl_X11 cI cJ a u) sz) := L_X11_oneNoted l dC dI cI cJ cS a u Q (st_X11_oneNoted hf)
