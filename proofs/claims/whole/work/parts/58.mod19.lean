/-! HOLDS -/
def uF (v : zState) (z : Nat) : Nat := (uLeft v).toNatClampNeg / z + uFree v * (v.1.1.toNatClampNeg / z)
theorem put_left {ρ β mo lm L S M B k ln sd : Nat} {v : zState} (h : zP ρ β mo lm L S M B v) (hf : uFits v (4 + nI ln) = true) : (uPut v k ln sd).1 = v.1 ∧ ((4 + nI ln ≤ uLeft v ∧ uLeft (uPut v k ln sd) = uLeft v - (4 + nI ln) ∧ uFree (uPut v k ln sd) = uFree v) ∨ (¬ 4 + nI ln ≤ uLeft v ∧ uLeft (uPut v k ln sd) = v.1.1 - (4 + nI ln) ∧ uFree (uPut v k ln sd) + 1 = uFree v)) := by
  have e1 : (uPut v k ln sd).1 = v.1 := uE_term _ _ _ _
  obtain ⟨w1, ew⟩ : ∃ w1, w1 = uE1 (uTold v (4 + nI ln)) k := ⟨_, rfl⟩
  have t1 : w1.1 = v.1 ∧ w1.2.2.1 = v.2.2.1 := by
    rw [ew]
    unfold uE1
    split
    · exact ⟨rfl, rfl⟩
    · exact ⟨(uFlush_same _).1, (uFlush_same _).2.1⟩
  have l1 : uLeft w1 = uLeft v := by unfold uLeft oN; rw [t1.1, t1.2]
  have f1 : uFst w1 = uFst v := by unfold uFst; rw [t1.2]
  have hE3 : ∀ w : zState, uLeft (uE3 w k ln sd) = uLeft w - (4 + nI ln) ∧ uFree (uE3 w k ln sd) = uFree w := fun w => ⟨by
    show w.1.1 - upd w.2.2.1.2.2.1 (oN w) (w.2.2.1.2.2.1 (oN w) + (4 + nI ln)) (oN w) = w.1.1 - w.2.2.1.2.2.1 (oN w) - (4 + nI ln)
    rw [up_eq rfl, Int32.sub_sub], rfl⟩
  have ep : uPut v k ln sd = uE3 (uE2 w1 (4 + nI ln)) k ln sd := by rw [ew]; rfl
  obtain ⟨a, b⟩ := hE3 (uE2 w1 (4 + nI ln))
  rw [← ep] at a b
  refine ⟨e1, ?_⟩
  rw [a, b]
  unfold uE2
  rw [l1]
  by_cases hc : 4 + nI ln ≤ uLeft v
  · rw [if_pos hc]
    refine Or.inl ⟨hc, by rw [l1], ?_⟩
    unfold uFree
    rw [t1.2]
  · rw [if_neg hc]
    have hg := h.2.2.2.2.2.1
    have hfr : uFst v < 12 := (of_decide_eq_true hf).resolve_left hc
    have h0 := uFst_0 hfr
    have hn0 := (hg.2.2.1 _ hfr).2.2 h0
    have htk := (hg.2.2.2.1 _ hfr).1
    rw [hn0] at htk
    have hno : ¬ uFst v = oN v := fun q => by
      have := ((hg.2.2.1 _ hfr).1).mpr q
      rw [h0] at this
      exact absurd this (by decide)
    refine Or.inr ⟨hc, ?_, ?_⟩
    · have eo : (nI (uFst w1)).toNatClampNeg = uFst v := by rw [f1]; exact nI_clamp (by omega)
      show w1.1.1 - w1.2.2.1.2.2.1 (nI (uFst w1)).toNatClampNeg - (4 + nI ln) = _
      rw [eo, t1.1, t1.2, htk]
      show v.1.1 - nI 0 - (4 + nI ln) = _
      rw [show v.1.1 - nI 0 = v.1.1 from Int32.sub_zero _]
    · have e2 : oN w1 = oN v := by unfold oN; rw [t1.2]
      show fa_cnt (fun s => decide (upd (upd w1.2.2.1.2.2.2.1 (oN w1) 2) (uFst w1) 1 s = 0)) 12 + 1 = _
      rw [t1.2, f1, e2]
      have := fa_cnt_upd (p := fun s => decide (upd (upd v.2.2.1.2.2.2.1 (oN v) 2) (uFst v) 1 s = 0)) (q := fun s => decide (v.2.2.1.2.2.2.1 s = 0)) (k := uFst v) (fun j hj => ?_) (decide_eq_true h0) 12 hfr
      · rw [if_neg (by rw [up_eq rfl]; decide)] at this
        exact this.symm
      · show decide _ = decide _
        rw [up_ne hj]
        by_cases hjo : j = oN v
        · rw [up_eq hjo]
          have ho12 : oN v < 12 := hg.1.2
          have h1 : v.2.2.1.2.2.2.1 j = 1 := ((hg.2.2.1 j (by rw [hjo]; exact ho12)).1).mpr hjo
          rw [h1]; decide
        · rw [up_ne hjo]
theorem hold_step {ρ β mo lm L S M B k ln sd : Nat} {v : zState} (h : zP ρ β mo lm L S M B v) (hl : ln ≤ 40) : (uFits v (4 + nI ln) = true ↔ 0 < uF v (4 + ln)) ∧ (uFits v (4 + nI ln) = true → uF (uPut v k ln sd) (4 + ln) + 1 = uF v (4 + ln)) := by
  have h1 := h.1
  have hg := h.2.2.2.2.2.1
  have htk := hg.2.2.2.1 _ hg.1.2
  obtain ⟨lf, elf⟩ : ∃ lf, lf = ρ - gB v.2.2.1 (gO v.2.2.1) (gN v.2.2.1 (gO v.2.2.1)) := ⟨_, rfl⟩
  have hleft : uLeft v = nI lf := by
    show v.1.1 - v.2.2.1.2.2.1 (gO v.2.2.1) = _
    rw [h1.1, htk.1, elf]
    exact lN_subI htk.2
  have hlf : lf ≤ 200 := by omega
  have hz : (4 : Int32) + nI ln = nI (4 + ln) := z4n ln
  have hcmp : 4 + nI ln ≤ uLeft v ↔ 4 + ln ≤ lf := by rw [hz, hleft, nI_leI (by omega) (by omega)]
  have hq : 0 < ρ / (4 + ln) := Nat.div_pos (by omega) (by omega)
  have eF : uF v (4 + ln) = lf / (4 + ln) + uFree v * (ρ / (4 + ln)) := by
    unfold uF
    rw [hleft, h1.1, nI_clamp (by omega), nI_clamp (by omega)]
  have hfp := uFree_pos v
  have hfits : uFits v (4 + nI ln) = true ↔ (4 + ln ≤ lf ∨ 0 < uFree v) := by
    unfold uFits
    rw [decide_eq_true_iff, hcmp, hfp]
  refine ⟨?_, fun hf => ?_⟩
  · rw [hfits, eF]
    constructor
    · rintro (q | q)
      · exact Nat.add_pos_left (Nat.div_pos q (show 0 < 4 + ln by omega)) _
      · exact Nat.add_pos_right _ (Nat.mul_pos q hq)
    · intro q
      by_cases c : 4 + ln ≤ lf
      · exact Or.inl c
      · rw [Nat.div_eq_of_lt (by omega)] at q
        refine Or.inr ?_
        by_cases c2 : uFree v = 0
        · rw [c2, Nat.zero_mul] at q; omega
        · omega
  · obtain ⟨e1, hcase⟩ := put_left (k := k) (sd := sd) h hf
    have eP : uF (uPut v k ln sd) (4 + ln) = (uLeft (uPut v k ln sd)).toNatClampNeg / (4 + ln) + uFree (uPut v k ln sd) * (ρ / (4 + ln)) := by
      unfold uF
      rw [e1, h1.1, nI_clamp (n := ρ) (by omega)]
    rw [eP, eF]
    rcases hcase with ⟨c, e2, e3⟩ | ⟨c, e2, e3⟩
    · rw [hcmp] at c
      rw [e2, e3, hleft, hz, lN_subI c, nI_clamp (by omega), Nat.div_eq_sub_div (show 0 < 4 + ln by omega) c]
      generalize (lf - (4 + ln)) / (4 + ln) = x1
      generalize uFree v * (ρ / (4 + ln)) = x2
      omega
    · rw [hcmp] at c
      rw [e2, h1.1, hz, lN_subI (by omega), nI_clamp (by omega), Nat.div_eq_of_lt (show lf < 4 + ln by omega), ← e3, Nat.add_mul, Nat.one_mul, Nat.div_eq_sub_div (show 0 < 4 + ln by omega) (show 4 + ln ≤ ρ by omega)]
      generalize (ρ - (4 + ln)) / (4 + ln) = x1
      generalize uFree (uPut v k ln sd) = x3
      rw [Nat.zero_add, Nat.add_comm x1, Nat.add_assoc]
def fHolds (v : zState) (x : Int32) : Int32 × Int32 := if inR x 1 40 then (0, nI (min 99 (uF v (4 + x.toNatClampNeg)))) else (1, 0)

def t_X11_holds_e (u : zModel) (x1 : Int32) (K34 : Int32 → zModel → Prop) (Q : Int32 → zModel → Prop) : Prop := s_X11_isIn x1 (1 : Int32) (40 : Int32) (fun r_1 : Int32 => ((r_1 = 0 → (((1 : Int32) ≤ 0 → s_X11_keepsTrial ((1 : Int32), u.2) (fun (u_5 : zModel) => K34 (0 : Int32) u_5)) ∧ (¬ (1 : Int32) ≤ 0 → Q (0 : Int32) ((1 : Int32), u.2)))) ∧ (¬ r_1 = 0 → (((0 : Int32) ≤ 0 → s_X11_keepsTrial ((0 : Int32), u.2) (fun (u_9 : zModel) => K34 (0 : Int32) u_9)) ∧ (¬ (0 : Int32) ≤ 0 → Q (0 : Int32) ((0 : Int32), u.2))))))
def t_X11_holds_34 (x1 : Int32) (y2 : Int32) (z : zModel) (K34 : Int32 → zModel → Prop) (Q : Int32 → zModel → Prop) : Prop := (((99 : Int32) ≤ y2 → s_X11_trialBack z (fun (u_13 : zModel) => Q y2 u_13)) ∧ (¬ (99 : Int32) ≤ y2 → (¬ (64 : Int32) = 0) ∧ s_X11_put0 z (y2 - y2 / (64 : Int32) * (64 : Int32)) x1 (0 : Int32) (fun (r_14 : Int32) (u_15 : zModel) => ((¬ r_14 = 0 → s_X11_trialBack u_15 (fun (u_18 : zModel) => Q y2 u_18)) ∧ (r_14 = 0 → ∀ x_19 : Int32, x_19 = y2 + (1 : Int32) → K34 x_19 u_15)))))
theorem zc_X11_holds : zCalV RX11 yX11_holds cX11_holds 3 (some .int) 1 := ⟨q_im_X11_holds, q_se_X11_holds, q_in_X11, q_cd_X11_holds, ⟨by decide, by decide, by decide +kernel⟩, rfl⟩
abbrev rm_X11_holds : Room := { frames := 7, cells := 0, slots := 0, locals := 156 }
def v_X11_holds (u : zModel) (x1 : Int32) (Q : Int32 → zModel → Prop) : Prop := ∃ I34 : Nat → Int32 → zModel → Prop, (∀ (n : Nat) (y2 : Int32) (z : zModel), I34 n y2 z → t_X11_holds_34 x1 y2 z (fun q0 q1 => ∃ k : Nat, k < n ∧ I34 k q0 q1) Q) ∧ t_X11_holds_e u x1 (fun q0 q1 => ∃ k : Nat, I34 k q0 q1) Q
set_option maxHeartbeats 4000000 in
set_option maxRecDepth 100000 in
theorem L_X11_holds (l : Launch) (dC : Nat → ClassId) (dI : Nat → Nat → Nat) (cI cJ cS : ClassId) (a : Nat → Nat) (u : zModel) (x1 : Int32) (Q : Int32 → zModel → Prop) (I34 : Nat → Int32 → zModel → Prop) (h34 : ∀ (n : Nat) (y2 : Int32) (z : zModel), I34 n y2 z → t_X11_holds_34 x1 y2 z (fun q0 q1 => ∃ k : Nat, k < n ∧ I34 k q0 q1) Q) (hf : t_X11_holds_e u x1 (fun q0 q1 => ∃ k : Nat, I34 k q0 q1) Q) : ∀ sz : Nat, Met l yX11_holds (Cond.code yX11_holds cX11_holds 3 (some .int) :: zT) rm_X11_holds (zPm dC dI cI cJ cS (cl_X11 cI cJ a u) [.ref (a 0), .int x1] sz) (va_Qi Q (zB dC dI cI cJ cS (va_A (cl_X11 cI cJ a u) sz) (fun z => cl_X11 cI cJ a z)) (va_A (cl_X11 cI cJ a u) sz)) 0 0 (va_A (cl_X11 cI cJ a u) sz) := by
  intro sz
  refine z_enterM (Qc := fun A => va_Qi Q (zB dC dI cI cJ cS A (fun z => cl_X11 cI cJ a z)) A) (cc := cX11_holds) (maxL := 3) (ret := (some .int)) (by decide) (Nat.le_of_ble_eq_true rfl) ?_
  intro p e s m below meth c ls A X hP hD hS hA hl
  obtain ⟨⟨hx, hb, hml, hown, hts⟩, hr, hlk, hK⟩ := id X
  have hl : lv_has ls 3 [(0, .ref (a 0)), (1, .int x1)] := hl
  have LP : ∀ n : Nat, (∀ (y2 : Int32) (z : zModel) (H : Heap) (locs : List Loc) (ls : Array Slot), I34 n y2 z → va_P (dC, dI) vwCl (cl_X11 cI cJ a z) H → va_D A (cl_X11 cI cJ a z) → va_S A s.heap H locs → lv_has ls 3 [(0, .ref (a 0)), (1, .int x1), (2, .int y2)] → W p l e rm_X11_holds s m [.ref (a 0), .int x1].toArray below meth c H locs 0 0 (MQ below (va_Qi Q (zB dC dI cI cJ cS A (fun z => cl_X11 cI cJ a z)) A) [.ref (a 0), .int x1].toArray s 0 0 A) (F0 m 34 ls [])) := by
    intro n
    induction n using Nat.strongRecOn with
    | _ n ih =>
      intro y2 z H locs ls hI hP hD hS hl
      have hf := h34 n y2 z hI
      unfold t_X11_holds_34 at hf
      refine lv_iload_n hx hb dX11_holds_34 rfl (lv_at hl 2 rfl) ?_
      refine lv_bipush (v := 99) hx hb dX11_holds_35 (by decide) ?_
      refine lv_icmp_ge (tgt := 59) hx hb dX11_holds_37 (by decide) (fun c_11 => ?_) (fun c_11 => ?_)
      · have hf := hf.1 c_11
        refine lv_aload_n hx hb dX11_holds_59 rfl (lv_at hl 0 rfl) ?_
        refine z_mVv (Wn := (fun u_13 => cl_X11 cI cJ a u_13)) (As := []) (rest := []) (wr := []) X (c_X11_trialBack l dC dI cI cJ cS a z  _ hf _) zc_X11_trialBack q_ml_X11_314 ⟨rfl, rfl⟩ ⟨Nat.le_of_ble_eq_true rfl, Nat.le_of_ble_eq_true rfl⟩ hP hD hS hA [0, 1, 2, 3, 4, 5, 6, 7, 8] [] rfl (by decide) rfl (by decide) (by decide) [0, 1, 2, 3, 4, 5, 6, 7, 8] (by decide) (fun _ => rfl) 10 rfl rfl hl.1 rfl rfl (Nat.le_of_ble_eq_true rfl) ⟨Nat.zero_le _, Nat.zero_le _⟩ dX11_holds_60 (fun u_13 H locs hf hP hD hS => ?_)
        refine lv_iload_n hx hb dX11_holds_63 rfl (lv_at hl 2 rfl) ?_
        exact z_retMi (Wf := (fun z => cl_X11 cI cJ a z)) (u := u_13) X hf hP hD hS dX11_holds_64
      · have hf := hf.2 c_11
        refine lv_aload_n hx hb dX11_holds_40 rfl (lv_at hl 0 rfl) ?_
        refine lv_iload_n hx hb dX11_holds_41 rfl (lv_at hl 2 rfl) ?_
        refine lv_bipush (v := 64) hx hb dX11_holds_42 (by decide) ?_
        obtain ⟨hg, hf⟩ := hf
        refine lv_irem hx hb dX11_holds_44 hg ?_
        refine lv_iload_n hx hb dX11_holds_45 rfl (lv_at hl 1 rfl) ?_
        refine lv_iconst (v := 0) hx hb dX11_holds_46 (by decide) ?_
        refine z_mVi (Wn := (fun u_15 => cl_X11 cI cJ a u_15)) (As := [.int (y2 - y2 / (64 : Int32) * (64 : Int32)), .int x1, .int (0 : Int32)]) (rest := []) (wr := []) X (c_X11_put0 l dC dI cI cJ cS a z (y2 - y2 / (64 : Int32) * (64 : Int32)) x1 (0 : Int32) _ hf _) zc_X11_put0 q_ml_X11_193 ⟨rfl, rfl⟩ ⟨Nat.le_of_ble_eq_true rfl, Nat.le_of_ble_eq_true rfl⟩ hP hD hS hA [0, 1, 2, 3, 4, 5, 6, 7, 8] [] rfl (by decide) rfl (by decide) (by decide) [0, 1, 2, 3, 4, 5, 6, 7, 8] (by decide) (fun _ => rfl) 10 rfl rfl hl.1 rfl rfl (Nat.le_of_ble_eq_true rfl) ⟨Nat.zero_le _, Nat.zero_le _⟩ dX11_holds_47 (fun r_14 u_15 H locs hf hP hD hS => ?_)
        refine lv_if_ne (tgt := 59) hx hb dX11_holds_50 (by decide) (fun c_16 => ?_) (fun c_16 => ?_)
        · have hf := hf.1 c_16
          refine lv_aload_n hx hb dX11_holds_59 rfl (lv_at hl 0 rfl) ?_
          refine z_mVv (Wn := (fun u_18 => cl_X11 cI cJ a u_18)) (As := []) (rest := []) (wr := []) X (c_X11_trialBack l dC dI cI cJ cS a u_15  _ hf _) zc_X11_trialBack q_ml_X11_314 ⟨rfl, rfl⟩ ⟨Nat.le_of_ble_eq_true rfl, Nat.le_of_ble_eq_true rfl⟩ hP hD hS hA [0, 1, 2, 3, 4, 5, 6, 7, 8] [] rfl (by decide) rfl (by decide) (by decide) [0, 1, 2, 3, 4, 5, 6, 7, 8] (by decide) (fun _ => rfl) 10 rfl rfl hl.1 rfl rfl (Nat.le_of_ble_eq_true rfl) ⟨Nat.zero_le _, Nat.zero_le _⟩ dX11_holds_60 (fun u_18 H locs hf hP hD hS => ?_)
          refine lv_iload_n hx hb dX11_holds_63 rfl (lv_at hl 2 rfl) ?_
          exact z_retMi (Wf := (fun z => cl_X11 cI cJ a z)) (u := u_18) X hf hP hD hS dX11_holds_64
        · have hf := hf.2 c_16
          obtain ⟨x_19, ex_19⟩ : ∃ y : Int32, y = y2 + (1 : Int32) := ⟨_, rfl⟩
          have hf := hf x_19 ex_19
          refine lv_iinc (v := x_19) (lv' := [(2, .int x_19), (0, .ref (a 0)), (1, .int x1)]) hx hb dX11_holds_53 hl (k := 2) rfl (by rw [ex_19]; rfl) (by decide) rfl (fun ls hl => ?_)
          refine lv_goto (tgt := 34) hx hb dX11_holds_56 (by decide) ?_
          obtain ⟨k_20, hk_20, hf⟩ := hf
          exact (ih k_20 hk_20) _ u_15 _ _ ls hf hP hD hS (lv_sub hl [1, 2, 0] rfl)
  unfold t_X11_holds_e at hf
  refine lv_aload_n hx hb dX11_holds_0 rfl (lv_at hl 0 rfl) ?_
  refine lv_iload_n hx hb dX11_holds_1 rfl (lv_at hl 1 rfl) ?_
  refine lv_iconst (v := 1) hx hb dX11_holds_2 (by decide) ?_
  refine lv_bipush (v := 40) hx hb dX11_holds_3 (by decide) ?_
  refine z_cSi (As := [.int x1, .int (1 : Int32), .int (40 : Int32)]) (rest := [.ref (a 0)]) X (c_X11_isIn l dC dI cI cJ cS   x1 (1 : Int32) (40 : Int32) _ hf) zc_X11_isIn q_ml_X11_165 ⟨rfl, rfl⟩ ⟨Nat.le_of_ble_eq_true rfl, Nat.le_of_ble_eq_true rfl⟩ hP [] rfl hl.1 rfl rfl (Nat.le_of_ble_eq_true rfl) ⟨Nat.zero_le _, Nat.zero_le _⟩ dX11_holds_5 (fun r_1 hf => ?_)
  obtain ⟨hbr_1, hf⟩ := hf
  refine lv_if_eq (tgt := 15) hx hb dX11_holds_8 (by decide) (fun c_2 => ?_) (fun c_2 => ?_)
  · have hf := hf.1 c_2
    refine lv_iconst (v := 1) hx hb dX11_holds_15 (by decide) ?_
    refine z_put (w' := cl_X11 cI cJ a ((1 : Int32), u.2)) (ci := 10) (v := .int (1 : Int32)) (ty := .int) (Cn := RX11) (T := TX11) (N := 17) X inX11 tyX11 tyX11_ok nmX11 hP hD hS 0 rfl rfl 0 (by decide) (hts _ q_fl_X11_43) (fun _ h9 => h9) rfl (tyX11_ok 0 (by decide)) rfl rfl (Nat.le_of_ble_eq_true rfl) rfl dX11_holds_16 (fun H locs hP hD hS => ?_)
    refine lv_aload_n hx hb dX11_holds_19 rfl (lv_at hl 0 rfl) ?_
    refine va_get (D := (dC, dI)) (ci := 10) (v := .int (1 : Int32)) (C := RX11) (T := TX11) (N := 17) hx hb hts inX11 hown hK hP 0 rfl rfl 0 (by decide) (hts _ q_fl_X11_43) (fun _ h9 => h9) rfl dX11_holds_20 ?_
    refine lv_if_le (tgt := 28) hx hb dX11_holds_23 (by decide) (fun c_3 => ?_) (fun c_3 => ?_)
    · have hf := hf.1 c_3
      refine lv_aload_n hx hb dX11_holds_28 rfl (lv_at hl 0 rfl) ?_
      refine z_mVv (Wn := (fun u_5 => cl_X11 cI cJ a u_5)) (As := []) (rest := []) (wr := []) X (c_X11_keepsTrial l dC dI cI cJ cS a ((1 : Int32), u.2)  _ hf _) zc_X11_keepsTrial q_ml_X11_311 ⟨rfl, rfl⟩ ⟨Nat.le_of_ble_eq_true rfl, Nat.le_of_ble_eq_true rfl⟩ hP hD hS hA [0, 1, 2, 3, 4, 5, 6, 7, 8] [] rfl (by decide) rfl (by decide) (by decide) [0, 1, 2, 3, 4, 5, 6, 7, 8] (by decide) (fun _ => rfl) 10 rfl rfl hl.1 rfl rfl (Nat.le_of_ble_eq_true rfl) ⟨Nat.zero_le _, Nat.zero_le _⟩ dX11_holds_29 (fun u_5 H locs hf hP hD hS => ?_)
      refine lv_iconst (v := 0) hx hb dX11_holds_32 (by decide) ?_
      refine lv_istore_n (lv' := [(2, .int (0 : Int32)), (0, .ref (a 0)), (1, .int x1)]) hx hb dX11_holds_33 rfl hl (by decide) rfl (fun ls hl => ?_)
      obtain ⟨k_6, hf⟩ := hf
      exact (LP k_6) _ u_5 _ _ ls hf hP hD hS (lv_sub hl [1, 2, 0] rfl)
    · have hf := hf.2 c_3
      refine lv_iconst (v := 0) hx hb dX11_holds_26 (by decide) ?_
      exact z_retMi (Wf := (fun z => cl_X11 cI cJ a z)) (u := ((1 : Int32), u.2)) X hf hP hD hS dX11_holds_27
  · have hf := hf.2 c_2
    refine lv_iconst (v := 0) hx hb dX11_holds_11 (by decide) ?_
    refine lv_goto (tgt := 16) hx hb dX11_holds_12 (by decide) ?_
    refine z_put (w' := cl_X11 cI cJ a ((0 : Int32), u.2)) (ci := 10) (v := .int (0 : Int32)) (ty := .int) (Cn := RX11) (T := TX11) (N := 17) X inX11 tyX11 tyX11_ok nmX11 hP hD hS 0 rfl rfl 0 (by decide) (hts _ q_fl_X11_43) (fun _ h9 => h9) rfl (tyX11_ok 0 (by decide)) rfl rfl (Nat.le_of_ble_eq_true rfl) rfl dX11_holds_16 (fun H locs hP hD hS => ?_)
    refine lv_aload_n hx hb dX11_holds_19 rfl (lv_at hl 0 rfl) ?_
    refine va_get (D := (dC, dI)) (ci := 10) (v := .int (0 : Int32)) (C := RX11) (T := TX11) (N := 17) hx hb hts inX11 hown hK hP 0 rfl rfl 0 (by decide) (hts _ q_fl_X11_43) (fun _ h9 => h9) rfl dX11_holds_20 ?_
    refine lv_if_le (tgt := 28) hx hb dX11_holds_23 (by decide) (fun c_7 => ?_) (fun c_7 => ?_)
    · have hf := hf.1 c_7
      refine lv_aload_n hx hb dX11_holds_28 rfl (lv_at hl 0 rfl) ?_
      refine z_mVv (Wn := (fun u_9 => cl_X11 cI cJ a u_9)) (As := []) (rest := []) (wr := []) X (c_X11_keepsTrial l dC dI cI cJ cS a ((0 : Int32), u.2)  _ hf _) zc_X11_keepsTrial q_ml_X11_311 ⟨rfl, rfl⟩ ⟨Nat.le_of_ble_eq_true rfl, Nat.le_of_ble_eq_true rfl⟩ hP hD hS hA [0, 1, 2, 3, 4, 5, 6, 7, 8] [] rfl (by decide) rfl (by decide) (by decide) [0, 1, 2, 3, 4, 5, 6, 7, 8] (by decide) (fun _ => rfl) 10 rfl rfl hl.1 rfl rfl (Nat.le_of_ble_eq_true rfl) ⟨Nat.zero_le _, Nat.zero_le _⟩ dX11_holds_29 (fun u_9 H locs hf hP hD hS => ?_)
      refine lv_iconst (v := 0) hx hb dX11_holds_32 (by decide) ?_
      refine lv_istore_n (lv' := [(2, .int (0 : Int32)), (0, .ref (a 0)), (1, .int x1)]) hx hb dX11_holds_33 rfl hl (by decide) rfl (fun ls hl => ?_)
      obtain ⟨k_10, hf⟩ := hf
      exact (LP k_10) _ u_9 _ _ ls hf hP hD hS (lv_sub hl [1, 2, 0] rfl)
    · have hf := hf.2 c_7
      refine lv_iconst (v := 0) hx hb dX11_holds_26 (by decide) ?_
      exact z_retMi (Wf := (fun z => cl_X11 cI cJ a z)) (u := ((0 : Int32), u.2)) X hf hP hD hS dX11_holds_27
def s_X11_holds (u : zModel) (x1 : Int32) (Q : Int32 → zModel → Prop) : Prop := ∃ (B : Nat) (G : zG), okG B G ∧ B + 200 ≤ 400000 ∧ mG G u ∧ ∀ u' : zModel, mG G u' → u'.1 = (fHolds (gNow G) x1).1 → Q (fHolds (gNow G) x1).2 u'
theorem st_X11_holds {u : zModel} {x1 : Int32} {Q : Int32 → zModel → Prop} (h : s_X11_holds u x1 Q) : v_X11_holds u x1 Q := by
  obtain ⟨B0, G, hG, hB0, hm, hQ⟩ := h
  unfold fHolds at hQ
  by_cases c1 : inR x1 1 40
  · rw [if_pos c1] at hQ
    obtain ⟨ln, hl1, hl2, rfl, el⟩ := inR_n (a := 1) (b := 40) (by decide) (by decide) c1
    rw [el] at hQ
    have fin : ∀ (i : Nat) (tr : Nat → Int32), (∀ j, j < 5497 → tr j = u.2.1 j) → i = min 99 (uF (gNow G) (4 + ln)) → ∀ f : Nat → Int32, (∀ j, j < 5497 → f j = tr j) → Q (nI i) ((0 : Int32), f, u.2.2.1, tr, u.2.2.2.2) := fun i tr htr hi f hf => by
      have := hQ ((0 : Int32), f, u.2.2.1, tr, u.2.2.2.2) (mG_of (hG.1.same hm.now (fun j hj => (hf j hj).trans (htr j hj))) hm.r hm.2.2.2.2.2.2) rfl
      rw [hi]; exact this
    refine ⟨fun k y2 z => ∃ (i B : Nat) (x : zState) (mm tr : Nat → Int32), i ≤ 99 ∧ k = 99 - i ∧ y2 = nI i ∧ okB B x ∧ B + 2 * (99 - i) ≤ 400000 ∧ mRel x mm ∧ (∀ j, j < 5497 → tr j = u.2.1 j) ∧ z = ((0 : Int32), mm, u.2.2.1, tr, u.2.2.2.2) ∧ uF (gNow G) (4 + ln) = i + uF x (4 + ln), ?_, ?_⟩
    · rintro k y2 z ⟨i, B, x, mm, tr, hi, rfl, rfl, hx, hB, hr, htr, rfl, eF⟩
      obtain ⟨ρ, β, mo, lm, L, S, M, hP⟩ := id hx
      refine ⟨fun c f hf => ?_, fun c => ?_⟩
      · have : i = 99 := by
          have := (nI_leI (a := 99) (b := i) (by decide) (by omega)).mp c
          omega
        subst this
        exact fin 99 tr htr (by omega) f hf
      · have hi : i < 99 := by
          have : ¬ 99 ≤ i := fun q => c (nI_le (a := 99) q (by omega))
          omega
        have e64 : nI i - nI i / (64 : Int32) * (64 : Int32) = nI (i % 64) := fa_rem (k := 6) (by omega) (by decide)
        rw [e64]
        obtain ⟨s1, s2⟩ := hold_step (k := i % 64) (sd := 0) hP hl2
        refine ⟨by decide, x, ρ, β, mo, lm, L, S, M, B, i % 64, ln, 0, hP, by omega, Nat.mod_lt _ (by omega), hl1, hl2, by omega, rfl, rfl, rfl, hr, fun hf m' hm' => ⟨fun q => absurd rfl q, fun _ y ey => ?_⟩, fun hf => ⟨fun _ f hf' => ?_, fun q => absurd q (by decide)⟩⟩
        · obtain ⟨S', M', h2⟩ := zPr.put (k := i % 64) (sd := 0) hP (by omega) (Nat.mod_lt _ (by omega)) hl2 (by omega) hf
          have := s2 hf
          exact ⟨99 - (i + 1), by omega, i + 1, B + 2, uPut x (i % 64) ln 0, m', tr, by omega, rfl, by rw [ey, nI_1], ⟨ρ, β, mo, lm, L + 1, S', M', h2⟩, by omega, hm', htr, rfl, by omega⟩
        · have hz : ¬ 0 < uF x (4 + ln) := fun q => by
            rw [s1.mpr q] at hf
            exact absurd hf (by decide)
          exact fin i tr htr (by omega) f hf'
    · refine isIn_of (fun _ => ⟨fun q => absurd q (by decide), fun _ => ⟨fun _ tr htr => ?_, fun q => absurd (by decide) q⟩⟩) (fun q => absurd c1 q)
      exact ⟨99 - 0, 0, B0, gNow G, u.2.1, tr, by omega, rfl, rfl, hG.1, by omega, hm.now, htr, rfl, by omega⟩
  · rw [if_neg c1] at hQ
    exact ⟨fun _ _ _ => False, fun _ _ _ q => q.elim, isIn_of (fun q => absurd q c1) (fun _ => ⟨fun _ => ⟨fun q => absurd q (by decide), fun _ => hQ _ (hm.th 1) rfl⟩, fun q => absurd rfl q⟩)⟩
theorem c_X11_holds (l : Launch) (dC : Nat → ClassId) (dI : Nat → Nat → Nat) (cI cJ cS : ClassId) (a : Nat → Nat) (u : zModel) (x1 : Int32) (Q : Int32 → zModel → Prop) (hf : s_X11_holds u x1 Q) : ∀ sz : Nat, Met l yX11_holds (Cond.code yX11_holds cX11_holds 3 (some .int) :: zT) rm_X11_holds (zPm dC dI cI cJ cS (cl_X11 cI cJ a u) [.ref (a 0), .int x1] sz) (va_Qi Q (zB dC dI cI cJ cS (va_A (cl_X11 cI cJ a u) sz) (fun z => cl_X11 cI cJ a z)) (va_A (cl_X11 cI cJ a u) sz)) 0 0 (va_A (cl_X11 cI cJ a u) sz) := by
  obtain ⟨I34, h34, hf⟩ := st_X11_holds hf
  exact L_X11_holds l dC dI cI cJ cS a u x1 Q I34 h34 hf

def t_X11_count (u : zModel) (x1 : Int32) (Q : Int32 → zModel → Prop) : Prop := ((x1 = (0 : Int32) → vp_in (0 : Int32) 5497 ∧ Q (u.2.1 (0 : Int32).toNatClampNeg) ((0 : Int32), u.2)) ∧ (¬ x1 = (0 : Int32) → ((x1 = (1 : Int32) → vp_in (1 : Int32) 5497 ∧ Q (u.2.1 (1 : Int32).toNatClampNeg) ((0 : Int32), u.2)) ∧ (¬ x1 = (1 : Int32) → ((x1 = (2 : Int32) → vp_in (2 : Int32) 5497 ∧ Q (u.2.1 (2 : Int32).toNatClampNeg) ((0 : Int32), u.2)) ∧ (¬ x1 = (2 : Int32) → ((x1 = (3 : Int32) → vp_in (3 : Int32) 5497 ∧ Q (u.2.1 (3 : Int32).toNatClampNeg) ((0 : Int32), u.2)) ∧ (¬ x1 = (3 : Int32) → ((x1 = (4 : Int32) → vp_in (4 : Int32) 5497 ∧ Q (u.2.1 (4 : Int32).toNatClampNeg) ((0 : Int32), u.2)) ∧ (¬ x1 = (4 : Int32) → ((x1 = (5 : Int32) → s_X11_entries ((0 : Int32), u.2) (0 : Int32) (fun r_7 : Int32 => Q r_7 ((0 : Int32), u.2))) ∧ (¬ x1 = (5 : Int32) → ((x1 = (6 : Int32) → s_X11_valuesBelow ((0 : Int32), u.2) (64 : Int32) (fun r_9 : Int32 => Q r_9 ((0 : Int32), u.2))) ∧ (¬ x1 = (6 : Int32) → ((x1 = (7 : Int32) → vp_in (5 : Int32) 5497 ∧ Q (u.2.1 (5 : Int32).toNatClampNeg) ((0 : Int32), u.2)) ∧ (¬ x1 = (7 : Int32) → ((x1 = (8 : Int32) → vp_in (6 : Int32) 5497 ∧ Q (u.2.1 (6 : Int32).toNatClampNeg) ((0 : Int32), u.2)) ∧ (¬ x1 = (8 : Int32) → ((x1 = (9 : Int32) → vp_in (7 : Int32) 5497 ∧ Q (u.2.1 (7 : Int32).toNatClampNeg) ((0 : Int32), u.2)) ∧ (¬ x1 = (9 : Int32) → ((x1 = (10 : Int32) → s_X11_freeOnes ((0 : Int32), u.2) (fun r_14 : Int32 => Q r_14 ((0 : Int32), u.2))) ∧ (¬ x1 = (10 : Int32) → ((x1 = (11 : Int32) → s_X11_openOne ((0 : Int32), u.2) (fun r_16 : Int32 => Q r_16 ((0 : Int32), u.2))) ∧ (¬ x1 = (11 : Int32) → ((x1 = (12 : Int32) → s_X11_liveInAll ((0 : Int32), u.2) (1 : Int32) (fun r_18 : Int32 => Q r_18 ((0 : Int32), u.2))) ∧ (¬ x1 = (12 : Int32) → ((x1 = (13 : Int32) → s_X11_liveInAll ((0 : Int32), u.2) (0 : Int32) (fun r_20 : Int32 => Q r_20 ((0 : Int32), u.2))) ∧ (¬ x1 = (13 : Int32) → ((x1 = (14 : Int32) → vp_in (8 : Int32) 5497 ∧ Q (u.2.1 (8 : Int32).toNatClampNeg) ((0 : Int32), u.2)) ∧ (¬ x1 = (14 : Int32) → ((x1 = (15 : Int32) → s_X11_left ((0 : Int32), u.2) (fun r_23 : Int32 => Q r_23 ((0 : Int32), u.2))) ∧ (¬ x1 = (15 : Int32) → ((x1 = (16 : Int32) → vp_in (11 : Int32) 5497 ∧ Q (u.2.1 (11 : Int32).toNatClampNeg) ((0 : Int32), u.2)) ∧ (¬ x1 = (16 : Int32) → ((x1 = (17 : Int32) → vp_in (12 : Int32) 5497 ∧ Q (u.2.1 (12 : Int32).toNatClampNeg) ((0 : Int32), u.2)) ∧ (¬ x1 = (17 : Int32) → ((x1 = (18 : Int32) → vp_in (13 : Int32) 5497 ∧ Q (u.2.1 (13 : Int32).toNatClampNeg) ((0 : Int32), u.2)) ∧ (¬ x1 = (18 : Int32) → ((x1 = (19 : Int32) → vp_in (14 : Int32) 5497 ∧ Q (u.2.1 (14 : Int32).toNatClampNeg) ((0 : Int32), u.2)) ∧ (¬ x1 = (19 : Int32) → ((x1 = (20 : Int32) → vp_in (15 : Int32) 5497 ∧ ((¬ (u.2.1 (15 : Int32).toNatClampNeg) = 0 → vp_in (13 : Int32) 5497 ∧ vp_in (15 : Int32) 5497 ∧ (¬ (u.2.1 (15 : Int32).toNatClampNeg) = 0) ∧ Q (((100 : Int32) * (u.2.1 (13 : Int32).toNatClampNeg)) / (u.2.1 (15 : Int32).toNatClampNeg)) ((0 : Int32), u.2)) ∧ ((u.2.1 (15 : Int32).toNatClampNeg) = 0 → Q (100 : Int32) ((0 : Int32), u.2)))) ∧ (¬ x1 = (20 : Int32) → ((x1 = (21 : Int32) → s_X11_doomed ((0 : Int32), u.2) (fun (r_31 : Int32) (u_32 : zModel) => Q r_31 u_32)) ∧ (¬ x1 = (21 : Int32) → ((x1 = (22 : Int32) → s_X11_spare ((0 : Int32), u.2) (fun r_34 : Int32 => Q r_34 ((0 : Int32), u.2))) ∧ (¬ x1 = (22 : Int32) → ((x1 = (23 : Int32) → s_X11_poorest ((0 : Int32), u.2) (fun r_36 : Int32 => Q r_36 ((0 : Int32), u.2))) ∧ (¬ x1 = (23 : Int32) → ((x1 = (24 : Int32) → s_X11_heaviest ((0 : Int32), u.2) (fun r_38 : Int32 => Q r_38 ((0 : Int32), u.2))) ∧ (¬ x1 = (24 : Int32) → ((x1 = (25 : Int32) → Q u.2.2.2.2.2.2.1 ((0 : Int32), u.2)) ∧ (¬ x1 = (25 : Int32) → ((x1 = (26 : Int32) → vp_in (5406 : Int32) 5497 ∧ Q (u.2.1 (5406 : Int32).toNatClampNeg) ((0 : Int32), u.2)) ∧ (¬ x1 = (26 : Int32) → ((x1 = (27 : Int32) → s_X11_replay ((0 : Int32), u.2) (fun r_42 : Int32 => Q r_42 ((0 : Int32), u.2))) ∧ (¬ x1 = (27 : Int32) → Q (-1 : Int32) ((0 : Int32), u.2)))))))))))))))))))))))))))))))))))))))))))))))))))))))))
theorem zc_X11_count : zCalV RX11 yX11_count cX11_count 2 (some .int) 1 := ⟨q_im_X11_count, q_se_X11_count, q_in_X11, q_cd_X11_count, ⟨by decide, by decide, by decide +kernel⟩, rfl⟩
abbrev rm_X11_count : Room := { frames := 8, cells := 0, slots := 0, locals := 175 }
set_option maxHeartbeats 4000000 in
set_option maxRecDepth 100000 in
theorem L_X11_count (l : Launch) (dC : Nat → ClassId) (dI : Nat → Nat → Nat) (cI cJ cS : ClassId) (a : Nat → Nat) (u : zModel) (x1 : Int32) (Q : Int32 → zModel → Prop) (hf : t_X11_count u x1 Q) : ∀ sz : Nat, Met l yX11_count (Cond.code yX11_count cX11_count 2 (some .int) :: zT) rm_X11_count (zPm dC dI cI cJ cS (cl_X11 cI cJ a u) [.ref (a 0), .int x1] sz) (va_Qi Q (zB dC dI cI cJ cS (va_A (cl_X11 cI cJ a u) sz) (fun z => cl_X11 cI cJ a z)) (va_A (cl_X11 cI cJ a u) sz)) 0 0 (va_A (cl_X11 cI cJ a u) sz) := by
  intro sz
  refine z_enterM (Qc := fun A => va_Qi Q (zB dC dI cI cJ cS A (fun z => cl_X11 cI cJ a z)) A) (cc := cX11_count) (maxL := 2) (ret := (some .int)) (by decide) (Nat.le_of_ble_eq_true rfl) ?_
  intro p e s m below meth c ls A X hP hD hS hA hl
  obtain ⟨⟨hx, hb, hml, hown, hts⟩, hr, hlk, hK⟩ := id X
  have hl : lv_has ls 2 [(0, .ref (a 0)), (1, .int x1)] := hl
  unfold t_X11_count at hf
  refine lv_aload_n hx hb dX11_count_0 rfl (lv_at hl 0 rfl) ?_
  refine lv_iconst (v := 0) hx hb dX11_count_1 (by decide) ?_
  refine z_put (w' := cl_X11 cI cJ a ((0 : Int32), u.2)) (ci := 10) (v := .int (0 : Int32)) (ty := .int) (Cn := RX11) (T := TX11) (N := 17) X inX11 tyX11 tyX11_ok nmX11 hP hD hS 0 rfl rfl 0 (by decide) (hts _ q_fl_X11_43) (fun _ h9 => h9) rfl (tyX11_ok 0 (by decide)) rfl rfl (Nat.le_of_ble_eq_true rfl) rfl dX11_count_2 (fun H locs hP hD hS => ?_)
  refine lv_iload_n hx hb dX11_count_5 rfl (lv_at hl 1 rfl) ?_
  by_cases c_1 : x1 = (0 : Int32)
  · have hf := hf.1 c_1
    refine lv_tableIn (off := 126) (tgt := 132) hx hb dX11_count_6 (by rw [c_1]; decide) (by rw [c_1]; decide) (by rw [c_1]; decide) (by decide) ?_
    refine lv_aload_n hx hb dX11_count_132 rfl (lv_at hl 0 rfl) ?_
    refine va_get (D := (dC, dI)) (ci := 10) (v := .ref (a 1)) (C := RX11) (T := TX11) (N := 17) hx hb hts inX11 hown hK hP 0 rfl rfl 1 (by decide) (hts _ q_fl_X11_7) (fun _ h9 => h9) rfl dX11_count_133 ?_
    refine lv_iconst (v := 0) hx hb dX11_count_136 (by decide) ?_
    obtain ⟨hg, hf⟩ := hf
    refine va_iald hx hb hK hP 1 0 rfl rfl hg dX11_count_137 ?_
    exact z_retMi (Wf := (fun z => cl_X11 cI cJ a z)) (u := ((0 : Int32), u.2)) X hf hP hD hS dX11_count_138
  have hf := hf.2 c_1
  by_cases c_2 : x1 = (1 : Int32)
  · have hf := hf.1 c_2
    refine lv_tableIn (off := 133) (tgt := 139) hx hb dX11_count_6 (by rw [c_2]; decide) (by rw [c_2]; decide) (by rw [c_2]; decide) (by decide) ?_
    refine lv_aload_n hx hb dX11_count_139 rfl (lv_at hl 0 rfl) ?_
    refine va_get (D := (dC, dI)) (ci := 10) (v := .ref (a 1)) (C := RX11) (T := TX11) (N := 17) hx hb hts inX11 hown hK hP 0 rfl rfl 1 (by decide) (hts _ q_fl_X11_7) (fun _ h9 => h9) rfl dX11_count_140 ?_
    refine lv_iconst (v := 1) hx hb dX11_count_143 (by decide) ?_
    obtain ⟨hg, hf⟩ := hf
    refine va_iald hx hb hK hP 1 0 rfl rfl hg dX11_count_144 ?_
    exact z_retMi (Wf := (fun z => cl_X11 cI cJ a z)) (u := ((0 : Int32), u.2)) X hf hP hD hS dX11_count_145
  have hf := hf.2 c_2
  by_cases c_3 : x1 = (2 : Int32)
  · have hf := hf.1 c_3
    refine lv_tableIn (off := 140) (tgt := 146) hx hb dX11_count_6 (by rw [c_3]; decide) (by rw [c_3]; decide) (by rw [c_3]; decide) (by decide) ?_
    refine lv_aload_n hx hb dX11_count_146 rfl (lv_at hl 0 rfl) ?_
    refine va_get (D := (dC, dI)) (ci := 10) (v := .ref (a 1)) (C := RX11) (T := TX11) (N := 17) hx hb hts inX11 hown hK hP 0 rfl rfl 1 (by decide) (hts _ q_fl_X11_7) (fun _ h9 => h9) rfl dX11_count_147 ?_
    refine lv_iconst (v := 2) hx hb dX11_count_150 (by decide) ?_
    obtain ⟨hg, hf⟩ := hf
    refine va_iald hx hb hK hP 1 0 rfl rfl hg dX11_count_151 ?_
    exact z_retMi (Wf := (fun z => cl_X11 cI cJ a z)) (u := ((0 : Int32), u.2)) X hf hP hD hS dX11_count_152
  have hf := hf.2 c_3
  by_cases c_4 : x1 = (3 : Int32)
  · have hf := hf.1 c_4
    refine lv_tableIn (off := 147) (tgt := 153) hx hb dX11_count_6 (by rw [c_4]; decide) (by rw [c_4]; decide) (by rw [c_4]; decide) (by decide) ?_
    refine lv_aload_n hx hb dX11_count_153 rfl (lv_at hl 0 rfl) ?_
    refine va_get (D := (dC, dI)) (ci := 10) (v := .ref (a 1)) (C := RX11) (T := TX11) (N := 17) hx hb hts inX11 hown hK hP 0 rfl rfl 1 (by decide) (hts _ q_fl_X11_7) (fun _ h9 => h9) rfl dX11_count_154 ?_
    refine lv_iconst (v := 3) hx hb dX11_count_157 (by decide) ?_
    obtain ⟨hg, hf⟩ := hf
    refine va_iald hx hb hK hP 1 0 rfl rfl hg dX11_count_158 ?_
    exact z_retMi (Wf := (fun z => cl_X11 cI cJ a z)) (u := ((0 : Int32), u.2)) X hf hP hD hS dX11_count_159
  have hf := hf.2 c_4
  by_cases c_5 : x1 = (4 : Int32)
  · have hf := hf.1 c_5
    refine lv_tableIn (off := 154) (tgt := 160) hx hb dX11_count_6 (by rw [c_5]; decide) (by rw [c_5]; decide) (by rw [c_5]; decide) (by decide) ?_
    refine lv_aload_n hx hb dX11_count_160 rfl (lv_at hl 0 rfl) ?_
    refine va_get (D := (dC, dI)) (ci := 10) (v := .ref (a 1)) (C := RX11) (T := TX11) (N := 17) hx hb hts inX11 hown hK hP 0 rfl rfl 1 (by decide) (hts _ q_fl_X11_7) (fun _ h9 => h9) rfl dX11_count_161 ?_
    refine lv_iconst (v := 4) hx hb dX11_count_164 (by decide) ?_
    obtain ⟨hg, hf⟩ := hf
    refine va_iald hx hb hK hP 1 0 rfl rfl hg dX11_count_165 ?_
    exact z_retMi (Wf := (fun z => cl_X11 cI cJ a z)) (u := ((0 : Int32), u.2)) X hf hP hD hS dX11_count_166
  have hf := hf.2 c_5
  by_cases c_6 : x1 = (5 : Int32)
  · have hf := hf.1 c_6
    refine lv_tableIn (off := 161) (tgt := 167) hx hb dX11_count_6 (by rw [c_6]; decide) (by rw [c_6]; decide) (by rw [c_6]; decide) (by decide) ?_
    refine lv_aload_n hx hb dX11_count_167 rfl (lv_at hl 0 rfl) ?_
    refine lv_iconst (v := 0) hx hb dX11_count_168 (by decide) ?_
    refine z_cVi (As := [.int (0 : Int32)]) (rest := []) X (c_X11_entries l dC dI cI cJ cS a ((0 : Int32), u.2) (0 : Int32) _ hf) zc_X11_entries q_ml_X11_108 ⟨rfl, rfl⟩ ⟨Nat.le_of_ble_eq_true rfl, Nat.le_of_ble_eq_true rfl⟩ hP [0, 1, 2, 3, 4, 5, 6, 7, 8] rfl 10 rfl rfl hl.1 rfl rfl (Nat.le_of_ble_eq_true rfl) ⟨Nat.zero_le _, Nat.zero_le _⟩ dX11_count_169 (fun r_7 hf => ?_)
    exact z_retMi (Wf := (fun z => cl_X11 cI cJ a z)) (u := ((0 : Int32), u.2)) X hf hP hD hS dX11_count_172
  have hf := hf.2 c_6
  by_cases c_8 : x1 = (6 : Int32)
  · have hf := hf.1 c_8
    refine lv_tableIn (off := 167) (tgt := 173) hx hb dX11_count_6 (by rw [c_8]; decide) (by rw [c_8]; decide) (by rw [c_8]; decide) (by decide) ?_
    refine lv_aload_n hx hb dX11_count_173 rfl (lv_at hl 0 rfl) ?_
    refine lv_bipush (v := 64) hx hb dX11_count_174 (by decide) ?_
    refine z_cVi (As := [.int (64 : Int32)]) (rest := []) X (c_X11_valuesBelow l dC dI cI cJ cS a ((0 : Int32), u.2) (64 : Int32) _ hf) zc_X11_valuesBelow q_ml_X11_287 ⟨rfl, rfl⟩ ⟨Nat.le_of_ble_eq_true rfl, Nat.le_of_ble_eq_true rfl⟩ hP [0, 1, 2, 3, 4, 5, 6, 7, 8] rfl 10 rfl rfl hl.1 rfl rfl (Nat.le_of_ble_eq_true rfl) ⟨Nat.zero_le _, Nat.zero_le _⟩ dX11_count_176 (fun r_9 hf => ?_)
    exact z_retMi (Wf := (fun z => cl_X11 cI cJ a z)) (u := ((0 : Int32), u.2)) X hf hP hD hS dX11_count_179
  have hf := hf.2 c_8
  by_cases c_10 : x1 = (7 : Int32)
  · have hf := hf.1 c_10
    refine lv_tableIn (off := 174) (tgt := 180) hx hb dX11_count_6 (by rw [c_10]; decide) (by rw [c_10]; decide) (by rw [c_10]; decide) (by decide) ?_
    refine lv_aload_n hx hb dX11_count_180 rfl (lv_at hl 0 rfl) ?_
    refine va_get (D := (dC, dI)) (ci := 10) (v := .ref (a 1)) (C := RX11) (T := TX11) (N := 17) hx hb hts inX11 hown hK hP 0 rfl rfl 1 (by decide) (hts _ q_fl_X11_7) (fun _ h9 => h9) rfl dX11_count_181 ?_
    refine lv_iconst (v := 5) hx hb dX11_count_184 (by decide) ?_
    obtain ⟨hg, hf⟩ := hf
    refine va_iald hx hb hK hP 1 0 rfl rfl hg dX11_count_185 ?_
    exact z_retMi (Wf := (fun z => cl_X11 cI cJ a z)) (u := ((0 : Int32), u.2)) X hf hP hD hS dX11_count_186
  have hf := hf.2 c_10
  by_cases c_11 : x1 = (8 : Int32)
  · have hf := hf.1 c_11
    refine lv_tableIn (off := 181) (tgt := 187) hx hb dX11_count_6 (by rw [c_11]; decide) (by rw [c_11]; decide) (by rw [c_11]; decide) (by decide) ?_
    refine lv_aload_n hx hb dX11_count_187 rfl (lv_at hl 0 rfl) ?_
    refine va_get (D := (dC, dI)) (ci := 10) (v := .ref (a 1)) (C := RX11) (T := TX11) (N := 17) hx hb hts inX11 hown hK hP 0 rfl rfl 1 (by decide) (hts _ q_fl_X11_7) (fun _ h9 => h9) rfl dX11_count_188 ?_
    refine lv_bipush (v := 6) hx hb dX11_count_191 (by decide) ?_
    obtain ⟨hg, hf⟩ := hf
    refine va_iald hx hb hK hP 1 0 rfl rfl hg dX11_count_193 ?_
    exact z_retMi (Wf := (fun z => cl_X11 cI cJ a z)) (u := ((0 : Int32), u.2)) X hf hP hD hS dX11_count_194
  have hf := hf.2 c_11
  by_cases c_12 : x1 = (9 : Int32)
  · have hf := hf.1 c_12
    refine lv_tableIn (off := 189) (tgt := 195) hx hb dX11_count_6 (by rw [c_12]; decide) (by rw [c_12]; decide) (by rw [c_12]; decide) (by decide) ?_
    refine lv_aload_n hx hb dX11_count_195 rfl (lv_at hl 0 rfl) ?_
    refine va_get (D := (dC, dI)) (ci := 10) (v := .ref (a 1)) (C := RX11) (T := TX11) (N := 17) hx hb hts inX11 hown hK hP 0 rfl rfl 1 (by decide) (hts _ q_fl_X11_7) (fun _ h9 => h9) rfl dX11_count_196 ?_
    refine lv_bipush (v := 7) hx hb dX11_count_199 (by decide) ?_
    obtain ⟨hg, hf⟩ := hf
    refine va_iald hx hb hK hP 1 0 rfl rfl hg dX11_count_201 ?_
    exact z_retMi (Wf := (fun z => cl_X11 cI cJ a z)) (u := ((0 : Int32), u.2)) X hf hP hD hS dX11_count_202
  have hf := hf.2 c_12
  by_cases c_13 : x1 = (10 : Int32)
  · have hf := hf.1 c_13
    refine lv_tableIn (off := 197) (tgt := 203) hx hb dX11_count_6 (by rw [c_13]; decide) (by rw [c_13]; decide) (by rw [c_13]; decide) (by decide) ?_
    refine lv_aload_n hx hb dX11_count_203 rfl (lv_at hl 0 rfl) ?_
    refine z_cVi (As := []) (rest := []) X (c_X11_freeOnes l dC dI cI cJ cS a ((0 : Int32), u.2)  _ hf) zc_X11_freeOnes q_ml_X11_60 ⟨rfl, rfl⟩ ⟨Nat.le_of_ble_eq_true rfl, Nat.le_of_ble_eq_true rfl⟩ hP [0, 1, 2, 3, 4, 5, 6, 7, 8] rfl 10 rfl rfl hl.1 rfl rfl (Nat.le_of_ble_eq_true rfl) ⟨Nat.zero_le _, Nat.zero_le _⟩ dX11_count_204 (fun r_14 hf => ?_)
    exact z_retMi (Wf := (fun z => cl_X11 cI cJ a z)) (u := ((0 : Int32), u.2)) X hf hP hD hS dX11_count_207
  have hf := hf.2 c_13
  by_cases c_15 : x1 = (11 : Int32)
  · have hf := hf.1 c_15
    refine lv_tableIn (off := 202) (tgt := 208) hx hb dX11_count_6 (by rw [c_15]; decide) (by rw [c_15]; decide) (by rw [c_15]; decide) (by decide) ?_
    refine lv_aload_n hx hb dX11_count_208 rfl (lv_at hl 0 rfl) ?_
    refine z_cVi (As := []) (rest := []) X (c_X11_openOne l dC dI cI cJ cS a ((0 : Int32), u.2)  _ hf) zc_X11_openOne q_ml_X11_56 ⟨rfl, rfl⟩ ⟨Nat.le_of_ble_eq_true rfl, Nat.le_of_ble_eq_true rfl⟩ hP [0, 1, 2, 3, 4, 5, 6, 7, 8] rfl 10 rfl rfl hl.1 rfl rfl (Nat.le_of_ble_eq_true rfl) ⟨Nat.zero_le _, Nat.zero_le _⟩ dX11_count_209 (fun r_16 hf => ?_)
    exact z_retMi (Wf := (fun z => cl_X11 cI cJ a z)) (u := ((0 : Int32), u.2)) X hf hP hD hS dX11_count_212
  have hf := hf.2 c_15
  by_cases c_17 : x1 = (12 : Int32)
  · have hf := hf.1 c_17
    refine lv_tableIn (off := 207) (tgt := 213) hx hb dX11_count_6 (by rw [c_17]; decide) (by rw [c_17]; decide) (by rw [c_17]; decide) (by decide) ?_
    refine lv_aload_n hx hb dX11_count_213 rfl (lv_at hl 0 rfl) ?_
    refine lv_iconst (v := 1) hx hb dX11_count_214 (by decide) ?_
    refine z_cVi (As := [.int (1 : Int32)]) (rest := []) X (c_X11_liveInAll l dC dI cI cJ cS a ((0 : Int32), u.2) (1 : Int32) _ hf) zc_X11_liveInAll q_ml_X11_323 ⟨rfl, rfl⟩ ⟨Nat.le_of_ble_eq_true rfl, Nat.le_of_ble_eq_true rfl⟩ hP [0, 1, 2, 3, 4, 5, 6, 7, 8] rfl 10 rfl rfl hl.1 rfl rfl (Nat.le_of_ble_eq_true rfl) ⟨Nat.zero_le _, Nat.zero_le _⟩ dX11_count_215 (fun r_18 hf => ?_)
    exact z_retMi (Wf := (fun z => cl_X11 cI cJ a z)) (u := ((0 : Int32), u.2)) X hf hP hD hS dX11_count_218
  have hf := hf.2 c_17
  by_cases c_19 : x1 = (13 : Int32)
  · have hf := hf.1 c_19
    refine lv_tableIn (off := 213) (tgt := 219) hx hb dX11_count_6 (by rw [c_19]; decide) (by rw [c_19]; decide) (by rw [c_19]; decide) (by decide) ?_
    refine lv_aload_n hx hb dX11_count_219 rfl (lv_at hl 0 rfl) ?_
    refine lv_iconst (v := 0) hx hb dX11_count_220 (by decide) ?_
    refine z_cVi (As := [.int (0 : Int32)]) (rest := []) X (c_X11_liveInAll l dC dI cI cJ cS a ((0 : Int32), u.2) (0 : Int32) _ hf) zc_X11_liveInAll q_ml_X11_323 ⟨rfl, rfl⟩ ⟨Nat.le_of_ble_eq_true rfl, Nat.le_of_ble_eq_true rfl⟩ hP [0, 1, 2, 3, 4, 5, 6, 7, 8] rfl 10 rfl rfl hl.1 rfl rfl (Nat.le_of_ble_eq_true rfl) ⟨Nat.zero_le _, Nat.zero_le _⟩ dX11_count_221 (fun r_20 hf => ?_)
    exact z_retMi (Wf := (fun z => cl_X11 cI cJ a z)) (u := ((0 : Int32), u.2)) X hf hP hD hS dX11_count_224
  have hf := hf.2 c_19
  by_cases c_21 : x1 = (14 : Int32)
  · have hf := hf.1 c_21
    refine lv_tableIn (off := 219) (tgt := 225) hx hb dX11_count_6 (by rw [c_21]; decide) (by rw [c_21]; decide) (by rw [c_21]; decide) (by decide) ?_
    refine lv_aload_n hx hb dX11_count_225 rfl (lv_at hl 0 rfl) ?_
    refine va_get (D := (dC, dI)) (ci := 10) (v := .ref (a 1)) (C := RX11) (T := TX11) (N := 17) hx hb hts inX11 hown hK hP 0 rfl rfl 1 (by decide) (hts _ q_fl_X11_7) (fun _ h9 => h9) rfl dX11_count_226 ?_
    refine lv_bipush (v := 8) hx hb dX11_count_229 (by decide) ?_
    obtain ⟨hg, hf⟩ := hf
    refine va_iald hx hb hK hP 1 0 rfl rfl hg dX11_count_231 ?_
    exact z_retMi (Wf := (fun z => cl_X11 cI cJ a z)) (u := ((0 : Int32), u.2)) X hf hP hD hS dX11_count_232
  have hf := hf.2 c_21
  by_cases c_22 : x1 = (15 : Int32)
  · have hf := hf.1 c_22
    refine lv_tableIn (off := 227) (tgt := 233) hx hb dX11_count_6 (by rw [c_22]; decide) (by rw [c_22]; decide) (by rw [c_22]; decide) (by decide) ?_
    refine lv_aload_n hx hb dX11_count_233 rfl (lv_at hl 0 rfl) ?_
    refine z_cVi (As := []) (rest := []) X (c_X11_left l dC dI cI cJ cS a ((0 : Int32), u.2)  _ hf) zc_X11_left q_ml_X11_140 ⟨rfl, rfl⟩ ⟨Nat.le_of_ble_eq_true rfl, Nat.le_of_ble_eq_true rfl⟩ hP [0, 1, 2, 3, 4, 5, 6, 7, 8] rfl 10 rfl rfl hl.1 rfl rfl (Nat.le_of_ble_eq_true rfl) ⟨Nat.zero_le _, Nat.zero_le _⟩ dX11_count_234 (fun r_23 hf => ?_)
    exact z_retMi (Wf := (fun z => cl_X11 cI cJ a z)) (u := ((0 : Int32), u.2)) X hf hP hD hS dX11_count_237
  have hf := hf.2 c_22
  by_cases c_24 : x1 = (16 : Int32)
  · have hf := hf.1 c_24
    refine lv_tableIn (off := 232) (tgt := 238) hx hb dX11_count_6 (by rw [c_24]; decide) (by rw [c_24]; decide) (by rw [c_24]; decide) (by decide) ?_
    refine lv_aload_n hx hb dX11_count_238 rfl (lv_at hl 0 rfl) ?_
    refine va_get (D := (dC, dI)) (ci := 10) (v := .ref (a 1)) (C := RX11) (T := TX11) (N := 17) hx hb hts inX11 hown hK hP 0 rfl rfl 1 (by decide) (hts _ q_fl_X11_7) (fun _ h9 => h9) rfl dX11_count_239 ?_
    refine lv_bipush (v := 11) hx hb dX11_count_242 (by decide) ?_
    obtain ⟨hg, hf⟩ := hf
    refine va_iald hx hb hK hP 1 0 rfl rfl hg dX11_count_244 ?_
    exact z_retMi (Wf := (fun z => cl_X11 cI cJ a z)) (u := ((0 : Int32), u.2)) X hf hP hD hS dX11_count_245
  have hf := hf.2 c_24
  by_cases c_25 : x1 = (17 : Int32)
  · have hf := hf.1 c_25
    refine lv_tableIn (off := 240) (tgt := 246) hx hb dX11_count_6 (by rw [c_25]; decide) (by rw [c_25]; decide) (by rw [c_25]; decide) (by decide) ?_
    refine lv_aload_n hx hb dX11_count_246 rfl (lv_at hl 0 rfl) ?_
    refine va_get (D := (dC, dI)) (ci := 10) (v := .ref (a 1)) (C := RX11) (T := TX11) (N := 17) hx hb hts inX11 hown hK hP 0 rfl rfl 1 (by decide) (hts _ q_fl_X11_7) (fun _ h9 => h9) rfl dX11_count_247 ?_
    refine lv_bipush (v := 12) hx hb dX11_count_250 (by decide) ?_
    obtain ⟨hg, hf⟩ := hf
    refine va_iald hx hb hK hP 1 0 rfl rfl hg dX11_count_252 ?_
    exact z_retMi (Wf := (fun z => cl_X11 cI cJ a z)) (u := ((0 : Int32), u.2)) X hf hP hD hS dX11_count_253
  have hf := hf.2 c_25
  by_cases c_26 : x1 = (18 : Int32)
  · have hf := hf.1 c_26
    refine lv_tableIn (off := 248) (tgt := 254) hx hb dX11_count_6 (by rw [c_26]; decide) (by rw [c_26]; decide) (by rw [c_26]; decide) (by decide) ?_
    refine lv_aload_n hx hb dX11_count_254 rfl (lv_at hl 0 rfl) ?_
    refine va_get (D := (dC, dI)) (ci := 10) (v := .ref (a 1)) (C := RX11) (T := TX11) (N := 17) hx hb hts inX11 hown hK hP 0 rfl rfl 1 (by decide) (hts _ q_fl_X11_7) (fun _ h9 => h9) rfl dX11_count_255 ?_
    refine lv_bipush (v := 13) hx hb dX11_count_258 (by decide) ?_
    obtain ⟨hg, hf⟩ := hf
    refine va_iald hx hb hK hP 1 0 rfl rfl hg dX11_count_260 ?_
    exact z_retMi (Wf := (fun z => cl_X11 cI cJ a z)) (u := ((0 : Int32), u.2)) X hf hP hD hS dX11_count_261
  have hf := hf.2 c_26
  by_cases c_27 : x1 = (19 : Int32)
  · have hf := hf.1 c_27
    refine lv_tableIn (off := 256) (tgt := 262) hx hb dX11_count_6 (by rw [c_27]; decide) (by rw [c_27]; decide) (by rw [c_27]; decide) (by decide) ?_
    refine lv_aload_n hx hb dX11_count_262 rfl (lv_at hl 0 rfl) ?_
    refine va_get (D := (dC, dI)) (ci := 10) (v := .ref (a 1)) (C := RX11) (T := TX11) (N := 17) hx hb hts inX11 hown hK hP 0 rfl rfl 1 (by decide) (hts _ q_fl_X11_7) (fun _ h9 => h9) rfl dX11_count_263 ?_
    refine lv_bipush (v := 14) hx hb dX11_count_266 (by decide) ?_
    obtain ⟨hg, hf⟩ := hf
    refine va_iald hx hb hK hP 1 0 rfl rfl hg dX11_count_268 ?_
    exact z_retMi (Wf := (fun z => cl_X11 cI cJ a z)) (u := ((0 : Int32), u.2)) X hf hP hD hS dX11_count_269
  have hf := hf.2 c_27
  by_cases c_28 : x1 = (20 : Int32)
  · have hf := hf.1 c_28
    refine lv_tableIn (off := 264) (tgt := 270) hx hb dX11_count_6 (by rw [c_28]; decide) (by rw [c_28]; decide) (by rw [c_28]; decide) (by decide) ?_
    refine lv_aload_n hx hb dX11_count_270 rfl (lv_at hl 0 rfl) ?_
    refine va_get (D := (dC, dI)) (ci := 10) (v := .ref (a 1)) (C := RX11) (T := TX11) (N := 17) hx hb hts inX11 hown hK hP 0 rfl rfl 1 (by decide) (hts _ q_fl_X11_7) (fun _ h9 => h9) rfl dX11_count_271 ?_
    refine lv_bipush (v := 15) hx hb dX11_count_274 (by decide) ?_
    obtain ⟨hg, hf⟩ := hf
    refine va_iald hx hb hK hP 1 0 rfl rfl hg dX11_count_276 ?_
    refine lv_if_ne (tgt := 285) hx hb dX11_count_277 (by decide) (fun c_29 => ?_) (fun c_29 => ?_)
    · have hf := hf.1 c_29
      refine lv_bipush (v := 100) hx hb dX11_count_285 (by decide) ?_
      refine lv_aload_n hx hb dX11_count_287 rfl (lv_at hl 0 rfl) ?_
      refine va_get (D := (dC, dI)) (ci := 10) (v := .ref (a 1)) (C := RX11) (T := TX11) (N := 17) hx hb hts inX11 hown hK hP 0 rfl rfl 1 (by decide) (hts _ q_fl_X11_7) (fun _ h9 => h9) rfl dX11_count_288 ?_
      refine lv_bipush (v := 13) hx hb dX11_count_291 (by decide) ?_
      obtain ⟨hg, hf⟩ := hf
      refine va_iald hx hb hK hP 1 0 rfl rfl hg dX11_count_293 ?_
      refine lv_imul hx hb dX11_count_294 ?_
      refine lv_aload_n hx hb dX11_count_295 rfl (lv_at hl 0 rfl) ?_
      refine va_get (D := (dC, dI)) (ci := 10) (v := .ref (a 1)) (C := RX11) (T := TX11) (N := 17) hx hb hts inX11 hown hK hP 0 rfl rfl 1 (by decide) (hts _ q_fl_X11_7) (fun _ h9 => h9) rfl dX11_count_296 ?_
      refine lv_bipush (v := 15) hx hb dX11_count_299 (by decide) ?_
      obtain ⟨hg, hf⟩ := hf
      refine va_iald hx hb hK hP 1 0 rfl rfl hg dX11_count_301 ?_
      obtain ⟨hg, hf⟩ := hf
      refine lv_idiv hx hb dX11_count_302 hg ?_
      exact z_retMi (Wf := (fun z => cl_X11 cI cJ a z)) (u := ((0 : Int32), u.2)) X hf hP hD hS dX11_count_303
    · have hf := hf.2 c_29
      refine lv_bipush (v := 100) hx hb dX11_count_280 (by decide) ?_
      refine lv_goto (tgt := 303) hx hb dX11_count_282 (by decide) ?_
      exact z_retMi (Wf := (fun z => cl_X11 cI cJ a z)) (u := ((0 : Int32), u.2)) X hf hP hD hS dX11_count_303
  have hf := hf.2 c_28
  by_cases c_30 : x1 = (21 : Int32)
  · have hf := hf.1 c_30
    refine lv_tableIn (off := 298) (tgt := 304) hx hb dX11_count_6 (by rw [c_30]; decide) (by rw [c_30]; decide) (by rw [c_30]; decide) (by decide) ?_
    refine lv_aload_n hx hb dX11_count_304 rfl (lv_at hl 0 rfl) ?_
    refine z_mVi (Wn := (fun u_32 => cl_X11 cI cJ a u_32)) (As := []) (rest := []) (wr := []) X (c_X11_doomed l dC dI cI cJ cS a ((0 : Int32), u.2)  _ hf _) zc_X11_doomed q_ml_X11_331 ⟨rfl, rfl⟩ ⟨Nat.le_of_ble_eq_true rfl, Nat.le_of_ble_eq_true rfl⟩ hP hD hS hA [0, 1, 2, 3, 4, 5, 6, 7, 8] [] rfl (by decide) rfl (by decide) (by decide) [0, 1, 2, 3, 4, 5, 6, 7, 8] (by decide) (fun _ => rfl) 10 rfl rfl hl.1 rfl rfl (Nat.le_of_ble_eq_true rfl) ⟨Nat.zero_le _, Nat.zero_le _⟩ dX11_count_305 (fun r_31 u_32 H locs hf hP hD hS => ?_)
    exact z_retMi (Wf := (fun z => cl_X11 cI cJ a z)) (u := u_32) X hf hP hD hS dX11_count_308
  have hf := hf.2 c_30
  by_cases c_33 : x1 = (22 : Int32)
  · have hf := hf.1 c_33
    refine lv_tableIn (off := 303) (tgt := 309) hx hb dX11_count_6 (by rw [c_33]; decide) (by rw [c_33]; decide) (by rw [c_33]; decide) (by decide) ?_
    refine lv_aload_n hx hb dX11_count_309 rfl (lv_at hl 0 rfl) ?_
    refine z_cVi (As := []) (rest := []) X (c_X11_spare l dC dI cI cJ cS a ((0 : Int32), u.2)  _ hf) zc_X11_spare q_ml_X11_317 ⟨rfl, rfl⟩ ⟨Nat.le_of_ble_eq_true rfl, Nat.le_of_ble_eq_true rfl⟩ hP [0, 1, 2, 3, 4, 5, 6, 7, 8] rfl 10 rfl rfl hl.1 rfl rfl (Nat.le_of_ble_eq_true rfl) ⟨Nat.zero_le _, Nat.zero_le _⟩ dX11_count_310 (fun r_34 hf => ?_)
    exact z_retMi (Wf := (fun z => cl_X11 cI cJ a z)) (u := ((0 : Int32), u.2)) X hf hP hD hS dX11_count_313
  have hf := hf.2 c_33
  by_cases c_35 : x1 = (23 : Int32)
  · have hf := hf.1 c_35
    refine lv_tableIn (off := 308) (tgt := 314) hx hb dX11_count_6 (by rw [c_35]; decide) (by rw [c_35]; decide) (by rw [c_35]; decide) (by decide) ?_
    refine lv_aload_n hx hb dX11_count_314 rfl (lv_at hl 0 rfl) ?_
    refine z_cVi (As := []) (rest := []) X (c_X11_poorest l dC dI cI cJ cS a ((0 : Int32), u.2)  _ hf) zc_X11_poorest q_ml_X11_134 ⟨rfl, rfl⟩ ⟨Nat.le_of_ble_eq_true rfl, Nat.le_of_ble_eq_true rfl⟩ hP [0, 1, 2, 3, 4, 5, 6, 7, 8] rfl 10 rfl rfl hl.1 rfl rfl (Nat.le_of_ble_eq_true rfl) ⟨Nat.zero_le _, Nat.zero_le _⟩ dX11_count_315 (fun r_36 hf => ?_)
    exact z_retMi (Wf := (fun z => cl_X11 cI cJ a z)) (u := ((0 : Int32), u.2)) X hf hP hD hS dX11_count_318
  have hf := hf.2 c_35
  by_cases c_37 : x1 = (24 : Int32)
  · have hf := hf.1 c_37
    refine lv_tableIn (off := 313) (tgt := 319) hx hb dX11_count_6 (by rw [c_37]; decide) (by rw [c_37]; decide) (by rw [c_37]; decide) (by decide) ?_
    refine lv_aload_n hx hb dX11_count_319 rfl (lv_at hl 0 rfl) ?_
    refine z_cVi (As := []) (rest := []) X (c_X11_heaviest l dC dI cI cJ cS a ((0 : Int32), u.2)  _ hf) zc_X11_heaviest q_ml_X11_334 ⟨rfl, rfl⟩ ⟨Nat.le_of_ble_eq_true rfl, Nat.le_of_ble_eq_true rfl⟩ hP [0, 1, 2, 3, 4, 5, 6, 7, 8] rfl 10 rfl rfl hl.1 rfl rfl (Nat.le_of_ble_eq_true rfl) ⟨Nat.zero_le _, Nat.zero_le _⟩ dX11_count_320 (fun r_38 hf => ?_)
    exact z_retMi (Wf := (fun z => cl_X11 cI cJ a z)) (u := ((0 : Int32), u.2)) X hf hP hD hS dX11_count_323
  have hf := hf.2 c_37
  by_cases c_39 : x1 = (25 : Int32)
  · have hf := hf.1 c_39
    refine lv_tableIn (off := 318) (tgt := 324) hx hb dX11_count_6 (by rw [c_39]; decide) (by rw [c_39]; decide) (by rw [c_39]; decide) (by decide) ?_
    refine lv_aload_n hx hb dX11_count_324 rfl (lv_at hl 0 rfl) ?_
    refine va_get (D := (dC, dI)) (ci := 10) (v := .int u.2.2.2.2.2.2.1) (C := RX11) (T := TX11) (N := 17) hx hb hts inX11 hown hK hP 0 rfl rfl 6 (by decide) (hts _ q_fl_X11_149) (fun _ h9 => h9) rfl dX11_count_325 ?_
    exact z_retMi (Wf := (fun z => cl_X11 cI cJ a z)) (u := ((0 : Int32), u.2)) X hf hP hD hS dX11_count_328
  have hf := hf.2 c_39
  by_cases c_40 : x1 = (26 : Int32)
  · have hf := hf.1 c_40
    refine lv_tableIn (off := 323) (tgt := 329) hx hb dX11_count_6 (by rw [c_40]; decide) (by rw [c_40]; decide) (by rw [c_40]; decide) (by decide) ?_
    refine lv_aload_n hx hb dX11_count_329 rfl (lv_at hl 0 rfl) ?_
    refine va_get (D := (dC, dI)) (ci := 10) (v := .ref (a 1)) (C := RX11) (T := TX11) (N := 17) hx hb hts inX11 hown hK hP 0 rfl rfl 1 (by decide) (hts _ q_fl_X11_7) (fun _ h9 => h9) rfl dX11_count_330 ?_
    refine lv_sipush (v := 5406) hx hb dX11_count_333 (by decide) ?_
    obtain ⟨hg, hf⟩ := hf
    refine va_iald hx hb hK hP 1 0 rfl rfl hg dX11_count_336 ?_
    exact z_retMi (Wf := (fun z => cl_X11 cI cJ a z)) (u := ((0 : Int32), u.2)) X hf hP hD hS dX11_count_337
  have hf := hf.2 c_40
  by_cases c_41 : x1 = (27 : Int32)
  · have hf := hf.1 c_41
    refine lv_tableIn (off := 332) (tgt := 338) hx hb dX11_count_6 (by rw [c_41]; decide) (by rw [c_41]; decide) (by rw [c_41]; decide) (by decide) ?_
    refine lv_aload_n hx hb dX11_count_338 rfl (lv_at hl 0 rfl) ?_
    refine z_cVi (As := []) (rest := []) X (c_X11_replay l dC dI cI cJ cS a ((0 : Int32), u.2)  _ hf) zc_X11_replay q_ml_X11_337 ⟨rfl, rfl⟩ ⟨Nat.le_of_ble_eq_true rfl, Nat.le_of_ble_eq_true rfl⟩ hP [0, 1, 2, 3, 4, 5, 6, 7, 8] rfl 10 rfl rfl hl.1 rfl rfl (Nat.le_of_ble_eq_true rfl) ⟨Nat.zero_le _, Nat.zero_le _⟩ dX11_count_339 (fun r_42 hf => ?_)
    exact z_retMi (Wf := (fun z => cl_X11 cI cJ a z)) (u := ((0 : Int32), u.2)) X hf hP hD hS dX11_count_342
  have hf := hf.2 c_41
  refine lv_tableOut (tgt := 343) hx hb dX11_count_6 (by have q0 : ¬ x1.toInt = (0 : Int) := fun h => c_1 (Int32.toInt_inj.mp (show x1.toInt = (0 : Int32).toInt from h)); have q1 : ¬ x1.toInt = (1 : Int) := fun h => c_2 (Int32.toInt_inj.mp (show x1.toInt = (1 : Int32).toInt from h)); have q2 : ¬ x1.toInt = (2 : Int) := fun h => c_3 (Int32.toInt_inj.mp (show x1.toInt = (2 : Int32).toInt from h)); have q3 : ¬ x1.toInt = (3 : Int) := fun h => c_4 (Int32.toInt_inj.mp (show x1.toInt = (3 : Int32).toInt from h)); have q4 : ¬ x1.toInt = (4 : Int) := fun h => c_5 (Int32.toInt_inj.mp (show x1.toInt = (4 : Int32).toInt from h)); have q5 : ¬ x1.toInt = (5 : Int) := fun h => c_6 (Int32.toInt_inj.mp (show x1.toInt = (5 : Int32).toInt from h)); have q6 : ¬ x1.toInt = (6 : Int) := fun h => c_8 (Int32.toInt_inj.mp (show x1.toInt = (6 : Int32).toInt from h)); have q7 : ¬ x1.toInt = (7 : Int) := fun h => c_10 (Int32.toInt_inj.mp (show x1.toInt = (7 : Int32).toInt from h)); have q8 : ¬ x1.toInt = (8 : Int) := fun h => c_11 (Int32.toInt_inj.mp (show x1.toInt = (8 : Int32).toInt from h)); have q9 : ¬ x1.toInt = (9 : Int) := fun h => c_12 (Int32.toInt_inj.mp (show x1.toInt = (9 : Int32).toInt from h)); have q10 : ¬ x1.toInt = (10 : Int) := fun h => c_13 (Int32.toInt_inj.mp (show x1.toInt = (10 : Int32).toInt from h)); have q11 : ¬ x1.toInt = (11 : Int) := fun h => c_15 (Int32.toInt_inj.mp (show x1.toInt = (11 : Int32).toInt from h)); have q12 : ¬ x1.toInt = (12 : Int) := fun h => c_17 (Int32.toInt_inj.mp (show x1.toInt = (12 : Int32).toInt from h)); have q13 : ¬ x1.toInt = (13 : Int) := fun h => c_19 (Int32.toInt_inj.mp (show x1.toInt = (13 : Int32).toInt from h)); have q14 : ¬ x1.toInt = (14 : Int) := fun h => c_21 (Int32.toInt_inj.mp (show x1.toInt = (14 : Int32).toInt from h)); have q15 : ¬ x1.toInt = (15 : Int) := fun h => c_22 (Int32.toInt_inj.mp (show x1.toInt = (15 : Int32).toInt from h)); have q16 : ¬ x1.toInt = (16 : Int) := fun h => c_24 (Int32.toInt_inj.mp (show x1.toInt = (16 : Int32).toInt from h)); have q17 : ¬ x1.toInt = (17 : Int) := fun h => c_25 (Int32.toInt_inj.mp (show x1.toInt = (17 : Int32).toInt from h)); have q18 : ¬ x1.toInt = (18 : Int) := fun h => c_26 (Int32.toInt_inj.mp (show x1.toInt = (18 : Int32).toInt from h)); have q19 : ¬ x1.toInt = (19 : Int) := fun h => c_27 (Int32.toInt_inj.mp (show x1.toInt = (19 : Int32).toInt from h)); have q20 : ¬ x1.toInt = (20 : Int) := fun h => c_28 (Int32.toInt_inj.mp (show x1.toInt = (20 : Int32).toInt from h)); have q21 : ¬ x1.toInt = (21 : Int) := fun h => c_30 (Int32.toInt_inj.mp (show x1.toInt = (21 : Int32).toInt from h)); have q22 : ¬ x1.toInt = (22 : Int) := fun h => c_33 (Int32.toInt_inj.mp (show x1.toInt = (22 : Int32).toInt from h)); have q23 : ¬ x1.toInt = (23 : Int) := fun h => c_35 (Int32.toInt_inj.mp (show x1.toInt = (23 : Int32).toInt from h)); have q24 : ¬ x1.toInt = (24 : Int) := fun h => c_37 (Int32.toInt_inj.mp (show x1.toInt = (24 : Int32).toInt from h)); have q25 : ¬ x1.toInt = (25 : Int) := fun h => c_39 (Int32.toInt_inj.mp (show x1.toInt = (25 : Int32).toInt from h)); have q26 : ¬ x1.toInt = (26 : Int) := fun h => c_40 (Int32.toInt_inj.mp (show x1.toInt = (26 : Int32).toInt from h)); have q27 : ¬ x1.toInt = (27 : Int) := fun h => c_41 (Int32.toInt_inj.mp (show x1.toInt = (27 : Int32).toInt from h)); omega) (by decide) ?_
  refine lv_iconst (v := (-1)) hx hb dX11_count_343 (by decide) ?_
  exact z_retMi (Wf := (fun z => cl_X11 cI cJ a z)) (u := ((0 : Int32), u.2)) X hf hP hD hS dX11_count_344
/-- AMPLE -/
def uAmp (v : zState) : Int32 := if v.2.1.2.1 = 0 then 100 else (100 : Int32) * v.2.1.1 / v.2.1.2.1
def aCnt (v : zState) (un : Nat) (x : Int32) : Int32 := if x = 0 then v.1.1 else if x = 1 then v.1.2.1 else if x = 2 then v.1.2.2.1 else if x = 3 then v.1.2.2.2 else if x = 4 then v.2.2.2.1.2.2 else if x = 5 then nI (fa_cnt (fun k => zHas v.2.2.2.1.1 0 k) 64) else if x = 6 then nI (fa_cnt (uVal v) 64) else if x = 7 then v.2.2.2.2.2.2.1 else if x = 8 then v.2.2.2.2.2.2.2.1 else if x = 9 then v.2.2.2.2.2.2.2.2 else if x = 10 then nI (uFree v) else if x = 11 then nI (oN v) else if x = 12 then l_sum (uLive v) 12 else if x = 13 then l_sum (fun s => v.2.2.1.2.2.1 s - uLive v s) 12 else if x = 14 then v.2.2.2.2.1.2.1 else if x = 15 then v.2.2.2.2.1.2.2.1 - v.2.2.2.2.1.2.2.2 else if x = 16 then v.2.1.2.2.2.1 else if x = 17 then v.2.1.2.2.2.2 else if x = 18 then v.2.1.1 else if x = 19 then v.2.1.2.2.1 else if x = 20 then uAmp v else if x = 21 then uDoom v else if x = 22 then uSpare v else if x = 23 then (uPoor v 12).1 else if x = 24 then (uHvy v 64).1 else if x = 25 then nI un else if x = 26 then v.2.2.2.2.2.1.2 else if x = 27 then nI (uRpN v 12) else -1
def s_X11_count (u : zModel) (x1 : Int32) (Q : Int32 → zModel → Prop) : Prop := ∃ (B : Nat) (G : zG), okG B G ∧ mG G u ∧ ∀ u' : zModel, mG G u' → Q (aCnt (gNow G) (gUnN G) x1) u'
theorem st_X11_count {u : zModel} {x1 : Int32} {Q : Int32 → zModel → Prop} (h : s_X11_count u x1 Q) : t_X11_count u x1 Q := by
  obtain ⟨B, G, hG, hm, hQ⟩ := h
  have hmk : mOk (gNow G) u.2.1 := hG.1.mok hm.now
  have rT := hm.now.1
  unfold aCnt at hQ
  refine ⟨fun d => ?_, fun d => ?_⟩
  · rw [if_pos d] at hQ
    rw [n_c0, rT 0 (by decide)]
    exact ⟨vp_in_nI (n := 0) (by decide) (by decide), hQ _ (hm.th 0)⟩
  rw [if_neg d] at hQ
  refine ⟨fun d => ?_, fun d => ?_⟩
  · rw [if_pos d] at hQ
    rw [n_c1, rT 1 (by decide)]
    exact ⟨vp_in_nI (n := 1) (by decide) (by decide), hQ _ (hm.th 0)⟩
  rw [if_neg d] at hQ
  refine ⟨fun d => ?_, fun d => ?_⟩
  · rw [if_pos d] at hQ
    rw [n_c2, rT 2 (by decide)]
    exact ⟨vp_in_nI (n := 2) (by decide) (by decide), hQ _ (hm.th 0)⟩
  rw [if_neg d] at hQ
  refine ⟨fun d => ?_, fun d => ?_⟩
  · rw [if_pos d] at hQ
    rw [n_c3, rT 3 (by decide)]
    exact ⟨vp_in_nI (n := 3) (by decide) (by decide), hQ _ (hm.th 0)⟩
  rw [if_neg d] at hQ
  refine ⟨fun d => ?_, fun d => ?_⟩
  · rw [if_pos d] at hQ
    rw [n_c4, rT 4 (by decide)]
    exact ⟨vp_in_nI (n := 4) (by decide) (by decide), hQ _ (hm.th 0)⟩
  rw [if_neg d] at hQ
  refine ⟨fun d => ?_, fun d => ?_⟩
  · rw [if_pos d] at hQ
    refine ⟨0, by decide, rfl, ?_⟩
    have := entries_rel hm.now (t := 0) (Nat.zero_le _)
    show Q (nI (fa_cnt (fun k => decide (¬ u.2.1 (3102 + 6 * (64 * 0 + k) + 1) ≤ 0)) 64)) _
    rw [this]; exact hQ _ (hm.th 0)
  rw [if_neg d] at hQ
  refine ⟨fun d => ?_, fun d => ?_⟩
  · rw [if_pos d] at hQ
    exact ⟨gNow G, 64, hmk, Nat.le_refl _, rfl, hQ _ (hm.th 0)⟩
  rw [if_neg d] at hQ
  refine ⟨fun d => ?_, fun d => ?_⟩
  · rw [if_pos d] at hQ
    rw [n_c5, rT 5 (by decide)]
    exact ⟨vp_in_nI (n := 5) (by decide) (by decide), hQ _ (hm.th 0)⟩
  rw [if_neg d] at hQ
  refine ⟨fun d => ?_, fun d => ?_⟩
  · rw [if_pos d] at hQ
    rw [n_c6, rT 6 (by decide)]
    exact ⟨vp_in_nI (n := 6) (by decide) (by decide), hQ _ (hm.th 0)⟩
  rw [if_neg d] at hQ
  refine ⟨fun d => ?_, fun d => ?_⟩
  · rw [if_pos d] at hQ
    rw [n_c7, rT 7 (by decide)]
    exact ⟨vp_in_nI (n := 7) (by decide) (by decide), hQ _ (hm.th 0)⟩
  rw [if_neg d] at hQ
  refine ⟨fun d => ?_, fun d => ?_⟩
  · rw [if_pos d] at hQ
    exact ⟨gNow G, hmk, hQ _ (hm.th 0)⟩
  rw [if_neg d] at hQ
  refine ⟨fun d => ?_, fun d => ?_⟩
  · rw [if_pos d] at hQ
    exact ⟨gNow G, hmk, hQ _ (hm.th 0)⟩
  rw [if_neg d] at hQ
  refine ⟨fun d => ?_, fun d => ?_⟩
  · rw [if_pos d] at hQ
    exact ⟨gNow G, hmk, Or.inl ⟨rfl, hQ _ (hm.th 0)⟩⟩
  rw [if_neg d] at hQ
  refine ⟨fun d => ?_, fun d => ?_⟩
  · rw [if_pos d] at hQ
    exact ⟨gNow G, hmk, Or.inr ⟨rfl, hQ _ (hm.th 0)⟩⟩
  rw [if_neg d] at hQ
  refine ⟨fun d => ?_, fun d => ?_⟩
  · rw [if_pos d] at hQ
    rw [n_c8, rT 8 (by decide)]
    exact ⟨vp_in_nI (n := 8) (by decide) (by decide), hQ _ (hm.th 0)⟩
  rw [if_neg d] at hQ
  refine ⟨fun d => ?_, fun d => ?_⟩
  · rw [if_pos d] at hQ
    refine ⟨vp_in_nI (n := 9) (by decide) (by decide), vp_in_nI (n := 10) (by decide) (by decide), ?_⟩
    dsimp only
    rw [n_c9, n_c10, rT 9 (by decide), rT 10 (by decide)]
    exact hQ _ (hm.th 0)
  rw [if_neg d] at hQ
  refine ⟨fun d => ?_, fun d => ?_⟩
  · rw [if_pos d] at hQ
    rw [n_c11, rT 11 (by decide)]
    exact ⟨vp_in_nI (n := 11) (by decide) (by decide), hQ _ (hm.th 0)⟩
  rw [if_neg d] at hQ
  refine ⟨fun d => ?_, fun d => ?_⟩
  · rw [if_pos d] at hQ
    rw [n_c12, rT 12 (by decide)]
    exact ⟨vp_in_nI (n := 12) (by decide) (by decide), hQ _ (hm.th 0)⟩
  rw [if_neg d] at hQ
  refine ⟨fun d => ?_, fun d => ?_⟩
  · rw [if_pos d] at hQ
    rw [n_c13, rT 13 (by decide)]
    exact ⟨vp_in_nI (n := 13) (by decide) (by decide), hQ _ (hm.th 0)⟩
  rw [if_neg d] at hQ
  refine ⟨fun d => ?_, fun d => ?_⟩
  · rw [if_pos d] at hQ
    rw [n_c14, rT 14 (by decide)]
    exact ⟨vp_in_nI (n := 14) (by decide) (by decide), hQ _ (hm.th 0)⟩
  rw [if_neg d] at hQ
  refine ⟨fun d => ?_, fun d => ?_⟩
  · rw [if_pos d] at hQ
    unfold uAmp at hQ
    refine ⟨vp_in_nI (n := 15) (by decide) (by decide), ?_⟩
    rw [n_c15, n_c13, rT 15 (by decide), rT 13 (by decide)]
    refine ⟨fun c => ⟨vp_in_nI (n := 13) (by decide) (by decide), vp_in_nI (n := 15) (by decide) (by decide), c, ?_⟩, fun c => ?_⟩
    · rw [if_neg (show ¬ (gNow G).2.1.2.1 = 0 from c)] at hQ; exact hQ _ (hm.th 0)
    · rw [if_pos (show (gNow G).2.1.2.1 = 0 from c)] at hQ; exact hQ _ (hm.th 0)
  rw [if_neg d] at hQ
  refine ⟨fun d => ?_, fun d => ?_⟩
  · rw [if_pos d] at hQ
    exact ⟨B, G, hG, hm.th 0, hQ⟩
  rw [if_neg d] at hQ
  refine ⟨fun d => ?_, fun d => ?_⟩
  · rw [if_pos d] at hQ
    exact ⟨gNow G, hmk, hQ _ (hm.th 0)⟩
  rw [if_neg d] at hQ
  refine ⟨fun d => ?_, fun d => ?_⟩
  · rw [if_pos d] at hQ
    exact ⟨gNow G, hmk, hQ _ (hm.th 0)⟩
  rw [if_neg d] at hQ
  refine ⟨fun d => ?_, fun d => ?_⟩
  · rw [if_pos d] at hQ
    exact ⟨gNow G, hmk, hQ _ (hm.th 0)⟩
  rw [if_neg d] at hQ
  refine ⟨fun d => ?_, fun d => ?_⟩
  · rw [if_pos d] at hQ
    rw [hm.2.2.2.1.1]; exact hQ _ (hm.th 0)
  rw [if_neg d] at hQ
  refine ⟨fun d => ?_, fun d => ?_⟩
  · rw [if_pos d] at hQ
    have hl := (mRel_iff.mp hm.now).2.2.2.2.2
    rw [n_c5406, hl.1]
    exact ⟨vp_in_nI (n := 5406) (by decide) (by decide), hQ _ (hm.th 0)⟩
  rw [if_neg d] at hQ
  refine ⟨fun d => ?_, fun d => ?_⟩
  · rw [if_pos d] at hQ
    exact ⟨gNow G, hmk, hQ _ (hm.th 0)⟩
  rw [if_neg d] at hQ
  exact hQ _ (hm.th 0)
theorem c_X11_count (l : Launch) (dC : Nat → ClassId) (dI : Nat → Nat → Nat) (cI cJ cS : ClassId) (a : Nat → Nat) (u : zModel) (x1 : Int32) (Q : Int32 → zModel → Prop) (hf : s_X11_count u x1 Q) : ∀ sz : Nat, Met l yX11_count (Cond.code yX11_count cX11_count 2 (some .int) :: zT) rm_X11_count (zPm dC dI cI cJ cS (cl_X11 cI cJ a u) [.ref (a 0), .int x1] sz) (va_Qi Q (zB dC dI cI cJ cS (va_A (cl_X11 cI cJ a u) sz) (fun z => cl_X11 cI cJ a z)) (va_A (cl_X11 cI cJ a u) sz)) 0 0 (va_A (cl_X11 cI cJ a u) sz) := L_X11_count l dC dI cI cJ cS a u x1 Q (st_X11_count hf)
