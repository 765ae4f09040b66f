def t_X5_collectAll_e (u : zState) (K2 : Int32 → zState → Prop) (Q : Int32 → zState → Prop) : Prop := K2 (0 : Int32) u
def t_X5_collectAll_2 (y1 : Int32) (z : zState) (K2 : Int32 → zState → Prop) (Q : Int32 → zState → Prop) : Prop := (((50 : Int32) < y1 → s_X1_isOn z.2.2.2.2.1 (fun r_3 : Int32 => ((¬ r_3 = 0 → Q (0 : Int32) z) ∧ (r_3 = 0 → Q (1 : Int32) z)))) ∧ (¬ (50 : Int32) < y1 → s_X1_isOn z.2.2.2.2.1 (fun r_5 : Int32 => ((r_5 = 0 → s_X1_isOn z.2.2.2.2.1 (fun r_7 : Int32 => ((¬ r_7 = 0 → Q (0 : Int32) z) ∧ (r_7 = 0 → Q (1 : Int32) z)))) ∧ (¬ r_5 = 0 → s_X5_collect z (1 : Int32) (fun (r_9 : Int32) (u_10 : zState) => ∀ x_11 : Int32, x_11 = y1 + (1 : Int32) → K2 x_11 u_10))))))
theorem zc_X5_collectAll : zCalV RX5 yX5_collectAll cX5_collectAll 2 (some .boolean) 0 := ⟨q_im_X5_collectAll, q_se_X5_collectAll, q_in_X5, q_cd_X5_collectAll, ⟨by decide, by decide, by decide +kernel⟩, rfl⟩
abbrev rm_X5_collectAll : Room := { frames := 6, cells := 0, slots := 0, locals := 165 }
def v_X5_collectAll (u : zState) (Q : Int32 → zState → Prop) : Prop := ∃ I2 : Nat → Int32 → zState → Prop, (∀ (n : Nat) (y1 : Int32) (z : zState), I2 n y1 z → t_X5_collectAll_2 y1 z (fun q0 q1 => ∃ k : Nat, k < n ∧ I2 k q0 q1) Q) ∧ t_X5_collectAll_e u (fun q0 q1 => ∃ k : Nat, I2 k q0 q1) Q
set_option maxHeartbeats 4000000 in
set_option maxRecDepth 100000 in
theorem L_X5_collectAll (l : Launch) (dC : Nat → ClassId) (dI : Nat → Nat → Nat) (cI cJ cS : ClassId) (a : Nat → Nat) (u : zState) (Q : Int32 → zState → Prop) (I2 : Nat → Int32 → zState → Prop) (h2 : ∀ (n : Nat) (y1 : Int32) (z : zState), I2 n y1 z → t_X5_collectAll_2 y1 z (fun q0 q1 => ∃ k : Nat, k < n ∧ I2 k q0 q1) Q) (hf : t_X5_collectAll_e u (fun q0 q1 => ∃ k : Nat, I2 k q0 q1) Q) : ∀ sz : Nat, Met l yX5_collectAll (Cond.code yX5_collectAll cX5_collectAll 2 (some .boolean) :: zT) rm_X5_collectAll (zPm dC dI cI cJ cS (cl_X5 cI cJ a u) [.ref (a 0)] sz) (va_Qi (fun r u => (r = 0 ∨ r = 1) ∧ Q r u) (zB dC dI cI cJ cS (va_A (cl_X5 cI cJ a u) sz) (fun z => cl_X5 cI cJ a z)) (va_A (cl_X5 cI cJ a u) sz)) 0 0 (va_A (cl_X5 cI cJ a u) sz) := by
  intro sz
  refine z_enterM (Qc := fun A => va_Qi (fun r u => (r = 0 ∨ r = 1) ∧ Q r u) (zB dC dI cI cJ cS A (fun z => cl_X5 cI cJ a z)) A) (cc := cX5_collectAll) (maxL := 2) (ret := (some .boolean)) (by decide) (Nat.le_of_ble_eq_true rfl) ?_
  intro p e s m below meth c ls A X hP hD hS hA hl
  obtain ⟨⟨hx, hb, hml, hown, hts⟩, hr, hlk, hK⟩ := id X
  have hl : lv_has ls 2 [(0, .ref (a 0))] := hl
  have LP : ∀ n : Nat, (∀ (y1 : Int32) (z : zState) (H : Heap) (locs : List Loc) (ls : Array Slot), I2 n y1 z → va_P (dC, dI) vwCl (cl_X5 cI cJ a z) H → va_D A (cl_X5 cI cJ a z) → va_S A s.heap H locs → lv_has ls 2 [(0, .ref (a 0)), (1, .int y1)] → W p l e rm_X5_collectAll s m [.ref (a 0)].toArray below meth c H locs 0 0 (MQ below (va_Qi (fun r u => (r = 0 ∨ r = 1) ∧ Q r u) (zB dC dI cI cJ cS A (fun z => cl_X5 cI cJ a z)) A) [.ref (a 0)].toArray s 0 0 A) (F0 m 2 ls [])) := by
    intro n
    induction n using Nat.strongRecOn with
    | _ n ih =>
      intro y1 z H locs ls hI hP hD hS hl
      have hf := h2 n y1 z hI
      unfold t_X5_collectAll_2 at hf
      refine lv_iload_n hx hb dX5_collectAll_2 rfl (lv_at hl 1 rfl) ?_
      refine lv_bipush (v := 50) hx hb dX5_collectAll_3 (by decide) ?_
      refine lv_icmp_gt (tgt := 30) hx hb dX5_collectAll_5 (by decide) (fun c_2 => ?_) (fun c_2 => ?_)
      · have hf := hf.1 c_2
        refine lv_aload_n hx hb dX5_collectAll_30 rfl (lv_at hl 0 rfl) ?_
        refine va_get (D := (dC, dI)) (ci := 4) (v := .ref (a 11)) (C := RX5) (T := TX5) (N := 9) hx hb hts inX5 hown hK hP 0 rfl rfl 4 (by decide) (hts _ q_fl_X5_42) (fun _ h9 => h9) rfl dX5_collectAll_31 ?_
        refine z_cVi (As := []) (rest := []) X (c_X1_isOn l dC dI cI cJ cS (fun i => a (11 + i)) z.2.2.2.2.1  _ hf) zc_X1_isOn q_ml_X5_127 ⟨rfl, rfl⟩ ⟨Nat.le_of_ble_eq_true rfl, Nat.le_of_ble_eq_true rfl⟩ hP [11, 12] rfl 0 rfl rfl hl.1 rfl rfl (Nat.le_of_ble_eq_true rfl) ⟨Nat.zero_le _, Nat.zero_le _⟩ dX5_collectAll_34 (fun r_3 hf => ?_)
        obtain ⟨hbr_3, hf⟩ := hf
        refine lv_if_ne (tgt := 44) hx hb dX5_collectAll_37 (by decide) (fun c_4 => ?_) (fun c_4 => ?_)
        · have hf := hf.1 c_4
          refine lv_iconst (v := 0) hx hb dX5_collectAll_44 (by decide) ?_
          exact z_retMz (Wf := (fun z => cl_X5 cI cJ a z)) (u := z) X (Or.inl rfl) hf hP hD hS dX5_collectAll_45
        · have hf := hf.2 c_4
          refine lv_iconst (v := 1) hx hb dX5_collectAll_40 (by decide) ?_
          refine lv_goto (tgt := 45) hx hb dX5_collectAll_41 (by decide) ?_
          exact z_retMz (Wf := (fun z => cl_X5 cI cJ a z)) (u := z) X (Or.inr rfl) hf hP hD hS dX5_collectAll_45
      · have hf := hf.2 c_2
        refine lv_aload_n hx hb dX5_collectAll_8 rfl (lv_at hl 0 rfl) ?_
        refine va_get (D := (dC, dI)) (ci := 4) (v := .ref (a 11)) (C := RX5) (T := TX5) (N := 9) hx hb hts inX5 hown hK hP 0 rfl rfl 4 (by decide) (hts _ q_fl_X5_42) (fun _ h9 => h9) rfl dX5_collectAll_9 ?_
        refine z_cVi (As := []) (rest := []) X (c_X1_isOn l dC dI cI cJ cS (fun i => a (11 + i)) z.2.2.2.2.1  _ hf) zc_X1_isOn q_ml_X5_127 ⟨rfl, rfl⟩ ⟨Nat.le_of_ble_eq_true rfl, Nat.le_of_ble_eq_true rfl⟩ hP [11, 12] rfl 0 rfl rfl hl.1 rfl rfl (Nat.le_of_ble_eq_true rfl) ⟨Nat.zero_le _, Nat.zero_le _⟩ dX5_collectAll_12 (fun r_5 hf => ?_)
        obtain ⟨hbr_5, hf⟩ := hf
        refine lv_if_eq (tgt := 30) hx hb dX5_collectAll_15 (by decide) (fun c_6 => ?_) (fun c_6 => ?_)
        · have hf := hf.1 c_6
          refine lv_aload_n hx hb dX5_collectAll_30 rfl (lv_at hl 0 rfl) ?_
          refine va_get (D := (dC, dI)) (ci := 4) (v := .ref (a 11)) (C := RX5) (T := TX5) (N := 9) hx hb hts inX5 hown hK hP 0 rfl rfl 4 (by decide) (hts _ q_fl_X5_42) (fun _ h9 => h9) rfl dX5_collectAll_31 ?_
          refine z_cVi (As := []) (rest := []) X (c_X1_isOn l dC dI cI cJ cS (fun i => a (11 + i)) z.2.2.2.2.1  _ hf) zc_X1_isOn q_ml_X5_127 ⟨rfl, rfl⟩ ⟨Nat.le_of_ble_eq_true rfl, Nat.le_of_ble_eq_true rfl⟩ hP [11, 12] rfl 0 rfl rfl hl.1 rfl rfl (Nat.le_of_ble_eq_true rfl) ⟨Nat.zero_le _, Nat.zero_le _⟩ dX5_collectAll_34 (fun r_7 hf => ?_)
          obtain ⟨hbr_7, hf⟩ := hf
          refine lv_if_ne (tgt := 44) hx hb dX5_collectAll_37 (by decide) (fun c_8 => ?_) (fun c_8 => ?_)
          · have hf := hf.1 c_8
            refine lv_iconst (v := 0) hx hb dX5_collectAll_44 (by decide) ?_
            exact z_retMz (Wf := (fun z => cl_X5 cI cJ a z)) (u := z) X (Or.inl rfl) hf hP hD hS dX5_collectAll_45
          · have hf := hf.2 c_8
            refine lv_iconst (v := 1) hx hb dX5_collectAll_40 (by decide) ?_
            refine lv_goto (tgt := 45) hx hb dX5_collectAll_41 (by decide) ?_
            exact z_retMz (Wf := (fun z => cl_X5 cI cJ a z)) (u := z) X (Or.inr rfl) hf hP hD hS dX5_collectAll_45
        · have hf := hf.2 c_6
          refine lv_aload_n hx hb dX5_collectAll_18 rfl (lv_at hl 0 rfl) ?_
          refine lv_iconst (v := 1) hx hb dX5_collectAll_19 (by decide) ?_
          refine z_mVi (Wn := (fun u_10 => cl_X5 cI cJ a u_10)) (As := [.int (1 : Int32)]) (rest := []) (wr := []) X (c_X5_collect l dC dI cI cJ cS a z (1 : Int32) _ hf _) zc_X5_collect q_ml_X5_176 ⟨rfl, rfl⟩ ⟨Nat.le_of_ble_eq_true rfl, Nat.le_of_ble_eq_true rfl⟩ hP hD hS hA [0, 1, 2, 3, 4, 5, 6, 7, 8, 9, 10, 11, 12, 13, 14] [] rfl (by decide) rfl (by decide) (by decide) [0, 1, 2, 3, 4, 5, 6, 7, 8, 9, 10, 11, 12, 13, 14] (by decide) (fun _ => rfl) 4 rfl rfl hl.1 rfl rfl (Nat.le_of_ble_eq_true rfl) ⟨Nat.zero_le _, Nat.zero_le _⟩ dX5_collectAll_20 (fun r_9 u_10 H locs hf hP hD hS => ?_)
          refine lv_pop hx hb dX5_collectAll_23 rfl ?_
          obtain ⟨x_11, ex_11⟩ : ∃ y : Int32, y = y1 + (1 : Int32) := ⟨_, rfl⟩
          have hf := hf x_11 ex_11
          refine lv_iinc (v := x_11) (lv' := [(1, .int x_11), (0, .ref (a 0))]) hx hb dX5_collectAll_24 hl (k := 1) rfl (by rw [ex_11]; rfl) (by decide) rfl (fun ls hl => ?_)
          refine lv_goto (tgt := 2) hx hb dX5_collectAll_27 (by decide) ?_
          obtain ⟨k_12, hk_12, hf⟩ := hf
          exact (ih k_12 hk_12) _ u_10 _ _ ls hf hP hD hS (lv_sub hl [1, 0] rfl)
  unfold t_X5_collectAll_e at hf
  refine lv_iconst (v := 0) hx hb dX5_collectAll_0 (by decide) ?_
  refine lv_istore_n (lv' := [(1, .int (0 : Int32)), (0, .ref (a 0))]) hx hb dX5_collectAll_1 rfl hl (by decide) rfl (fun ls hl => ?_)
  obtain ⟨k_1, hf⟩ := hf
  exact (LP k_1) _ u _ _ ls hf hP hD hS (lv_sub hl [1, 0] rfl)
/-- steps one by one, n at most -/
def uAllN : Nat → zState → zState
  | 0, u => u
  | n + 1, u => if u.2.2.2.2.1.2.1 = -1 then u else uAllN n (uCol 1 u).2
def s_X5_collectAll (u : zState) (Q : Int32 → zState → Prop) : Prop := ∃ ρ β mo lm L S M B : Nat, zP ρ β mo lm L S M B u ∧ B + 51 ≤ 400000 ∧ ((uAllN 51 u).2.2.2.2.1.2.1 = -1 → Q 1 (uAllN 51 u)) ∧ (¬ (uAllN 51 u).2.2.2.2.1.2.1 = -1 → Q 0 (uAllN 51 u))
theorem zPr.all {ρ β mo lm : Nat} : ∀ (n : Nat) {L S M B : Nat} {u : zState}, zP ρ β mo lm L S M B u → B + n ≤ 400000 → ∃ L' S' M', zP ρ β mo lm L' S' M' (B + n) (uAllN n u)
  | 0, L, S, M, B, u, h, _ => ⟨L, S, M, h⟩
  | n + 1, L, S, M, B, u, h, hB => by
    unfold uAllN
    by_cases h1 : u.2.2.2.2.1.2.1 = -1
    · rw [if_pos h1]; exact ⟨L, S, M, h.monoB (by omega) hB⟩
    · rw [if_neg h1]
      obtain ⟨L', S', M', h3⟩ := zPr.col 1 h (by omega)
      obtain ⟨L2, S2, M2, h4⟩ := zPr.all n h3 (by omega)
      exact ⟨L2, S2, M2, by rw [show B + (n + 1) = B + 1 + n by omega]; exact h4⟩
theorem st_X5_collectAll {u : zState} {Q : Int32 → zState → Prop} (h : s_X5_collectAll u Q) : v_X5_collectAll u Q := by
  obtain ⟨ρ, β, mo, lm, L0, S0, M0, B0, h0, hB0, hq1, hq0⟩ := h
  refine ⟨fun m y1 z => ∃ i L S M B : Nat, y1 = nI i ∧ i ≤ 51 ∧ m = 51 - i ∧ zP ρ β mo lm L S M B z ∧ B + (51 - i) ≤ 400000 ∧ uAllN (51 - i) z = uAllN 51 u, ?_, ?_⟩
  · rintro m y1 z ⟨i, L, S, M, B, rfl, hi, rfl, h, hB, e⟩
    have fin : uAllN (51 - i) z = z → s_X1_isOn z.2.2.2.2.1 (fun r_3 : Int32 => ((¬ r_3 = 0 → Q (0 : Int32) z) ∧ (r_3 = 0 → Q (1 : Int32) z))) := fun ez => by
      rw [ez] at e
      rw [← e] at hq1 hq0
      exact ⟨fun c => ⟨fun q => absurd rfl q, fun _ => hq1 c⟩, fun c => ⟨fun _ => hq0 c, fun q => absurd q (by decide)⟩⟩
    unfold t_X5_collectAll_2
    refine ⟨fun c => ?_, fun c => ⟨fun c1 => ⟨fun _ => ?_, fun q => absurd rfl q⟩, fun c1 => ⟨fun q => absurd q (by decide), fun _ => ⟨ρ, β, mo, lm, L, S, M, B, 1, h, by have hlt : ¬ 50 < i := fun q => c (nI_lt (a := 50) q (by omega)); omega, by decide, rfl, fun x e1 => ?_⟩⟩⟩⟩
    · have := (nI_ltI (a := 50) (b := i) (by decide) (by omega)).mp c
      exact fin (by rw [show 51 - i = 0 by omega]; rfl)
    · have hlt : ¬ 50 < i := fun q => c (nI_lt (a := 50) q (by omega))
      exact fin (by rw [show 51 - i = (50 - i) + 1 by omega]; exact if_pos c1)
    · have hlt : ¬ 50 < i := fun q => c (nI_lt (a := 50) q (by omega))
      have es : uAllN (51 - i) z = uAllN (50 - i) (uCol 1 z).2 := by rw [show 51 - i = (50 - i) + 1 by omega]; exact if_neg c1
      obtain ⟨L', S', M', h3⟩ := zPr.col 1 h (by omega)
      exact ⟨51 - (i + 1), by omega, i + 1, L', S', M', B + 1, by rw [e1, nI_1], by omega, rfl, h3, by omega, by rw [show 51 - (i + 1) = 50 - i by omega, ← es]; exact e⟩
  · exact ⟨51 - 0, 0, L0, S0, M0, B0, rfl, by omega, rfl, h0, hB0, rfl⟩
theorem c_X5_collectAll (l : Launch) (dC : Nat → ClassId) (dI : Nat → Nat → Nat) (cI cJ cS : ClassId) (a : Nat → Nat) (u : zState) (Q : Int32 → zState → Prop) (hf : s_X5_collectAll u Q) : ∀ sz : Nat, Met l yX5_collectAll (Cond.code yX5_collectAll cX5_collectAll 2 (some .boolean) :: zT) rm_X5_collectAll (zPm dC dI cI cJ cS (cl_X5 cI cJ a u) [.ref (a 0)] sz) (va_Qi (fun r u => (r = 0 ∨ r = 1) ∧ Q r u) (zB dC dI cI cJ cS (va_A (cl_X5 cI cJ a u) sz) (fun z => cl_X5 cI cJ a z)) (va_A (cl_X5 cI cJ a u) sz)) 0 0 (va_A (cl_X5 cI cJ a u) sz) := by
  obtain ⟨I2, h2, hf⟩ := st_X5_collectAll hf
  exact L_X5_collectAll l dC dI cI cJ cS a u Q I2 h2 hf

def t_X5_refusalOfStep_e (u : zState) (x1 : Int32) (K14 : Int32 → Prop) (Q : Int32 → Prop) : Prop := s_X1_isOn u.2.2.2.2.1 (fun r_1 : Int32 => ((¬ r_1 = 0 → K14 (0 : Int32)) ∧ (r_1 = 0 → Q (5 : Int32))))
def t_X5_refusalOfStep_14 (u : zState) (x1 : Int32) (y2 : Int32) (K14 : Int32 → Prop) (Q : Int32 → Prop) : Prop := ((x1 ≤ y2 → Q (0 : Int32)) ∧ (¬ x1 ≤ y2 → s_X1_left u.2.2.2.2.1 (fun r_5 : Int32 => ((r_5 ≤ y2 → Q (0 : Int32)) ∧ (¬ r_5 ≤ y2 → s_X1_ahead u.2.2.2.2.1 y2 (fun r_7 : Int64 => s_X5_isLive u r_7 (fun r_8 : Int32 => ((r_8 = 0 → ∀ x_10 : Int32, x_10 = y2 + (1 : Int32) → K14 x_10) ∧ (¬ r_8 = 0 → s_X0_sizeOf r_7 (fun r_12 : Int32 => s_X5_fits u r_12 (fun r_13 : Int32 => ((r_13 = 0 → Q (1 : Int32)) ∧ (¬ r_13 = 0 → Q (0 : Int32))))))))))))))
theorem zc_X5_refusalOfStep : zCalV RX5 yX5_refusalOfStep cX5_refusalOfStep 5 (some .int) 1 := ⟨q_im_X5_refusalOfStep, q_se_X5_refusalOfStep, q_in_X5, q_cd_X5_refusalOfStep, ⟨by decide, by decide, by decide +kernel⟩, rfl⟩
abbrev rm_X5_refusalOfStep : Room := { frames := 3, cells := 0, slots := 0, locals := 66 }
def v_X5_refusalOfStep (u : zState) (x1 : Int32) (Q : Int32 → Prop) : Prop := ∃ I14 : Nat → Int32 → Prop, (∀ (n : Nat) (y2 : Int32), I14 n y2 → t_X5_refusalOfStep_14 u x1 y2 (fun q0 => ∃ k : Nat, k < n ∧ I14 k q0) Q) ∧ t_X5_refusalOfStep_e u x1 (fun q0 => ∃ k : Nat, I14 k q0) Q
set_option maxHeartbeats 4000000 in
set_option maxRecDepth 100000 in
theorem L_X5_refusalOfStep (l : Launch) (dC : Nat → ClassId) (dI : Nat → Nat → Nat) (cI cJ cS : ClassId) (a : Nat → Nat) (u : zState) (x1 : Int32) (Q : Int32 → Prop) (I14 : Nat → Int32 → Prop) (h14 : ∀ (n : Nat) (y2 : Int32), I14 n y2 → t_X5_refusalOfStep_14 u x1 y2 (fun q0 => ∃ k : Nat, k < n ∧ I14 k q0) Q) (hf : t_X5_refusalOfStep_e u x1 (fun q0 => ∃ k : Nat, I14 k q0) Q) : Met l yX5_refusalOfStep (Cond.code yX5_refusalOfStep cX5_refusalOfStep 5 (some .int) :: zT) rm_X5_refusalOfStep (zPp dC dI cI cJ cS (cl_X5 cI cJ a u) [.ref (a 0), .int x1]) (vp_Si Q) 0 0 (fun _ => False) := by
  refine z_enterP (cc := cX5_refusalOfStep) (maxL := 5) (ret := (some .int)) (by decide) (Nat.le_of_ble_eq_true rfl) ?_
  intro p e s m below meth c ls X hP hl
  obtain ⟨⟨hx, hb, hml, hown, hts⟩, hr, hlk, hK⟩ := id X
  have hl : lv_has ls 5 [(0, .ref (a 0)), (1, .int x1)] := hl
  have LP : ∀ n : Nat, (∀ (y2 : Int32) (ls : Array Slot), I14 n y2 → lv_has ls 5 [(0, .ref (a 0)), (1, .int x1), (2, .int y2)] → W p l e rm_X5_refusalOfStep s m [.ref (a 0), .int x1].toArray below meth c s.heap [] 0 0 (MQ below (vp_Si Q) [.ref (a 0), .int x1].toArray s 0 0 (fun _ => False)) (F0 m 14 ls [])) := by
    intro n
    induction n using Nat.strongRecOn with
    | _ n ih =>
      intro y2 ls hI hl
      have hf := h14 n y2 hI
      unfold t_X5_refusalOfStep_14 at hf
      refine lv_iload_n hx hb dX5_refusalOfStep_14 rfl (lv_at hl 2 rfl) ?_
      refine lv_iload_n hx hb dX5_refusalOfStep_15 rfl (lv_at hl 1 rfl) ?_
      refine lv_icmp_ge (tgt := 70) hx hb dX5_refusalOfStep_16 (by decide) (fun c_4 => ?_) (fun c_4 => ?_)
      · have hf := hf.1 c_4
        refine lv_iconst (v := 0) hx hb dX5_refusalOfStep_70 (by decide) ?_
        exact z_retPi X hf dX5_refusalOfStep_71
      · have hf := hf.2 c_4
        refine lv_iload_n hx hb dX5_refusalOfStep_19 rfl (lv_at hl 2 rfl) ?_
        refine lv_aload_n hx hb dX5_refusalOfStep_20 rfl (lv_at hl 0 rfl) ?_
        refine va_get (D := (dC, dI)) (ci := 4) (v := .ref (a 11)) (C := RX5) (T := TX5) (N := 9) hx hb hts inX5 hown hK hP 0 rfl rfl 4 (by decide) (hts _ q_fl_X5_42) (fun _ h9 => h9) rfl dX5_refusalOfStep_21 ?_
        refine z_cVi (As := []) (rest := [.int y2]) X (c_X1_left l dC dI cI cJ cS (fun i => a (11 + i)) u.2.2.2.2.1  _ hf) zc_X1_left q_ml_X5_134 ⟨rfl, rfl⟩ ⟨Nat.le_of_ble_eq_true rfl, Nat.le_of_ble_eq_true rfl⟩ hP [11, 12] rfl 0 rfl rfl hl.1 rfl rfl (Nat.le_of_ble_eq_true rfl) ⟨Nat.zero_le _, Nat.zero_le _⟩ dX5_refusalOfStep_24 (fun r_5 hf => ?_)
        refine lv_icmp_ge (tgt := 70) hx hb dX5_refusalOfStep_27 (by decide) (fun c_6 => ?_) (fun c_6 => ?_)
        · have hf := hf.1 c_6
          refine lv_iconst (v := 0) hx hb dX5_refusalOfStep_70 (by decide) ?_
          exact z_retPi X hf dX5_refusalOfStep_71
        · have hf := hf.2 c_6
          refine lv_aload_n hx hb dX5_refusalOfStep_30 rfl (lv_at hl 0 rfl) ?_
          refine va_get (D := (dC, dI)) (ci := 4) (v := .ref (a 11)) (C := RX5) (T := TX5) (N := 9) hx hb hts inX5 hown hK hP 0 rfl rfl 4 (by decide) (hts _ q_fl_X5_42) (fun _ h9 => h9) rfl dX5_refusalOfStep_31 ?_
          refine lv_iload_n hx hb dX5_refusalOfStep_34 rfl (lv_at hl 2 rfl) ?_
          refine z_cVl (As := [.int y2]) (rest := []) X (c_X1_ahead l dC dI cI cJ cS (fun i => a (11 + i)) u.2.2.2.2.1 y2 _ hf) zc_X1_ahead q_ml_X5_137 ⟨rfl, rfl⟩ ⟨Nat.le_of_ble_eq_true rfl, Nat.le_of_ble_eq_true rfl⟩ hP [11, 12] rfl 0 rfl rfl hl.1 rfl rfl (Nat.le_of_ble_eq_true rfl) ⟨Nat.zero_le _, Nat.zero_le _⟩ dX5_refusalOfStep_35 (fun r_7 hf => ?_)
          refine lv_lstore_n (lv' := [(3, .long r_7), (0, .ref (a 0)), (1, .int x1), (2, .int y2)]) hx hb dX5_refusalOfStep_38 rfl hl (by decide) rfl (fun ls hl => ?_)
          refine lv_aload_n hx hb dX5_refusalOfStep_39 rfl (lv_at hl 1 rfl) ?_
          refine lv_lload_n hx hb dX5_refusalOfStep_40 rfl (lv_at hl 0 rfl) ?_
          refine z_cVi (As := [.long r_7]) (rest := []) X (c_X5_isLive l dC dI cI cJ cS a u r_7 _ hf) zc_X5_isLive q_ml_X5_141 ⟨rfl, rfl⟩ ⟨Nat.le_of_ble_eq_true rfl, Nat.le_of_ble_eq_true rfl⟩ hP [0, 1, 2, 3, 4, 5, 6, 7, 8, 9, 10, 11, 12, 13, 14] rfl 4 rfl rfl hl.1 rfl rfl (Nat.le_of_ble_eq_true rfl) ⟨Nat.zero_le _, Nat.zero_le _⟩ dX5_refusalOfStep_41 (fun r_8 hf => ?_)
          obtain ⟨hbr_8, hf⟩ := hf
          refine lv_if_eq (tgt := 64) hx hb dX5_refusalOfStep_44 (by decide) (fun c_9 => ?_) (fun c_9 => ?_)
          · have hf := hf.1 c_9
            obtain ⟨x_10, ex_10⟩ : ∃ y : Int32, y = y2 + (1 : Int32) := ⟨_, rfl⟩
            have hf := hf x_10 ex_10
            refine lv_iinc (v := x_10) (lv' := [(2, .int x_10), (3, .long r_7), (0, .ref (a 0)), (1, .int x1)]) hx hb dX5_refusalOfStep_64 hl (k := 3) rfl (by rw [ex_10]; rfl) (by decide) rfl (fun ls hl => ?_)
            refine lv_goto (tgt := 14) hx hb dX5_refusalOfStep_67 (by decide) ?_
            obtain ⟨k_11, hk_11, hf⟩ := hf
            exact (ih k_11 hk_11) _ ls hf (lv_sub hl [2, 3, 0] rfl)
          · have hf := hf.2 c_9
            refine lv_aload_n hx hb dX5_refusalOfStep_47 rfl (lv_at hl 1 rfl) ?_
            refine lv_lload_n hx hb dX5_refusalOfStep_48 rfl (lv_at hl 0 rfl) ?_
            refine z_cSi (As := [.long r_7]) (rest := [.ref (a 0)]) X (c_X0_sizeOf l dC dI cI cJ cS   r_7 _ hf) zc_X0_sizeOf q_ml_X5_145 ⟨rfl, rfl⟩ ⟨Nat.le_of_ble_eq_true rfl, Nat.le_of_ble_eq_true rfl⟩ hP [] rfl hl.1 rfl rfl (Nat.le_of_ble_eq_true rfl) ⟨Nat.zero_le _, Nat.zero_le _⟩ dX5_refusalOfStep_49 (fun r_12 hf => ?_)
            refine z_cVi (As := [.int r_12]) (rest := []) X (c_X5_fits l dC dI cI cJ cS a u r_12 _ hf) zc_X5_fits q_ml_X5_109 ⟨rfl, rfl⟩ ⟨Nat.le_of_ble_eq_true rfl, Nat.le_of_ble_eq_true rfl⟩ hP [0, 1, 2, 3, 4, 5, 6, 7, 8, 9, 10, 11, 12, 13, 14] rfl 4 rfl rfl hl.1 rfl rfl (Nat.le_of_ble_eq_true rfl) ⟨Nat.zero_le _, Nat.zero_le _⟩ dX5_refusalOfStep_52 (fun r_13 hf => ?_)
            obtain ⟨hbr_13, hf⟩ := hf
            refine lv_if_eq (tgt := 62) hx hb dX5_refusalOfStep_55 (by decide) (fun c_14 => ?_) (fun c_14 => ?_)
            · have hf := hf.1 c_14
              refine lv_iconst (v := 1) hx hb dX5_refusalOfStep_62 (by decide) ?_
              exact z_retPi X hf dX5_refusalOfStep_63
            · have hf := hf.2 c_14
              refine lv_iconst (v := 0) hx hb dX5_refusalOfStep_58 (by decide) ?_
              refine lv_goto (tgt := 63) hx hb dX5_refusalOfStep_59 (by decide) ?_
              exact z_retPi X hf dX5_refusalOfStep_63
  unfold t_X5_refusalOfStep_e at hf
  refine lv_aload_n hx hb dX5_refusalOfStep_0 rfl (lv_at hl 0 rfl) ?_
  refine va_get (D := (dC, dI)) (ci := 4) (v := .ref (a 11)) (C := RX5) (T := TX5) (N := 9) hx hb hts inX5 hown hK hP 0 rfl rfl 4 (by decide) (hts _ q_fl_X5_42) (fun _ h9 => h9) rfl dX5_refusalOfStep_1 ?_
  refine z_cVi (As := []) (rest := []) X (c_X1_isOn l dC dI cI cJ cS (fun i => a (11 + i)) u.2.2.2.2.1  _ hf) zc_X1_isOn q_ml_X5_127 ⟨rfl, rfl⟩ ⟨Nat.le_of_ble_eq_true rfl, Nat.le_of_ble_eq_true rfl⟩ hP [11, 12] rfl 0 rfl rfl hl.1 rfl rfl (Nat.le_of_ble_eq_true rfl) ⟨Nat.zero_le _, Nat.zero_le _⟩ dX5_refusalOfStep_4 (fun r_1 hf => ?_)
  obtain ⟨hbr_1, hf⟩ := hf
  refine lv_if_ne (tgt := 12) hx hb dX5_refusalOfStep_7 (by decide) (fun c_2 => ?_) (fun c_2 => ?_)
  · have hf := hf.1 c_2
    refine lv_iconst (v := 0) hx hb dX5_refusalOfStep_12 (by decide) ?_
    refine lv_istore_n (lv' := [(2, .int (0 : Int32)), (0, .ref (a 0)), (1, .int x1)]) hx hb dX5_refusalOfStep_13 rfl hl (by decide) rfl (fun ls hl => ?_)
    obtain ⟨k_3, hf⟩ := hf
    exact (LP k_3) _ ls hf (lv_sub hl [1, 2, 0] rfl)
  · have hf := hf.2 c_2
    refine lv_iconst (v := 5) hx hb dX5_refusalOfStep_10 (by decide) ?_
    exact z_retPi X hf dX5_refusalOfStep_11
/-- the first live one of m noted ones from the i-th left on: is there room for it -/
def uRs (u : zState) : Nat → Nat → Int32
  | 0, _ => 0
  | m + 1, i => if uLiv u (u.2.2.2.2.1.1 (xN u.2.2.2.2.1 + i)) then (if uFits u (4 + cLen (u.2.2.2.2.1.1 (xN u.2.2.2.2.1 + i))) then 0 else 1) else uRs u m (i + 1)
def uRst (u : zState) (n : Nat) : Int32 := if u.2.2.2.2.1.2.1 = -1 then 5 else uRs u (min n (wN u.2.2.2.2.1 - xN u.2.2.2.2.1)) 0
def s_X5_refusalOfStep (u : zState) (x1 : Int32) (Q : Int32 → Prop) : Prop := ∃ n : Nat, n ≤ 50 ∧ x1 = nI n ∧ zOk u ∧ (u.2.2.2.2.1.2.2.1 = nI (wN u.2.2.2.2.1) ∧ wN u.2.2.2.2.1 ≤ 50) ∧ (u.2.2.2.2.1.2.2.2 = nI (xN u.2.2.2.2.1) ∧ xN u.2.2.2.2.1 ≤ wN u.2.2.2.2.1) ∧ Q (uRst u n)
theorem st_X5_refusalOfStep {u : zState} {x1 : Int32} {Q : Int32 → Prop} (h : s_X5_refusalOfStep u x1 Q) : v_X5_refusalOfStep u x1 Q := by
  obtain ⟨n, hn, rfl, ho, hw, hx, h⟩ := h
  have hleft : u.2.2.2.2.1.2.2.1 - u.2.2.2.2.1.2.2.2 = nI (wN u.2.2.2.2.1 - xN u.2.2.2.2.1) := by
    rw [hw.1, hx.1]; exact lN_subI hx.2
  unfold uRst at h
  generalize hD : wN u.2.2.2.2.1 - xN u.2.2.2.2.1 = D at hleft h
  refine ⟨fun m y2 => ∃ i : Nat, y2 = nI i ∧ i ≤ min n D ∧ m = min n D - i ∧ Q (uRs u (min n D - i) i), ?_, ?_⟩
  · rintro m y2 ⟨i, rfl, hi, rfl, hq⟩
    have hi1 : i ≤ n := by omega
    have hi2 : i ≤ D := by omega
    unfold t_X5_refusalOfStep_14
    refine ⟨fun c => ?_, fun c => ?_⟩
    · have := (nI_leI (a := n) (b := i) (by omega) (by omega)).mp c
      rw [show min n D - i = 0 by omega] at hq; exact hq
    · have hc : ¬ n ≤ i := fun q => c (nI_le q (by omega))
      show (u.2.2.2.2.1.2.2.1 - u.2.2.2.2.1.2.2.2 ≤ nI i → _) ∧ (¬ u.2.2.2.2.1.2.2.1 - u.2.2.2.2.1.2.2.2 ≤ nI i → _)
      rw [hleft]
      refine ⟨fun c2 => ?_, fun c2 => ?_⟩
      · have := (nI_leI (a := D) (b := i) (by omega) (by omega)).mp c2
        rw [show min n D - i = 0 by omega] at hq; exact hq
      · have hc2 : ¬ D ≤ i := fun q => c2 (nI_le q (by omega))
        rw [show min n D - i = (min n D - (i + 1)) + 1 by omega] at hq
        unfold uRs at hq
        refine ⟨wN u.2.2.2.2.1, xN u.2.2.2.2.1, i, hw.2, by omega, hw.1, hx.1, rfl, ho, fun hl => ⟨fun q => absurd q (by decide), fun _ => ⟨ho, fun hf => ⟨fun q => absurd q (by decide), fun _ => ?_⟩, fun hf => ⟨fun _ => ?_, fun q => absurd rfl q⟩⟩⟩, fun hl => ⟨fun _ x e => ?_, fun q => absurd rfl q⟩⟩
        · rw [if_pos hl, if_pos hf] at hq; exact hq
        · rw [if_pos hl, if_neg (by rw [hf]; decide)] at hq; exact hq
        · rw [if_neg (by rw [hl]; decide)] at hq
          exact ⟨min n D - (i + 1), by omega, i + 1, by rw [e, nI_1], by omega, rfl, hq⟩
  · refine ⟨fun c => ⟨fun q => absurd rfl q, fun _ => ?_⟩, fun c => ⟨fun _ => ?_, fun q => absurd q (by decide)⟩⟩
    · rw [if_pos c] at h; exact h
    · rw [if_neg c] at h
      exact ⟨min n D - 0, 0, rfl, Nat.zero_le _, rfl, h⟩
theorem c_X5_refusalOfStep (l : Launch) (dC : Nat → ClassId) (dI : Nat → Nat → Nat) (cI cJ cS : ClassId) (a : Nat → Nat) (u : zState) (x1 : Int32) (Q : Int32 → Prop) (hf : s_X5_refusalOfStep u x1 Q) : Met l yX5_refusalOfStep (Cond.code yX5_refusalOfStep cX5_refusalOfStep 5 (some .int) :: zT) rm_X5_refusalOfStep (zPp dC dI cI cJ cS (cl_X5 cI cJ a u) [.ref (a 0), .int x1]) (vp_Si Q) 0 0 (fun _ => False) := by
  obtain ⟨I14, h14, hf⟩ := st_X5_refusalOfStep hf
  exact L_X5_refusalOfStep l dC dI cI cJ cS a u x1 Q I14 h14 hf

def t_X5_refusalOfPick (u : zState) (x1 : Int32) (Q : Int32 → Prop) : Prop := s_X1_isOn u.2.2.2.2.1 (fun r_1 : Int32 => ((r_1 = 0 → s_X4_kindOf u.2.2.1 x1 (fun r_3 : Int32 => ((¬ r_3 = (2 : Int32) → Q (4 : Int32)) ∧ (r_3 = (2 : Int32) → Q (0 : Int32))))) ∧ (¬ r_1 = 0 → Q (3 : Int32))))
theorem zc_X5_refusalOfPick : zCalV RX5 yX5_refusalOfPick cX5_refusalOfPick 2 (some .int) 1 := ⟨q_im_X5_refusalOfPick, q_se_X5_refusalOfPick, q_in_X5, q_cd_X5_refusalOfPick, ⟨by decide, by decide, by decide +kernel⟩, rfl⟩
abbrev rm_X5_refusalOfPick : Room := { frames := 1, cells := 0, slots := 0, locals := 21 }
set_option maxHeartbeats 4000000 in
set_option maxRecDepth 100000 in
theorem L_X5_refusalOfPick (l : Launch) (dC : Nat → ClassId) (dI : Nat → Nat → Nat) (cI cJ cS : ClassId) (a : Nat → Nat) (u : zState) (x1 : Int32) (Q : Int32 → Prop) (hf : t_X5_refusalOfPick u x1 Q) : Met l yX5_refusalOfPick (Cond.code yX5_refusalOfPick cX5_refusalOfPick 2 (some .int) :: zT) rm_X5_refusalOfPick (zPp dC dI cI cJ cS (cl_X5 cI cJ a u) [.ref (a 0), .int x1]) (vp_Si Q) 0 0 (fun _ => False) := by
  refine z_enterP (cc := cX5_refusalOfPick) (maxL := 2) (ret := (some .int)) (by decide) (Nat.le_of_ble_eq_true rfl) ?_
  intro p e s m below meth c ls X hP hl
  obtain ⟨⟨hx, hb, hml, hown, hts⟩, hr, hlk, hK⟩ := id X
  have hl : lv_has ls 2 [(0, .ref (a 0)), (1, .int x1)] := hl
  unfold t_X5_refusalOfPick at hf
  refine lv_aload_n hx hb dX5_refusalOfPick_0 rfl (lv_at hl 0 rfl) ?_
  refine va_get (D := (dC, dI)) (ci := 4) (v := .ref (a 11)) (C := RX5) (T := TX5) (N := 9) hx hb hts inX5 hown hK hP 0 rfl rfl 4 (by decide) (hts _ q_fl_X5_42) (fun _ h9 => h9) rfl dX5_refusalOfPick_1 ?_
  refine z_cVi (As := []) (rest := []) X (c_X1_isOn l dC dI cI cJ cS (fun i => a (11 + i)) u.2.2.2.2.1  _ hf) zc_X1_isOn q_ml_X5_127 ⟨rfl, rfl⟩ ⟨Nat.le_of_ble_eq_true rfl, Nat.le_of_ble_eq_true rfl⟩ hP [11, 12] rfl 0 rfl rfl hl.1 rfl rfl (Nat.le_of_ble_eq_true rfl) ⟨Nat.zero_le _, Nat.zero_le _⟩ dX5_refusalOfPick_4 (fun r_1 hf => ?_)
  obtain ⟨hbr_1, hf⟩ := hf
  refine lv_if_eq (tgt := 12) hx hb dX5_refusalOfPick_7 (by decide) (fun c_2 => ?_) (fun c_2 => ?_)
  · have hf := hf.1 c_2
    refine lv_aload_n hx hb dX5_refusalOfPick_12 rfl (lv_at hl 0 rfl) ?_
    refine va_get (D := (dC, dI)) (ci := 4) (v := .ref (a 3)) (C := RX5) (T := TX5) (N := 9) hx hb hts inX5 hown hK hP 0 rfl rfl 2 (by decide) (hts _ q_fl_X5_28) (fun _ h9 => h9) rfl dX5_refusalOfPick_13 ?_
    refine lv_iload_n hx hb dX5_refusalOfPick_16 rfl (lv_at hl 1 rfl) ?_
    refine z_cVi (As := [.int x1]) (rest := []) X (c_X4_kindOf l dC dI cI cJ cS (fun i => a (3 + i)) u.2.2.1 x1 _ hf) zc_X4_kindOf q_ml_X5_131 ⟨rfl, rfl⟩ ⟨Nat.le_of_ble_eq_true rfl, Nat.le_of_ble_eq_true rfl⟩ hP [3, 4, 5, 6, 7] rfl 3 rfl rfl hl.1 rfl rfl (Nat.le_of_ble_eq_true rfl) ⟨Nat.zero_le _, Nat.zero_le _⟩ dX5_refusalOfPick_17 (fun r_3 hf => ?_)
    refine lv_iconst (v := 2) hx hb dX5_refusalOfPick_20 (by decide) ?_
    refine lv_icmp_ne (tgt := 28) hx hb dX5_refusalOfPick_21 (by decide) (fun c_4 => ?_) (fun c_4 => ?_)
    · have hf := hf.1 c_4
      refine lv_iconst (v := 4) hx hb dX5_refusalOfPick_28 (by decide) ?_
      exact z_retPi X hf dX5_refusalOfPick_29
    · have hf := hf.2 c_4
      refine lv_iconst (v := 0) hx hb dX5_refusalOfPick_24 (by decide) ?_
      refine lv_goto (tgt := 29) hx hb dX5_refusalOfPick_25 (by decide) ?_
      exact z_retPi X hf dX5_refusalOfPick_29
  · have hf := hf.2 c_2
    refine lv_iconst (v := 3) hx hb dX5_refusalOfPick_10 (by decide) ?_
    exact z_retPi X hf dX5_refusalOfPick_11
def uRp (u : zState) (x : Int32) : Int32 := if u.2.2.2.2.1.2.1 = -1 then (if x = -1 then 4 else if u.2.2.1.2.2.2.1 x.toNatClampNeg = 2 then 0 else 4) else 3
def s_X5_refusalOfPick (u : zState) (x1 : Int32) (Q : Int32 → Prop) : Prop := (x1 = -1 ∨ ∃ s : Nat, s < 12 ∧ x1 = nI s) ∧ Q (uRp u x1)
theorem st_X5_refusalOfPick {u : zState} {x1 : Int32} {Q : Int32 → Prop} (h : s_X5_refusalOfPick u x1 Q) : t_X5_refusalOfPick u x1 Q := by
  obtain ⟨hx, h⟩ := h
  unfold uRp at h
  refine ⟨fun c => ⟨fun _ => ?_, fun q => absurd rfl q⟩, fun c => ⟨fun q => absurd q (by decide), fun _ => ?_⟩⟩
  · rw [if_pos c] at h
    rcases hx with rfl | ⟨s, hs, rfl⟩
    · exact Or.inr ⟨rfl, fun _ => h, fun q => absurd q (by decide)⟩
    · rw [if_neg (n_neg (by omega)), nI_clamp (by omega)] at h
      refine Or.inl ⟨s, hs, rfl, fun q => ?_, fun q => ?_⟩
      · rw [if_neg q] at h; exact h
      · rw [if_pos q] at h; exact h
  · rw [if_neg c] at h; exact h
theorem c_X5_refusalOfPick (l : Launch) (dC : Nat → ClassId) (dI : Nat → Nat → Nat) (cI cJ cS : ClassId) (a : Nat → Nat) (u : zState) (x1 : Int32) (Q : Int32 → Prop) (hf : s_X5_refusalOfPick u x1 Q) : Met l yX5_refusalOfPick (Cond.code yX5_refusalOfPick cX5_refusalOfPick 2 (some .int) :: zT) rm_X5_refusalOfPick (zPp dC dI cI cJ cS (cl_X5 cI cJ a u) [.ref (a 0), .int x1]) (vp_Si Q) 0 0 (fun _ => False) := L_X5_refusalOfPick l dC dI cI cJ cS a u x1 Q (st_X5_refusalOfPick hf)

def t_X5_replayed_e (u : zState) (K4 : Int32 → Int32 → Prop) (K12 : Int32 → Int32 → Int32 → Prop) (Q : Int32 → Prop) : Prop := K4 (0 : Int32) (0 : Int32)
def t_X5_replayed_4 (u : zState) (y1 : Int32) (y2 : Int32) (K4 : Int32 → Int32 → Prop) (K12 : Int32 → Int32 → Int32 → Prop) (Q : Int32 → Prop) : Prop := (((12 : Int32) ≤ y2 → Q y1) ∧ (¬ (12 : Int32) ≤ y2 → K12 y1 y2 (0 : Int32)))
def t_X5_replayed_12 (u : zState) (y1 : Int32) (y2 : Int32) (y3 : Int32) (K4 : Int32 → Int32 → Prop) (K12 : Int32 → Int32 → Int32 → Prop) (Q : Int32 → Prop) : Prop := s_X4_countOf u.2.2.1 y2 (fun r_4 : Int32 => ((r_4 ≤ y3 → ∀ x_6 : Int32, x_6 = y2 + (1 : Int32) → K4 y1 x_6) ∧ (¬ r_4 ≤ y3 → s_X4_cardAt u.2.2.1 y2 y3 (fun r_8 : Int64 => s_X0_numberOf r_8 (fun r_9 : Int32 => ((r_9 ≤ u.2.2.2.2.2.2.2.2 → ∀ x_11 : Int32, x_11 = (y1 + (0 : Int32)) → ∀ x_12 : Int32, x_12 = y3 + (1 : Int32) → K12 x_11 y2 x_12) ∧ (¬ r_9 ≤ u.2.2.2.2.2.2.2.2 → ((u.2.2.2.2.2.2.2.1 < r_9 → ∀ x_15 : Int32, x_15 = (y1 + (0 : Int32)) → ∀ x_16 : Int32, x_16 = y3 + (1 : Int32) → K12 x_15 y2 x_16) ∧ (¬ u.2.2.2.2.2.2.2.1 < r_9 → ∀ x_18 : Int32, x_18 = (y1 + (1 : Int32)) → ∀ x_19 : Int32, x_19 = y3 + (1 : Int32) → K12 x_18 y2 x_19)))))))))
theorem zc_X5_replayed : zCalV RX5 yX5_replayed cX5_replayed 5 (some .int) 0 := ⟨q_im_X5_replayed, q_se_X5_replayed, q_in_X5, q_cd_X5_replayed, ⟨by decide, by decide, by decide +kernel⟩, rfl⟩
abbrev rm_X5_replayed : Room := { frames := 1, cells := 0, slots := 0, locals := 22 }
def v_X5_replayed (u : zState) (Q : Int32 → Prop) : Prop := ∃ I4 : Nat → Int32 → Int32 → Prop, ∃ I12 : Nat → Int32 → Int32 → Int32 → Prop, (∀ (n : Nat) (y1 : Int32) (y2 : Int32), I4 n y1 y2 → t_X5_replayed_4 u y1 y2 (fun q0 q1 => ∃ k : Nat, k < n ∧ I4 k q0 q1) (fun q0 q1 q2 => ∃ k : Nat, k < n ∧ I12 k q0 q1 q2) Q) ∧ (∀ (n : Nat) (y1 : Int32) (y2 : Int32) (y3 : Int32), I12 n y1 y2 y3 → t_X5_replayed_12 u y1 y2 y3 (fun q0 q1 => ∃ k : Nat, k < n ∧ I4 k q0 q1) (fun q0 q1 q2 => ∃ k : Nat, k < n ∧ I12 k q0 q1 q2) Q) ∧ t_X5_replayed_e u (fun q0 q1 => ∃ k : Nat, I4 k q0 q1) (fun q0 q1 q2 => ∃ k : Nat, I12 k q0 q1 q2) Q
set_option maxHeartbeats 4000000 in
set_option maxRecDepth 100000 in
theorem L_X5_replayed (l : Launch) (dC : Nat → ClassId) (dI : Nat → Nat → Nat) (cI cJ cS : ClassId) (a : Nat → Nat) (u : zState) (Q : Int32 → Prop) (I4 : Nat → Int32 → Int32 → Prop) (I12 : Nat → Int32 → Int32 → Int32 → Prop) (h4 : ∀ (n : Nat) (y1 : Int32) (y2 : Int32), I4 n y1 y2 → t_X5_replayed_4 u y1 y2 (fun q0 q1 => ∃ k : Nat, k < n ∧ I4 k q0 q1) (fun q0 q1 q2 => ∃ k : Nat, k < n ∧ I12 k q0 q1 q2) Q) (h12 : ∀ (n : Nat) (y1 : Int32) (y2 : Int32) (y3 : Int32), I12 n y1 y2 y3 → t_X5_replayed_12 u y1 y2 y3 (fun q0 q1 => ∃ k : Nat, k < n ∧ I4 k q0 q1) (fun q0 q1 q2 => ∃ k : Nat, k < n ∧ I12 k q0 q1 q2) Q) (hf : t_X5_replayed_e u (fun q0 q1 => ∃ k : Nat, I4 k q0 q1) (fun q0 q1 q2 => ∃ k : Nat, I12 k q0 q1 q2) Q) : Met l yX5_replayed (Cond.code yX5_replayed cX5_replayed 5 (some .int) :: zT) rm_X5_replayed (zPp dC dI cI cJ cS (cl_X5 cI cJ a u) [.ref (a 0)]) (vp_Si Q) 0 0 (fun _ => False) := by
  refine z_enterP (cc := cX5_replayed) (maxL := 5) (ret := (some .int)) (by decide) (Nat.le_of_ble_eq_true rfl) ?_
  intro p e s m below meth c ls X hP hl
  obtain ⟨⟨hx, hb, hml, hown, hts⟩, hr, hlk, hK⟩ := id X
  have hl : lv_has ls 5 [(0, .ref (a 0))] := hl
  have LP : ∀ n : Nat, (∀ (y1 : Int32) (y2 : Int32) (ls : Array Slot), I4 n y1 y2 → lv_has ls 5 [(0, .ref (a 0)), (1, .int y1), (2, .int y2)] → W p l e rm_X5_replayed s m [.ref (a 0)].toArray below meth c s.heap [] 0 0 (MQ below (vp_Si Q) [.ref (a 0)].toArray s 0 0 (fun _ => False)) (F0 m 4 ls [])) ∧ (∀ (y1 : Int32) (y2 : Int32) (y3 : Int32) (ls : Array Slot), I12 n y1 y2 y3 → lv_has ls 5 [(0, .ref (a 0)), (1, .int y1), (2, .int y2), (3, .int y3)] → W p l e rm_X5_replayed s m [.ref (a 0)].toArray below meth c s.heap [] 0 0 (MQ below (vp_Si Q) [.ref (a 0)].toArray s 0 0 (fun _ => False)) (F0 m 12 ls [])) := by
    intro n
    induction n using Nat.strongRecOn with
    | _ n ih =>
      refine ⟨?_, ?_⟩
      · intro y1 y2 ls hI hl
        have hf := h4 n y1 y2 hI
        unfold t_X5_replayed_4 at hf
        refine lv_iload_n hx hb dX5_replayed_4 rfl (lv_at hl 2 rfl) ?_
        refine lv_bipush (v := 12) hx hb dX5_replayed_5 (by decide) ?_
        refine lv_icmp_ge (tgt := 76) hx hb dX5_replayed_7 (by decide) (fun c_2 => ?_) (fun c_2 => ?_)
        · have hf := hf.1 c_2
          refine lv_iload_n hx hb dX5_replayed_76 rfl (lv_at hl 1 rfl) ?_
          exact z_retPi X hf dX5_replayed_77
        · have hf := hf.2 c_2
          refine lv_iconst (v := 0) hx hb dX5_replayed_10 (by decide) ?_
          refine lv_istore_n (lv' := [(3, .int (0 : Int32)), (0, .ref (a 0)), (1, .int y1), (2, .int y2)]) hx hb dX5_replayed_11 rfl hl (by decide) rfl (fun ls hl => ?_)
          obtain ⟨k_3, hk_3, hf⟩ := hf
          exact (ih k_3 hk_3).2 _ _ _ ls hf (lv_sub hl [1, 2, 3, 0] rfl)
      · intro y1 y2 y3 ls hI hl
        have hf := h12 n y1 y2 y3 hI
        unfold t_X5_replayed_12 at hf
        refine lv_iload_n hx hb dX5_replayed_12 rfl (lv_at hl 3 rfl) ?_
        refine lv_aload_n hx hb dX5_replayed_13 rfl (lv_at hl 0 rfl) ?_
        refine va_get (D := (dC, dI)) (ci := 4) (v := .ref (a 3)) (C := RX5) (T := TX5) (N := 9) hx hb hts inX5 hown hK hP 0 rfl rfl 2 (by decide) (hts _ q_fl_X5_28) (fun _ h9 => h9) rfl dX5_replayed_14 ?_
        refine lv_iload_n hx hb dX5_replayed_17 rfl (lv_at hl 2 rfl) ?_
        refine z_cVi (As := [.int y2]) (rest := [.int y3]) X (c_X4_countOf l dC dI cI cJ cS (fun i => a (3 + i)) u.2.2.1 y2 _ hf) zc_X4_countOf q_ml_X5_246 ⟨rfl, rfl⟩ ⟨Nat.le_of_ble_eq_true rfl, Nat.le_of_ble_eq_true rfl⟩ hP [3, 4, 5, 6, 7] rfl 3 rfl rfl hl.1 rfl rfl (Nat.le_of_ble_eq_true rfl) ⟨Nat.zero_le _, Nat.zero_le _⟩ dX5_replayed_18 (fun r_4 hf => ?_)
        refine lv_icmp_ge (tgt := 70) hx hb dX5_replayed_21 (by decide) (fun c_5 => ?_) (fun c_5 => ?_)
        · have hf := hf.1 c_5
          obtain ⟨x_6, ex_6⟩ : ∃ y : Int32, y = y2 + (1 : Int32) := ⟨_, rfl⟩
          have hf := hf x_6 ex_6
          refine lv_iinc (v := x_6) (lv' := [(2, .int x_6), (0, .ref (a 0)), (1, .int y1), (3, .int y3)]) hx hb dX5_replayed_70 hl (k := 2) rfl (by rw [ex_6]; rfl) (by decide) rfl (fun ls hl => ?_)
          refine lv_goto (tgt := 4) hx hb dX5_replayed_73 (by decide) ?_
          obtain ⟨k_7, hk_7, hf⟩ := hf
          exact (ih k_7 hk_7).1 _ _ ls hf (lv_sub hl [1, 2, 0] rfl)
        · have hf := hf.2 c_5
          refine lv_aload_n hx hb dX5_replayed_24 rfl (lv_at hl 0 rfl) ?_
          refine va_get (D := (dC, dI)) (ci := 4) (v := .ref (a 3)) (C := RX5) (T := TX5) (N := 9) hx hb hts inX5 hown hK hP 0 rfl rfl 2 (by decide) (hts _ q_fl_X5_28) (fun _ h9 => h9) rfl dX5_replayed_25 ?_
          refine lv_iload_n hx hb dX5_replayed_28 rfl (lv_at hl 2 rfl) ?_
          refine lv_iload_n hx hb dX5_replayed_29 rfl (lv_at hl 3 rfl) ?_
          refine z_cVl (As := [.int y2, .int y3]) (rest := []) X (c_X4_cardAt l dC dI cI cJ cS (fun i => a (3 + i)) u.2.2.1 y2 y3 _ hf) zc_X4_cardAt q_ml_X5_249 ⟨rfl, rfl⟩ ⟨Nat.le_of_ble_eq_true rfl, Nat.le_of_ble_eq_true rfl⟩ hP [3, 4, 5, 6, 7] rfl 3 rfl rfl hl.1 rfl rfl (Nat.le_of_ble_eq_true rfl) ⟨Nat.zero_le _, Nat.zero_le _⟩ dX5_replayed_30 (fun r_8 hf => ?_)
          refine z_cSi (As := [.long r_8]) (rest := []) X (c_X0_numberOf l dC dI cI cJ cS   r_8 _ hf) zc_X0_numberOf q_ml_X5_259 ⟨rfl, rfl⟩ ⟨Nat.le_of_ble_eq_true rfl, Nat.le_of_ble_eq_true rfl⟩ hP [] rfl hl.1 rfl rfl (Nat.le_of_ble_eq_true rfl) ⟨Nat.zero_le _, Nat.zero_le _⟩ dX5_replayed_33 (fun r_9 hf => ?_)
          refine lv_istore (lv' := [(4, .int r_9), (0, .ref (a 0)), (1, .int y1), (2, .int y2), (3, .int y3)]) hx hb dX5_replayed_36 hl (by decide) rfl (fun ls hl => ?_)
          refine lv_iload_n hx hb dX5_replayed_38 rfl (lv_at hl 2 rfl) ?_
          refine lv_iload hx hb dX5_replayed_39 (lv_at hl 0 rfl) ?_
          refine lv_aload_n hx hb dX5_replayed_41 rfl (lv_at hl 1 rfl) ?_
          refine va_get (D := (dC, dI)) (ci := 4) (v := .int u.2.2.2.2.2.2.2.2) (C := RX5) (T := TX5) (N := 9) hx hb hts inX5 hown hK hP 0 rfl rfl 8 (by decide) (hts _ q_fl_X5_87) (fun _ h9 => h9) rfl dX5_replayed_42 ?_
          refine lv_icmp_le (tgt := 61) hx hb dX5_replayed_45 (by decide) (fun c_10 => ?_) (fun c_10 => ?_)
          · have hf := hf.1 c_10
            refine lv_iconst (v := 0) hx hb dX5_replayed_61 (by decide) ?_
            refine lv_iadd hx hb dX5_replayed_62 ?_
            refine lv_topi (fun x_11 ex_11 => ?_)
            have hf := hf x_11 ex_11
            refine lv_istore_n (lv' := [(1, .int x_11), (4, .int r_9), (0, .ref (a 0)), (2, .int y2), (3, .int y3)]) hx hb dX5_replayed_63 rfl hl (by decide) rfl (fun ls hl => ?_)
            obtain ⟨x_12, ex_12⟩ : ∃ y : Int32, y = y3 + (1 : Int32) := ⟨_, rfl⟩
            have hf := hf x_12 ex_12
            refine lv_iinc (v := x_12) (lv' := [(3, .int x_12), (1, .int x_11), (4, .int r_9), (0, .ref (a 0)), (2, .int y2)]) hx hb dX5_replayed_64 hl (k := 4) rfl (by rw [ex_12]; rfl) (by decide) rfl (fun ls hl => ?_)
            refine lv_goto (tgt := 12) hx hb dX5_replayed_67 (by decide) ?_
            obtain ⟨k_13, hk_13, hf⟩ := hf
            exact (ih k_13 hk_13).2 _ _ _ ls hf (lv_sub hl [3, 1, 4, 0] rfl)
          · have hf := hf.2 c_10
            refine lv_iload hx hb dX5_replayed_48 (lv_at hl 0 rfl) ?_
            refine lv_aload_n hx hb dX5_replayed_50 rfl (lv_at hl 1 rfl) ?_
            refine va_get (D := (dC, dI)) (ci := 4) (v := .int u.2.2.2.2.2.2.2.1) (C := RX5) (T := TX5) (N := 9) hx hb hts inX5 hown hK hP 0 rfl rfl 7 (by decide) (hts _ q_fl_X5_84) (fun _ h9 => h9) rfl dX5_replayed_51 ?_
            refine lv_icmp_gt (tgt := 61) hx hb dX5_replayed_54 (by decide) (fun c_14 => ?_) (fun c_14 => ?_)
            · have hf := hf.1 c_14
              refine lv_iconst (v := 0) hx hb dX5_replayed_61 (by decide) ?_
              refine lv_iadd hx hb dX5_replayed_62 ?_
              refine lv_topi (fun x_15 ex_15 => ?_)
              have hf := hf x_15 ex_15
              refine lv_istore_n (lv' := [(1, .int x_15), (4, .int r_9), (0, .ref (a 0)), (2, .int y2), (3, .int y3)]) hx hb dX5_replayed_63 rfl hl (by decide) rfl (fun ls hl => ?_)
              obtain ⟨x_16, ex_16⟩ : ∃ y : Int32, y = y3 + (1 : Int32) := ⟨_, rfl⟩
              have hf := hf x_16 ex_16
              refine lv_iinc (v := x_16) (lv' := [(3, .int x_16), (1, .int x_15), (4, .int r_9), (0, .ref (a 0)), (2, .int y2)]) hx hb dX5_replayed_64 hl (k := 4) rfl (by rw [ex_16]; rfl) (by decide) rfl (fun ls hl => ?_)
              refine lv_goto (tgt := 12) hx hb dX5_replayed_67 (by decide) ?_
              obtain ⟨k_17, hk_17, hf⟩ := hf
              exact (ih k_17 hk_17).2 _ _ _ ls hf (lv_sub hl [3, 1, 4, 0] rfl)
            · have hf := hf.2 c_14
              refine lv_iconst (v := 1) hx hb dX5_replayed_57 (by decide) ?_
              refine lv_goto (tgt := 62) hx hb dX5_replayed_58 (by decide) ?_
              refine lv_iadd hx hb dX5_replayed_62 ?_
              refine lv_topi (fun x_18 ex_18 => ?_)
              have hf := hf x_18 ex_18
              refine lv_istore_n (lv' := [(1, .int x_18), (4, .int r_9), (0, .ref (a 0)), (2, .int y2), (3, .int y3)]) hx hb dX5_replayed_63 rfl hl (by decide) rfl (fun ls hl => ?_)
              obtain ⟨x_19, ex_19⟩ : ∃ y : Int32, y = y3 + (1 : Int32) := ⟨_, rfl⟩
              have hf := hf x_19 ex_19
              refine lv_iinc (v := x_19) (lv' := [(3, .int x_19), (1, .int x_18), (4, .int r_9), (0, .ref (a 0)), (2, .int y2)]) hx hb dX5_replayed_64 hl (k := 4) rfl (by rw [ex_19]; rfl) (by decide) rfl (fun ls hl => ?_)
              refine lv_goto (tgt := 12) hx hb dX5_replayed_67 (by decide) ?_
              obtain ⟨k_20, hk_20, hf⟩ := hf
              exact (ih k_20 hk_20).2 _ _ _ ls hf (lv_sub hl [3, 1, 4, 0] rfl)
  unfold t_X5_replayed_e at hf
  refine lv_iconst (v := 0) hx hb dX5_replayed_0 (by decide) ?_
  refine lv_istore_n (lv' := [(1, .int (0 : Int32)), (0, .ref (a 0))]) hx hb dX5_replayed_1 rfl hl (by decide) rfl (fun ls hl => ?_)
  refine lv_iconst (v := 0) hx hb dX5_replayed_2 (by decide) ?_
  refine lv_istore_n (lv' := [(2, .int (0 : Int32)), (1, .int (0 : Int32)), (0, .ref (a 0))]) hx hb dX5_replayed_3 rfl hl (by decide) rfl (fun ls hl => ?_)
  obtain ⟨k_1, hf⟩ := hf
  exact (LP k_1).1 _ _ ls hf (lv_sub hl [2, 1, 0] rfl)
/-- how many records a crash would put into the table -/
def uRpl (u : zState) (c : Int64) : Bool := decide (u.2.2.2.2.2.2.2.2 < cNum c ∧ cNum c ≤ u.2.2.2.2.2.2.2.1)
def uRpN (u : zState) : Nat → Nat
  | 0 => 0
  | s + 1 => uRpN u s + fa_cnt (fun k => uRpl u (uRec u s k)) (cN u s)
def s_X5_replayed (u : zState) (Q : Int32 → Prop) : Prop := zOk u ∧ Q (nI (uRpN u 12))
theorem st_X5_replayed {u : zState} {Q : Int32 → Prop} (h : s_X5_replayed u Q) : v_X5_replayed u Q := by
  obtain ⟨ho, h⟩ := h
  refine ⟨fun m y1 y2 => ∃ s : Nat, s ≤ 12 ∧ m = 1000 * (12 - s) + 500 ∧ y1 = nI (uRpN u s) ∧ y2 = nI s,
    fun m y1 y2 y3 => ∃ s j : Nat, s < 12 ∧ j ≤ cN u s ∧ m = 1000 * (12 - s) + (60 - j) ∧ y1 = nI (uRpN u s + fa_cnt (fun k => uRpl u (uRec u s k)) j) ∧ y2 = nI s ∧ y3 = nI j, ?_, ?_, ?_⟩
  · rintro m y1 y2 ⟨s, hs, rfl, rfl, rfl⟩
    refine ⟨fun c => ?_, fun c => ?_⟩
    · have : s = 12 := by
        have := (nI_leI (a := 12) (b := s) (by decide) (by omega)).mp c
        omega
      subst this
      exact h
    · have hs : s < 12 := by
        have : ¬ 12 ≤ s := fun q => c (le12 q (by omega))
        omega
      exact ⟨1000 * (12 - s) + (60 - 0), by omega, s, 0, hs, Nat.zero_le _, rfl, rfl, rfl, rfl⟩
  · rintro m y1 y2 y3 ⟨s, j, hs, hj, rfl, rfl, rfl, rfl⟩
    have h50 := ho.cl hs
    refine ⟨s, hs, rfl, ?_⟩
    rw [ho.c hs]
    refine ⟨fun c x e => ?_, fun c => ?_⟩
    · have : j = cN u s := by
        have := (nI_leI (by omega) (by omega)).mp c
        omega
      subst this
      exact ⟨1000 * (12 - (s + 1)) + 500, by omega, s + 1, by omega, rfl, rfl, by rw [e, nI_1]⟩
    · have hj : j < cN u s := by
        have : ¬ cN u s ≤ j := fun q => c (nI_le q (by omega))
        omega
      have nx : ∀ b : Nat, fa_cnt (fun k => uRpl u (uRec u s k)) (j + 1) = fa_cnt (fun k => uRpl u (uRec u s k)) j + b → ∀ x : Int32, x = nI (uRpN u s + fa_cnt (fun k => uRpl u (uRec u s k)) j) + nI b → ∀ x' : Int32, x' = nI j + 1 → ∃ k, k < 1000 * (12 - s) + (60 - j) ∧ ∃ s' j' : Nat, s' < 12 ∧ j' ≤ cN u s' ∧ k = 1000 * (12 - s') + (60 - j') ∧ x = nI (uRpN u s' + fa_cnt (fun k => uRpl u (uRec u s' k)) j') ∧ nI s = nI s' ∧ x' = nI j' := by
        intro b eb x ex x' ex'
        refine ⟨1000 * (12 - s) + (60 - (j + 1)), by omega, s, j + 1, hs, hj, rfl, ?_, rfl, by rw [ex', nI_1]⟩
        rw [ex, nI_add, eb, Nat.add_assoc]
      refine ⟨s, cN u s, hs, h50, rfl, ho.c hs, Or.inl ⟨j, hj, rfl, fun c2 x e x' e' => ?_, fun c2 => ⟨fun c3 x e x' e' => ?_, fun c3 x e x' e' => ?_⟩⟩⟩
      · exact nx 0 (fa_cnt_no (p := fun k => uRpl u (uRec u s k)) (decide_eq_false (fun q => n_nlt q.1 c2))) x e x' e'
      · exact nx 0 (fa_cnt_no (p := fun k => uRpl u (uRec u s k)) (decide_eq_false (fun q => n_nlt c3 q.2))) x e x' e'
      · exact nx 1 (fa_cnt_yes (p := fun k => uRpl u (uRec u s k)) (decide_eq_true ⟨n_nle c2, fa_of_nlt c3⟩)) x e x' e'
  · exact ⟨1000 * (12 - 0) + 500, 0, by omega, rfl, rfl, rfl⟩
theorem c_X5_replayed (l : Launch) (dC : Nat → ClassId) (dI : Nat → Nat → Nat) (cI cJ cS : ClassId) (a : Nat → Nat) (u : zState) (Q : Int32 → Prop) (hf : s_X5_replayed u Q) : Met l yX5_replayed (Cond.code yX5_replayed cX5_replayed 5 (some .int) :: zT) rm_X5_replayed (zPp dC dI cI cJ cS (cl_X5 cI cJ a u) [.ref (a 0)]) (vp_Si Q) 0 0 (fun _ => False) := by
  obtain ⟨I4, I12, h4, h12, hf⟩ := st_X5_replayed hf
  exact L_X5_replayed l dC dI cI cJ cS a u Q I4 I12 h4 h12 hf

def t_X5_begin (u : zState) (x1 : Int32) (x2 : Int32) (x3 : Int32) (x4 : Int32) (Q : zState → Prop) : Prop := s_X8_clear u.2.1 (fun (u_2 : zTotals) => s_X4_clear u.2.2.1 (fun (u_4 : zSegs) => s_X9_clear u.2.2.2.1 (fun (u_6 : zTree) => s_X1_stop u.2.2.2.2.1 (fun (u_8 : zColl) => Q ((x1, x2, x3, x4), u_2, u_4, u_6, u_8, (u.2.2.2.2.2.1.1, (0 : Int32)), (0 : Int32), (0 : Int32), (0 : Int32))))))
theorem zc_X5_begin : zCalV RX5 yX5_begin cX5_begin 5 none 4 := ⟨q_im_X5_begin, q_se_X5_begin, q_in_X5, q_cd_X5_begin, ⟨by decide, by decide, by decide +kernel⟩, rfl⟩
abbrev rm_X5_begin : Room := { frames := 3, cells := 0, slots := 0, locals := 62 }
set_option maxHeartbeats 4000000 in
set_option maxRecDepth 100000 in
theorem L_X5_begin (l : Launch) (dC : Nat → ClassId) (dI : Nat → Nat → Nat) (cI cJ cS : ClassId) (a : Nat → Nat) (u : zState) (x1 : Int32) (x2 : Int32) (x3 : Int32) (x4 : Int32) (Q : zState → Prop) (hf : t_X5_begin u x1 x2 x3 x4 Q) : ∀ sz : Nat, Met l yX5_begin (Cond.code yX5_begin cX5_begin 5 none :: zT) rm_X5_begin (zPm dC dI cI cJ cS (cl_X5 cI cJ a u) [.ref (a 0), .int x1, .int x2, .int x3, .int x4] sz) (va_Qv Q (zB dC dI cI cJ cS (va_A (cl_X5 cI cJ a u) sz) (fun z => cl_X5 cI cJ a z)) (va_A (cl_X5 cI cJ a u) sz)) 0 0 (va_A (cl_X5 cI cJ a u) sz) := by
  intro sz
  refine z_enterM (Qc := fun A => va_Qv Q (zB dC dI cI cJ cS A (fun z => cl_X5 cI cJ a z)) A) (cc := cX5_begin) (maxL := 5) (ret := none) (by decide) (Nat.le_of_ble_eq_true rfl) ?_
  intro p e s m below meth c ls A X hP hD hS hA hl
  obtain ⟨⟨hx, hb, hml, hown, hts⟩, hr, hlk, hK⟩ := id X
  have hl : lv_has ls 5 [(0, .ref (a 0)), (1, .int x1), (2, .int x2), (3, .int x3), (4, .int x4)] := hl
  unfold t_X5_begin at hf
  refine lv_aload_n hx hb dX5_begin_0 rfl (lv_at hl 0 rfl) ?_
  refine va_get (D := (dC, dI)) (ci := 4) (v := .ref (a 1)) (C := RX5) (T := TX5) (N := 9) hx hb hts inX5 hown hK hP 0 rfl rfl 0 (by decide) (hts _ q_fl_X5_12) (fun _ h9 => h9) rfl dX5_begin_1 ?_
  refine lv_iload_n hx hb dX5_begin_4 rfl (lv_at hl 1 rfl) ?_
  refine z_put (w' := cl_X5 cI cJ a ((x1, u.1.2.1, u.1.2.2.1, u.1.2.2.2), u.2.1, u.2.2.1, u.2.2.2.1, u.2.2.2.2.1, u.2.2.2.2.2.1, u.2.2.2.2.2.2.1, u.2.2.2.2.2.2.2.1, u.2.2.2.2.2.2.2.2)) (ci := 6) (v := .int x1) (ty := .int) (Cn := RX7) (T := TX7) (N := 4) X inX7 tyX7 tyX7_ok nmX7 hP hD hS 1 rfl rfl 0 (by decide) (hts _ q_fl_X5_57) (fun _ h9 => h9) rfl (tyX7_ok 0 (by decide)) rfl rfl (Nat.le_of_ble_eq_true rfl) rfl dX5_begin_5 (fun H locs hP hD hS => ?_)
  refine lv_aload_n hx hb dX5_begin_8 rfl (lv_at hl 0 rfl) ?_
  refine va_get (D := (dC, dI)) (ci := 4) (v := .ref (a 1)) (C := RX5) (T := TX5) (N := 9) hx hb hts inX5 hown hK hP 0 rfl rfl 0 (by decide) (hts _ q_fl_X5_12) (fun _ h9 => h9) rfl dX5_begin_9 ?_
  refine lv_iload_n hx hb dX5_begin_12 rfl (lv_at hl 2 rfl) ?_
  refine z_put (w' := cl_X5 cI cJ a ((x1, x2, u.1.2.2.1, u.1.2.2.2), u.2.1, u.2.2.1, u.2.2.2.1, u.2.2.2.2.1, u.2.2.2.2.2.1, u.2.2.2.2.2.2.1, u.2.2.2.2.2.2.2.1, u.2.2.2.2.2.2.2.2)) (ci := 6) (v := .int x2) (ty := .int) (Cn := RX7) (T := TX7) (N := 4) X inX7 tyX7 tyX7_ok nmX7 hP hD hS 1 rfl rfl 1 (by decide) (hts _ q_fl_X5_61) (fun _ h9 => h9) rfl (tyX7_ok 1 (by decide)) rfl rfl (Nat.le_of_ble_eq_true rfl) rfl dX5_begin_13 (fun H locs hP hD hS => ?_)
  refine lv_aload_n hx hb dX5_begin_16 rfl (lv_at hl 0 rfl) ?_
  refine va_get (D := (dC, dI)) (ci := 4) (v := .ref (a 1)) (C := RX5) (T := TX5) (N := 9) hx hb hts inX5 hown hK hP 0 rfl rfl 0 (by decide) (hts _ q_fl_X5_12) (fun _ h9 => h9) rfl dX5_begin_17 ?_
  refine lv_iload_n hx hb dX5_begin_20 rfl (lv_at hl 3 rfl) ?_
  refine z_put (w' := cl_X5 cI cJ a ((x1, x2, x3, u.1.2.2.2), u.2.1, u.2.2.1, u.2.2.2.1, u.2.2.2.2.1, u.2.2.2.2.2.1, u.2.2.2.2.2.2.1, u.2.2.2.2.2.2.2.1, u.2.2.2.2.2.2.2.2)) (ci := 6) (v := .int x3) (ty := .int) (Cn := RX7) (T := TX7) (N := 4) X inX7 tyX7 tyX7_ok nmX7 hP hD hS 1 rfl rfl 2 (by decide) (hts _ q_fl_X5_64) (fun _ h9 => h9) rfl (tyX7_ok 2 (by decide)) rfl rfl (Nat.le_of_ble_eq_true rfl) rfl dX5_begin_21 (fun H locs hP hD hS => ?_)
  refine lv_aload_n hx hb dX5_begin_24 rfl (lv_at hl 0 rfl) ?_
  refine va_get (D := (dC, dI)) (ci := 4) (v := .ref (a 1)) (C := RX5) (T := TX5) (N := 9) hx hb hts inX5 hown hK hP 0 rfl rfl 0 (by decide) (hts _ q_fl_X5_12) (fun _ h9 => h9) rfl dX5_begin_25 ?_
  refine lv_iload hx hb dX5_begin_28 (lv_at hl 4 rfl) ?_
  refine z_put (w' := cl_X5 cI cJ a ((x1, x2, x3, x4), u.2.1, u.2.2.1, u.2.2.2.1, u.2.2.2.2.1, u.2.2.2.2.2.1, u.2.2.2.2.2.2.1, u.2.2.2.2.2.2.2.1, u.2.2.2.2.2.2.2.2)) (ci := 6) (v := .int x4) (ty := .int) (Cn := RX7) (T := TX7) (N := 4) X inX7 tyX7 tyX7_ok nmX7 hP hD hS 1 rfl rfl 3 (by decide) (hts _ q_fl_X5_67) (fun _ h9 => h9) rfl (tyX7_ok 3 (by decide)) rfl rfl (Nat.le_of_ble_eq_true rfl) rfl dX5_begin_30 (fun H locs hP hD hS => ?_)
  refine lv_aload_n hx hb dX5_begin_33 rfl (lv_at hl 0 rfl) ?_
  refine va_get (D := (dC, dI)) (ci := 4) (v := .ref (a 2)) (C := RX5) (T := TX5) (N := 9) hx hb hts inX5 hown hK hP 0 rfl rfl 1 (by decide) (hts _ q_fl_X5_21) (fun _ h9 => h9) rfl dX5_begin_34 ?_
  refine z_mVv (Wn := (fun u_2 => cl_X5 cI cJ a ((x1, x2, x3, x4), u_2, u.2.2.1, u.2.2.2.1, u.2.2.2.2.1, u.2.2.2.2.2.1, u.2.2.2.2.2.2.1, u.2.2.2.2.2.2.2.1, u.2.2.2.2.2.2.2.2))) (As := []) (rest := []) (wr := [0, 1, 3, 4, 5, 6, 7, 8, 9, 10, 11, 12, 13, 14].filterMap (fun i => (cl_X5 cI cJ a ((x1, x2, x3, x4), u.2.1, u.2.2.1, u.2.2.2.1, u.2.2.2.2.1, u.2.2.2.2.2.1, u.2.2.2.2.2.2.1, u.2.2.2.2.2.2.2.1, u.2.2.2.2.2.2.2.2))[i]?)) X (c_X8_clear l dC dI cI cJ cS (fun i => a (2 + i)) u.2.1  _ hf _) zc_X8_clear q_ml_X5_70 ⟨rfl, rfl⟩ ⟨Nat.le_of_ble_eq_true rfl, Nat.le_of_ble_eq_true rfl⟩ hP hD hS hA [2] [0, 1, 3, 4, 5, 6, 7, 8, 9, 10, 11, 12, 13, 14] rfl (by decide) rfl (by decide) (by decide) [0, 1, 14, 2, 3, 4, 5, 6, 7, 8, 9, 10, 11, 12, 13] (by decide) (fun _ => rfl) 7 rfl rfl hl.1 rfl rfl (Nat.le_of_ble_eq_true rfl) ⟨Nat.zero_le _, Nat.zero_le _⟩ dX5_begin_37 (fun u_2 H locs hf hP hD hS => ?_)
  refine lv_aload_n hx hb dX5_begin_40 rfl (lv_at hl 0 rfl) ?_
  refine va_get (D := (dC, dI)) (ci := 4) (v := .ref (a 3)) (C := RX5) (T := TX5) (N := 9) hx hb hts inX5 hown hK hP 0 rfl rfl 2 (by decide) (hts _ q_fl_X5_28) (fun _ h9 => h9) rfl dX5_begin_41 ?_
  refine z_mVv (Wn := (fun u_4 => cl_X5 cI cJ a ((x1, x2, x3, x4), u_2, u_4, u.2.2.2.1, u.2.2.2.2.1, u.2.2.2.2.2.1, u.2.2.2.2.2.2.1, u.2.2.2.2.2.2.2.1, u.2.2.2.2.2.2.2.2))) (As := []) (rest := []) (wr := [0, 1, 2, 8, 9, 10, 11, 12, 13, 14].filterMap (fun i => (cl_X5 cI cJ a ((x1, x2, x3, x4), u_2, u.2.2.1, u.2.2.2.1, u.2.2.2.2.1, u.2.2.2.2.2.1, u.2.2.2.2.2.2.1, u.2.2.2.2.2.2.2.1, u.2.2.2.2.2.2.2.2))[i]?)) X (c_X4_clear l dC dI cI cJ cS (fun i => a (3 + i)) u.2.2.1  _ hf _) zc_X4_clear q_ml_X5_73 ⟨rfl, rfl⟩ ⟨Nat.le_of_ble_eq_true rfl, Nat.le_of_ble_eq_true rfl⟩ hP hD hS hA [3, 4, 5, 6, 7] [0, 1, 2, 8, 9, 10, 11, 12, 13, 14] rfl (by decide) rfl (by decide) (by decide) [0, 1, 2, 10, 11, 12, 13, 14, 3, 4, 5, 6, 7, 8, 9] (by decide) (fun _ => rfl) 3 rfl rfl hl.1 rfl rfl (Nat.le_of_ble_eq_true rfl) ⟨Nat.zero_le _, Nat.zero_le _⟩ dX5_begin_44 (fun u_4 H locs hf hP hD hS => ?_)
  refine lv_aload_n hx hb dX5_begin_47 rfl (lv_at hl 0 rfl) ?_
  refine va_get (D := (dC, dI)) (ci := 4) (v := .ref (a 8)) (C := RX5) (T := TX5) (N := 9) hx hb hts inX5 hown hK hP 0 rfl rfl 3 (by decide) (hts _ q_fl_X5_35) (fun _ h9 => h9) rfl dX5_begin_48 ?_
  refine z_mVv (Wn := (fun u_6 => cl_X5 cI cJ a ((x1, x2, x3, x4), u_2, u_4, u_6, u.2.2.2.2.1, u.2.2.2.2.2.1, u.2.2.2.2.2.2.1, u.2.2.2.2.2.2.2.1, u.2.2.2.2.2.2.2.2))) (As := []) (rest := []) (wr := [0, 1, 2, 3, 4, 5, 6, 7, 11, 12, 13, 14].filterMap (fun i => (cl_X5 cI cJ a ((x1, x2, x3, x4), u_2, u_4, u.2.2.2.1, u.2.2.2.2.1, u.2.2.2.2.2.1, u.2.2.2.2.2.2.1, u.2.2.2.2.2.2.2.1, u.2.2.2.2.2.2.2.2))[i]?)) X (c_X9_clear l dC dI cI cJ cS (fun i => a (8 + i)) u.2.2.2.1  _ hf _) zc_X9_clear q_ml_X5_74 ⟨rfl, rfl⟩ ⟨Nat.le_of_ble_eq_true rfl, Nat.le_of_ble_eq_true rfl⟩ hP hD hS hA [8, 9, 10] [0, 1, 2, 3, 4, 5, 6, 7, 11, 12, 13, 14] rfl (by decide) rfl (by decide) (by decide) [0, 1, 2, 3, 4, 5, 6, 7, 12, 13, 14, 8, 9, 10, 11] (by decide) (fun _ => rfl) 8 rfl rfl hl.1 rfl rfl (Nat.le_of_ble_eq_true rfl) ⟨Nat.zero_le _, Nat.zero_le _⟩ dX5_begin_51 (fun u_6 H locs hf hP hD hS => ?_)
  refine lv_aload_n hx hb dX5_begin_54 rfl (lv_at hl 0 rfl) ?_
  refine va_get (D := (dC, dI)) (ci := 4) (v := .ref (a 11)) (C := RX5) (T := TX5) (N := 9) hx hb hts inX5 hown hK hP 0 rfl rfl 4 (by decide) (hts _ q_fl_X5_42) (fun _ h9 => h9) rfl dX5_begin_55 ?_
  refine z_mVv (Wn := (fun u_8 => cl_X5 cI cJ a ((x1, x2, x3, x4), u_2, u_4, u_6, u_8, u.2.2.2.2.2.1, u.2.2.2.2.2.2.1, u.2.2.2.2.2.2.2.1, u.2.2.2.2.2.2.2.2))) (As := []) (rest := []) (wr := [0, 1, 2, 3, 4, 5, 6, 7, 8, 9, 10, 13, 14].filterMap (fun i => (cl_X5 cI cJ a ((x1, x2, x3, x4), u_2, u_4, u_6, u.2.2.2.2.1, u.2.2.2.2.2.1, u.2.2.2.2.2.2.1, u.2.2.2.2.2.2.2.1, u.2.2.2.2.2.2.2.2))[i]?)) X (c_X1_stop l dC dI cI cJ cS (fun i => a (11 + i)) u.2.2.2.2.1  _ hf _) zc_X1_stop q_ml_X5_75 ⟨rfl, rfl⟩ ⟨Nat.le_of_ble_eq_true rfl, Nat.le_of_ble_eq_true rfl⟩ hP hD hS hA [11, 12] [0, 1, 2, 3, 4, 5, 6, 7, 8, 9, 10, 13, 14] rfl (by decide) rfl (by decide) (by decide) [0, 1, 2, 3, 4, 5, 6, 7, 8, 9, 10, 13, 14, 11, 12] (by decide) (fun _ => rfl) 0 rfl rfl hl.1 rfl rfl (Nat.le_of_ble_eq_true rfl) ⟨Nat.zero_le _, Nat.zero_le _⟩ dX5_begin_58 (fun u_8 H locs hf hP hD hS => ?_)
  refine lv_aload_n hx hb dX5_begin_61 rfl (lv_at hl 0 rfl) ?_
  refine va_get (D := (dC, dI)) (ci := 4) (v := .ref (a 13)) (C := RX5) (T := TX5) (N := 9) hx hb hts inX5 hown hK hP 0 rfl rfl 5 (by decide) (hts _ q_fl_X5_49) (fun _ h9 => h9) rfl dX5_begin_62 ?_
  refine lv_iconst (v := 0) hx hb dX5_begin_65 (by decide) ?_
  refine z_put (w' := cl_X5 cI cJ a ((x1, x2, x3, x4), u_2, u_4, u_6, u_8, (u.2.2.2.2.2.1.1, (0 : Int32)), u.2.2.2.2.2.2.1, u.2.2.2.2.2.2.2.1, u.2.2.2.2.2.2.2.2)) (ci := 1) (v := .int (0 : Int32)) (ty := .int) (Cn := RX2) (T := TX2) (N := 2) X inX2 tyX2 tyX2_ok nmX2 hP hD hS 13 rfl rfl 1 (by decide) (hts _ q_fl_X5_78) (fun _ h9 => h9) rfl (tyX2_ok 1 (by decide)) rfl rfl (Nat.le_of_ble_eq_true rfl) rfl dX5_begin_66 (fun H locs hP hD hS => ?_)
  refine lv_aload_n hx hb dX5_begin_69 rfl (lv_at hl 0 rfl) ?_
  refine lv_iconst (v := 0) hx hb dX5_begin_70 (by decide) ?_
  refine z_put (w' := cl_X5 cI cJ a ((x1, x2, x3, x4), u_2, u_4, u_6, u_8, (u.2.2.2.2.2.1.1, (0 : Int32)), (0 : Int32), u.2.2.2.2.2.2.2.1, u.2.2.2.2.2.2.2.2)) (ci := 4) (v := .int (0 : Int32)) (ty := .int) (Cn := RX5) (T := TX5) (N := 9) X inX5 tyX5 tyX5_ok nmX5 hP hD hS 0 rfl rfl 6 (by decide) (hts _ q_fl_X5_81) (fun _ h9 => h9) rfl (tyX5_ok 6 (by decide)) rfl rfl (Nat.le_of_ble_eq_true rfl) rfl dX5_begin_71 (fun H locs hP hD hS => ?_)
  refine lv_aload_n hx hb dX5_begin_74 rfl (lv_at hl 0 rfl) ?_
  refine lv_iconst (v := 0) hx hb dX5_begin_75 (by decide) ?_
  refine z_put (w' := cl_X5 cI cJ a ((x1, x2, x3, x4), u_2, u_4, u_6, u_8, (u.2.2.2.2.2.1.1, (0 : Int32)), (0 : Int32), (0 : Int32), u.2.2.2.2.2.2.2.2)) (ci := 4) (v := .int (0 : Int32)) (ty := .int) (Cn := RX5) (T := TX5) (N := 9) X inX5 tyX5 tyX5_ok nmX5 hP hD hS 0 rfl rfl 7 (by decide) (hts _ q_fl_X5_84) (fun _ h9 => h9) rfl (tyX5_ok 7 (by decide)) rfl rfl (Nat.le_of_ble_eq_true rfl) rfl dX5_begin_76 (fun H locs hP hD hS => ?_)
  refine lv_aload_n hx hb dX5_begin_79 rfl (lv_at hl 0 rfl) ?_
  refine lv_iconst (v := 0) hx hb dX5_begin_80 (by decide) ?_
  refine z_put (w' := cl_X5 cI cJ a ((x1, x2, x3, x4), u_2, u_4, u_6, u_8, (u.2.2.2.2.2.1.1, (0 : Int32)), (0 : Int32), (0 : Int32), (0 : Int32))) (ci := 4) (v := .int (0 : Int32)) (ty := .int) (Cn := RX5) (T := TX5) (N := 9) X inX5 tyX5 tyX5_ok nmX5 hP hD hS 0 rfl rfl 8 (by decide) (hts _ q_fl_X5_87) (fun _ h9 => h9) rfl (tyX5_ok 8 (by decide)) rfl rfl (Nat.le_of_ble_eq_true rfl) rfl dX5_begin_81 (fun H locs hP hD hS => ?_)
  exact z_retMv (Wf := (fun z => cl_X5 cI cJ a z)) (u := ((x1, x2, x3, x4), u_2, u_4, u_6, u_8, (u.2.2.2.2.2.1.1, (0 : Int32)), (0 : Int32), (0 : Int32), (0 : Int32))) X hf hP hD hS dX5_begin_84
/-- STORE -/
def uBegin (u : zState) (x1 x2 x3 x4 : Int32) : zState := ((x1, x2, x3, x4), (0, 0, 0, 0, 0), zClr u.2.2.1, (zWipes u.2.2.2.1.1 6, fa_fill (fun _ => 0) u.2.2.2.1.2.1 6, 0), (u.2.2.2.2.1.1, -1, 0, 0), (u.2.2.2.2.2.1.1, 0), 0, 0, 0)
def s_X5_begin (u : zState) (x1 x2 x3 x4 : Int32) (Q : zState → Prop) : Prop := Q (uBegin u x1 x2 x3 x4)
theorem st_X5_begin {u : zState} {x1 x2 x3 x4 : Int32} {Q : zState → Prop} (h : s_X5_begin u x1 x2 x3 x4 Q) : t_X5_begin u x1 x2 x3 x4 Q := h
theorem c_X5_begin (l : Launch) (dC : Nat → ClassId) (dI : Nat → Nat → Nat) (cI cJ cS : ClassId) (a : Nat → Nat) (u : zState) (x1 : Int32) (x2 : Int32) (x3 : Int32) (x4 : Int32) (Q : zState → Prop) (hf : s_X5_begin u x1 x2 x3 x4 Q) : ∀ sz : Nat, Met l yX5_begin (Cond.code yX5_begin cX5_begin 5 none :: zT) rm_X5_begin (zPm dC dI cI cJ cS (cl_X5 cI cJ a u) [.ref (a 0), .int x1, .int x2, .int x3, .int x4] sz) (va_Qv Q (zB dC dI cI cJ cS (va_A (cl_X5 cI cJ a u) sz) (fun z => cl_X5 cI cJ a z)) (va_A (cl_X5 cI cJ a u) sz)) 0 0 (va_A (cl_X5 cI cJ a u) sz) := L_X5_begin l dC dI cI cJ cS a u x1 x2 x3 x4 Q (st_X5_begin hf)

def s_X5_refusalOf (u : zState) (x1 : Int32) (x2 : Int32) (x3 : Int32) (Q : Int32 → Prop) : Prop := ((x1 = (1 : Int32) → s_X5_fits u ((4 : Int32) + x3) (fun r_2 : Int32 => ((r_2 = 0 → Q (1 : Int32)) ∧ (¬ r_2 = 0 → Q (0 : Int32))))) ∧ (¬ x1 = (1 : Int32) → ((x1 = (2 : Int32) → s_X5_fits u (4 : Int32) (fun r_5 : Int32 => ((¬ r_5 = 0 → s_X5_hasValue u x2 (fun r_7 : Int32 => ((r_7 = 0 → Q (2 : Int32)) ∧ (¬ r_7 = 0 → Q (0 : Int32))))) ∧ (r_5 = 0 → Q (1 : Int32))))) ∧ (¬ x1 = (2 : Int32) → ((x1 = (3 : Int32) → Q (0 : Int32)) ∧ (¬ x1 = (3 : Int32) → ((x1 = (4 : Int32) → Q (0 : Int32)) ∧ (¬ x1 = (4 : Int32) → ((x1 = (5 : Int32) → Q (0 : Int32)) ∧ (¬ x1 = (5 : Int32) → ((x1 = (6 : Int32) → ((¬ x2 = (-1 : Int32) → s_X5_refusalOfPick u x2 (fun r_14 : Int32 => Q r_14)) ∧ (x2 = (-1 : Int32) → s_X5_poorest u (fun r_15 : Int32 => s_X5_refusalOfPick u r_15 (fun r_16 : Int32 => Q r_16))))) ∧ (¬ x1 = (6 : Int32) → ((x1 = (7 : Int32) → s_X5_refusalOfStep u x2 (fun r_18 : Int32 => Q r_18)) ∧ (¬ x1 = (7 : Int32) → ((x1 = (8 : Int32) → s_X1_isOn u.2.2.2.2.1 (fun r_20 : Int32 => ((r_20 = 0 → Q (5 : Int32)) ∧ (¬ r_20 = 0 → Q (0 : Int32))))) ∧ (¬ x1 = (8 : Int32) → Q (0 : Int32)))))))))))))))))
theorem zc_X5_refusalOf : zCalV RX5 yX5_refusalOf cX5_refusalOf 4 (some .int) 3 := ⟨q_im_X5_refusalOf, q_se_X5_refusalOf, q_in_X5, q_cd_X5_refusalOf, ⟨by decide, by decide, by decide +kernel⟩, rfl⟩
abbrev rm_X5_refusalOf : Room := { frames := 5, cells := 0, slots := 0, locals := 115 }
set_option maxHeartbeats 4000000 in
set_option maxRecDepth 100000 in
theorem c_X5_refusalOf (l : Launch) (dC : Nat → ClassId) (dI : Nat → Nat → Nat) (cI cJ cS : ClassId) (a : Nat → Nat) (u : zState) (x1 : Int32) (x2 : Int32) (x3 : Int32) (Q : Int32 → Prop) (hf : s_X5_refusalOf u x1 x2 x3 Q) : Met l yX5_refusalOf (Cond.code yX5_refusalOf cX5_refusalOf 4 (some .int) :: zT) rm_X5_refusalOf (zPp dC dI cI cJ cS (cl_X5 cI cJ a u) [.ref (a 0), .int x1, .int x2, .int x3]) (vp_Si Q) 0 0 (fun _ => False) := by
  refine z_enterP (cc := cX5_refusalOf) (maxL := 4) (ret := (some .int)) (by decide) (Nat.le_of_ble_eq_true rfl) ?_
  intro p e s m below meth c ls X hP hl
  obtain ⟨⟨hx, hb, hml, hown, hts⟩, hr, hlk, hK⟩ := id X
  have hl : lv_has ls 4 [(0, .ref (a 0)), (1, .int x1), (2, .int x2), (3, .int x3)] := hl
  unfold s_X5_refusalOf at hf
  refine lv_iload_n hx hb dX5_refusalOf_0 rfl (lv_at hl 1 rfl) ?_
  by_cases c_1 : x1 = (1 : Int32)
  · have hf := hf.1 c_1
    refine lv_tableIn (off := 47) (tgt := 48) hx hb dX5_refusalOf_1 (by rw [c_1]; decide) (by rw [c_1]; decide) (by rw [c_1]; decide) (by decide) ?_
    refine lv_aload_n hx hb dX5_refusalOf_48 rfl (lv_at hl 0 rfl) ?_
    refine lv_iconst (v := 4) hx hb dX5_refusalOf_49 (by decide) ?_
    refine lv_iload_n hx hb dX5_refusalOf_50 rfl (lv_at hl 3 rfl) ?_
    refine lv_iadd hx hb dX5_refusalOf_51 ?_
    refine z_cVi (As := [.int ((4 : Int32) + x3)]) (rest := []) X (c_X5_fits l dC dI cI cJ cS a u ((4 : Int32) + x3) _ hf) zc_X5_fits q_ml_X5_109 ⟨rfl, rfl⟩ ⟨Nat.le_of_ble_eq_true rfl, Nat.le_of_ble_eq_true rfl⟩ hP [0, 1, 2, 3, 4, 5, 6, 7, 8, 9, 10, 11, 12, 13, 14] rfl 4 rfl rfl hl.1 rfl rfl (Nat.le_of_ble_eq_true rfl) ⟨Nat.zero_le _, Nat.zero_le _⟩ dX5_refusalOf_52 (fun r_2 hf => ?_)
    obtain ⟨hbr_2, hf⟩ := hf
    refine lv_if_eq (tgt := 62) hx hb dX5_refusalOf_55 (by decide) (fun c_3 => ?_) (fun c_3 => ?_)
    · have hf := hf.1 c_3
      refine lv_iconst (v := 1) hx hb dX5_refusalOf_62 (by decide) ?_
      exact z_retPi X hf dX5_refusalOf_63
    · have hf := hf.2 c_3
      refine lv_iconst (v := 0) hx hb dX5_refusalOf_58 (by decide) ?_
      refine lv_goto (tgt := 63) hx hb dX5_refusalOf_59 (by decide) ?_
      exact z_retPi X hf dX5_refusalOf_63
  have hf := hf.2 c_1
  by_cases c_4 : x1 = (2 : Int32)
  · have hf := hf.1 c_4
    refine lv_tableIn (off := 63) (tgt := 64) hx hb dX5_refusalOf_1 (by rw [c_4]; decide) (by rw [c_4]; decide) (by rw [c_4]; decide) (by decide) ?_
    refine lv_aload_n hx hb dX5_refusalOf_64 rfl (lv_at hl 0 rfl) ?_
    refine lv_iconst (v := 4) hx hb dX5_refusalOf_65 (by decide) ?_
    refine z_cVi (As := [.int (4 : Int32)]) (rest := []) X (c_X5_fits l dC dI cI cJ cS a u (4 : Int32) _ hf) zc_X5_fits q_ml_X5_109 ⟨rfl, rfl⟩ ⟨Nat.le_of_ble_eq_true rfl, Nat.le_of_ble_eq_true rfl⟩ hP [0, 1, 2, 3, 4, 5, 6, 7, 8, 9, 10, 11, 12, 13, 14] rfl 4 rfl rfl hl.1 rfl rfl (Nat.le_of_ble_eq_true rfl) ⟨Nat.zero_le _, Nat.zero_le _⟩ dX5_refusalOf_66 (fun r_5 hf => ?_)
    obtain ⟨hbr_5, hf⟩ := hf
    refine lv_if_ne (tgt := 76) hx hb dX5_refusalOf_69 (by decide) (fun c_6 => ?_) (fun c_6 => ?_)
    · have hf := hf.1 c_6
      refine lv_aload_n hx hb dX5_refusalOf_76 rfl (lv_at hl 0 rfl) ?_
      refine lv_iload_n hx hb dX5_refusalOf_77 rfl (lv_at hl 2 rfl) ?_
      refine z_cVi (As := [.int x2]) (rest := []) X (c_X5_hasValue l dC dI cI cJ cS a u x2 _ hf) zc_X5_hasValue q_ml_X5_113 ⟨rfl, rfl⟩ ⟨Nat.le_of_ble_eq_true rfl, Nat.le_of_ble_eq_true rfl⟩ hP [0, 1, 2, 3, 4, 5, 6, 7, 8, 9, 10, 11, 12, 13, 14] rfl 4 rfl rfl hl.1 rfl rfl (Nat.le_of_ble_eq_true rfl) ⟨Nat.zero_le _, Nat.zero_le _⟩ dX5_refusalOf_78 (fun r_7 hf => ?_)
      obtain ⟨hbr_7, hf⟩ := hf
      refine lv_if_eq (tgt := 88) hx hb dX5_refusalOf_81 (by decide) (fun c_8 => ?_) (fun c_8 => ?_)
      · have hf := hf.1 c_8
        refine lv_iconst (v := 2) hx hb dX5_refusalOf_88 (by decide) ?_
        exact z_retPi X hf dX5_refusalOf_89
      · have hf := hf.2 c_8
        refine lv_iconst (v := 0) hx hb dX5_refusalOf_84 (by decide) ?_
        refine lv_goto (tgt := 89) hx hb dX5_refusalOf_85 (by decide) ?_
        exact z_retPi X hf dX5_refusalOf_89
    · have hf := hf.2 c_6
      refine lv_iconst (v := 1) hx hb dX5_refusalOf_72 (by decide) ?_
      refine lv_goto (tgt := 89) hx hb dX5_refusalOf_73 (by decide) ?_
      exact z_retPi X hf dX5_refusalOf_89
  have hf := hf.2 c_4
  by_cases c_9 : x1 = (3 : Int32)
  · have hf := hf.1 c_9
    refine lv_tableIn (off := 129) (tgt := 130) hx hb dX5_refusalOf_1 (by rw [c_9]; decide) (by rw [c_9]; decide) (by rw [c_9]; decide) (by decide) ?_
    refine lv_iconst (v := 0) hx hb dX5_refusalOf_130 (by decide) ?_
    exact z_retPi X hf dX5_refusalOf_131
  have hf := hf.2 c_9
  by_cases c_10 : x1 = (4 : Int32)
  · have hf := hf.1 c_10
    refine lv_tableIn (off := 129) (tgt := 130) hx hb dX5_refusalOf_1 (by rw [c_10]; decide) (by rw [c_10]; decide) (by rw [c_10]; decide) (by decide) ?_
    refine lv_iconst (v := 0) hx hb dX5_refusalOf_130 (by decide) ?_
    exact z_retPi X hf dX5_refusalOf_131
  have hf := hf.2 c_10
  by_cases c_11 : x1 = (5 : Int32)
  · have hf := hf.1 c_11
    refine lv_tableIn (off := 129) (tgt := 130) hx hb dX5_refusalOf_1 (by rw [c_11]; decide) (by rw [c_11]; decide) (by rw [c_11]; decide) (by decide) ?_
    refine lv_iconst (v := 0) hx hb dX5_refusalOf_130 (by decide) ?_
    exact z_retPi X hf dX5_refusalOf_131
  have hf := hf.2 c_11
  by_cases c_12 : x1 = (6 : Int32)
  · have hf := hf.1 c_12
    refine lv_tableIn (off := 89) (tgt := 90) hx hb dX5_refusalOf_1 (by rw [c_12]; decide) (by rw [c_12]; decide) (by rw [c_12]; decide) (by decide) ?_
    refine lv_aload_n hx hb dX5_refusalOf_90 rfl (lv_at hl 0 rfl) ?_
    refine lv_iload_n hx hb dX5_refusalOf_91 rfl (lv_at hl 2 rfl) ?_
    refine lv_iconst (v := (-1)) hx hb dX5_refusalOf_92 (by decide) ?_
    refine lv_icmp_ne (tgt := 103) hx hb dX5_refusalOf_93 (by decide) (fun c_13 => ?_) (fun c_13 => ?_)
    · have hf := hf.1 c_13
      refine lv_iload_n hx hb dX5_refusalOf_103 rfl (lv_at hl 2 rfl) ?_
      refine z_cVi (As := [.int x2]) (rest := []) X (c_X5_refusalOfPick l dC dI cI cJ cS a u x2 _ hf) zc_X5_refusalOfPick q_ml_X5_120 ⟨rfl, rfl⟩ ⟨Nat.le_of_ble_eq_true rfl, Nat.le_of_ble_eq_true rfl⟩ hP [0, 1, 2, 3, 4, 5, 6, 7, 8, 9, 10, 11, 12, 13, 14] rfl 4 rfl rfl hl.1 rfl rfl (Nat.le_of_ble_eq_true rfl) ⟨Nat.zero_le _, Nat.zero_le _⟩ dX5_refusalOf_104 (fun r_14 hf => ?_)
      exact z_retPi X hf dX5_refusalOf_107
    · have hf := hf.2 c_13
      refine lv_aload_n hx hb dX5_refusalOf_96 rfl (lv_at hl 0 rfl) ?_
      refine z_cVi (As := []) (rest := [.ref (a 0)]) X (c_X5_poorest l dC dI cI cJ cS a u  _ hf) zc_X5_poorest q_ml_X5_116 ⟨rfl, rfl⟩ ⟨Nat.le_of_ble_eq_true rfl, Nat.le_of_ble_eq_true rfl⟩ hP [0, 1, 2, 3, 4, 5, 6, 7, 8, 9, 10, 11, 12, 13, 14] rfl 4 rfl rfl hl.1 rfl rfl (Nat.le_of_ble_eq_true rfl) ⟨Nat.zero_le _, Nat.zero_le _⟩ dX5_refusalOf_97 (fun r_15 hf => ?_)
      refine lv_goto (tgt := 104) hx hb dX5_refusalOf_100 (by decide) ?_
      refine z_cVi (As := [.int r_15]) (rest := []) X (c_X5_refusalOfPick l dC dI cI cJ cS a u r_15 _ hf) zc_X5_refusalOfPick q_ml_X5_120 ⟨rfl, rfl⟩ ⟨Nat.le_of_ble_eq_true rfl, Nat.le_of_ble_eq_true rfl⟩ hP [0, 1, 2, 3, 4, 5, 6, 7, 8, 9, 10, 11, 12, 13, 14] rfl 4 rfl rfl hl.1 rfl rfl (Nat.le_of_ble_eq_true rfl) ⟨Nat.zero_le _, Nat.zero_le _⟩ dX5_refusalOf_104 (fun r_16 hf => ?_)
      exact z_retPi X hf dX5_refusalOf_107
  have hf := hf.2 c_12
  by_cases c_17 : x1 = (7 : Int32)
  · have hf := hf.1 c_17
    refine lv_tableIn (off := 107) (tgt := 108) hx hb dX5_refusalOf_1 (by rw [c_17]; decide) (by rw [c_17]; decide) (by rw [c_17]; decide) (by decide) ?_
    refine lv_aload_n hx hb dX5_refusalOf_108 rfl (lv_at hl 0 rfl) ?_
    refine lv_iload_n hx hb dX5_refusalOf_109 rfl (lv_at hl 2 rfl) ?_
    refine z_cVi (As := [.int x2]) (rest := []) X (c_X5_refusalOfStep l dC dI cI cJ cS a u x2 _ hf) zc_X5_refusalOfStep q_ml_X5_124 ⟨rfl, rfl⟩ ⟨Nat.le_of_ble_eq_true rfl, Nat.le_of_ble_eq_true rfl⟩ hP [0, 1, 2, 3, 4, 5, 6, 7, 8, 9, 10, 11, 12, 13, 14] rfl 4 rfl rfl hl.1 rfl rfl (Nat.le_of_ble_eq_true rfl) ⟨Nat.zero_le _, Nat.zero_le _⟩ dX5_refusalOf_110 (fun r_18 hf => ?_)
    exact z_retPi X hf dX5_refusalOf_113
  have hf := hf.2 c_17
  by_cases c_19 : x1 = (8 : Int32)
  · have hf := hf.1 c_19
    refine lv_tableIn (off := 113) (tgt := 114) hx hb dX5_refusalOf_1 (by rw [c_19]; decide) (by rw [c_19]; decide) (by rw [c_19]; decide) (by decide) ?_
    refine lv_aload_n hx hb dX5_refusalOf_114 rfl (lv_at hl 0 rfl) ?_
    refine va_get (D := (dC, dI)) (ci := 4) (v := .ref (a 11)) (C := RX5) (T := TX5) (N := 9) hx hb hts inX5 hown hK hP 0 rfl rfl 4 (by decide) (hts _ q_fl_X5_42) (fun _ h9 => h9) rfl dX5_refusalOf_115 ?_
    refine z_cVi (As := []) (rest := []) X (c_X1_isOn l dC dI cI cJ cS (fun i => a (11 + i)) u.2.2.2.2.1  _ hf) zc_X1_isOn q_ml_X5_127 ⟨rfl, rfl⟩ ⟨Nat.le_of_ble_eq_true rfl, Nat.le_of_ble_eq_true rfl⟩ hP [11, 12] rfl 0 rfl rfl hl.1 rfl rfl (Nat.le_of_ble_eq_true rfl) ⟨Nat.zero_le _, Nat.zero_le _⟩ dX5_refusalOf_118 (fun r_20 hf => ?_)
    obtain ⟨hbr_20, hf⟩ := hf
    refine lv_if_eq (tgt := 128) hx hb dX5_refusalOf_121 (by decide) (fun c_21 => ?_) (fun c_21 => ?_)
    · have hf := hf.1 c_21
      refine lv_iconst (v := 5) hx hb dX5_refusalOf_128 (by decide) ?_
      exact z_retPi X hf dX5_refusalOf_129
    · have hf := hf.2 c_21
      refine lv_iconst (v := 0) hx hb dX5_refusalOf_124 (by decide) ?_
      refine lv_goto (tgt := 129) hx hb dX5_refusalOf_125 (by decide) ?_
      exact z_retPi X hf dX5_refusalOf_129
  have hf := hf.2 c_19
  refine lv_tableOut (tgt := 130) hx hb dX5_refusalOf_1 (by have q0 : ¬ x1.toInt = (1 : Int) := fun h => c_1 (Int32.toInt_inj.mp (show x1.toInt = (1 : Int32).toInt from h)); have q1 : ¬ x1.toInt = (2 : Int) := fun h => c_4 (Int32.toInt_inj.mp (show x1.toInt = (2 : Int32).toInt from h)); have q2 : ¬ x1.toInt = (3 : Int) := fun h => c_9 (Int32.toInt_inj.mp (show x1.toInt = (3 : Int32).toInt from h)); have q3 : ¬ x1.toInt = (4 : Int) := fun h => c_10 (Int32.toInt_inj.mp (show x1.toInt = (4 : Int32).toInt from h)); have q4 : ¬ x1.toInt = (5 : Int) := fun h => c_11 (Int32.toInt_inj.mp (show x1.toInt = (5 : Int32).toInt from h)); have q5 : ¬ x1.toInt = (6 : Int) := fun h => c_12 (Int32.toInt_inj.mp (show x1.toInt = (6 : Int32).toInt from h)); have q6 : ¬ x1.toInt = (7 : Int) := fun h => c_17 (Int32.toInt_inj.mp (show x1.toInt = (7 : Int32).toInt from h)); have q7 : ¬ x1.toInt = (8 : Int) := fun h => c_19 (Int32.toInt_inj.mp (show x1.toInt = (8 : Int32).toInt from h)); omega) (by decide) ?_
  refine lv_iconst (v := 0) hx hb dX5_refusalOf_130 (by decide) ?_
  exact z_retPi X hf dX5_refusalOf_131

def s_X5_perform (u : zState) (x1 : Int32) (x2 : Int32) (x3 : Int32) (x4 : Int32) (x5 : Int32) (Q : Int32 → zState → Prop) : Prop := ((x1 = (0 : Int32) → s_X5_begin u x2 x3 x4 x5 (fun (u_3 : zState) => s_X4_freeOnes u_3.2.2.1 (fun r_4 : Int32 => Q r_4 u_3))) ∧ (¬ x1 = (0 : Int32) → ((x1 = (1 : Int32) → ∀ x_6 : Int32, x_6 = (u.2.1.2.1 + ((4 : Int32) + x3)) → s_X5_enter (u.1, (u.2.1.1, x_6, u.2.1.2.2.1, u.2.1.2.2.2.1, u.2.1.2.2.2.2), u.2.2.1, u.2.2.2.1, u.2.2.2.2.1, u.2.2.2.2.2.1, u.2.2.2.2.2.2.1, u.2.2.2.2.2.2.2.1, u.2.2.2.2.2.2.2.2) x2 x3 x4 (fun (r_7 : Int32) (u_8 : zState) => Q r_7 u_8)) ∧ (¬ x1 = (1 : Int32) → ((x1 = (2 : Int32) → ∀ x_10 : Int32, x_10 = (u.2.1.2.1 + (4 : Int32)) → s_X5_enter (u.1, (u.2.1.1, x_10, u.2.1.2.2.1, u.2.1.2.2.2.1, u.2.1.2.2.2.2), u.2.2.1, u.2.2.2.1, u.2.2.2.2.1, u.2.2.2.2.2.1, u.2.2.2.2.2.2.1, u.2.2.2.2.2.2.2.1, u.2.2.2.2.2.2.2.2) x2 (0 : Int32) (0 : Int32) (fun (r_11 : Int32) (u_12 : zState) => Q r_11 u_12)) ∧ (¬ x1 = (2 : Int32) → ((x1 = (3 : Int32) → s_X5_secureAll u (fun (r_14 : Int32) (u_15 : zState) => Q r_14 u_15)) ∧ (¬ x1 = (3 : Int32) → ((x1 = (4 : Int32) → s_X5_flushTable u (fun (u_18 : zState) => Q u_18.2.2.2.1.2.2 u_18)) ∧ (¬ x1 = (4 : Int32) → ((x1 = (5 : Int32) → s_X5_loseUnsecured u (fun (r_20 : Int32) (u_21 : zState) => Q r_20 u_21)) ∧ (¬ x1 = (5 : Int32) → ((x1 = (6 : Int32) → ((¬ x2 = (-1 : Int32) → s_X5_noteLive u x2 (fun (r_24 : Int32) (u_25 : zState) => Q r_24 u_25)) ∧ (x2 = (-1 : Int32) → s_X5_poorest u (fun r_26 : Int32 => s_X5_noteLive u r_26 (fun (r_27 : Int32) (u_28 : zState) => Q r_27 u_28))))) ∧ (¬ x1 = (6 : Int32) → ((x1 = (7 : Int32) → s_X5_collect u x2 (fun (r_30 : Int32) (u_31 : zState) => Q r_30 u_31)) ∧ (¬ x1 = (7 : Int32) → ((x1 = (8 : Int32) → s_X5_leaveCollection u (fun (r_33 : Int32) (u_34 : zState) => Q r_33 u_34)) ∧ (¬ x1 = (8 : Int32) → ((x1 = (9 : Int32) → s_X5_mergeRuns u (fun (r_36 : Int32) (u_37 : zState) => Q r_36 u_37)) ∧ (¬ x1 = (9 : Int32) → Q (-1 : Int32) u))))))))))))))))))))
theorem zc_X5_perform : zCalV RX5 yX5_perform cX5_perform 6 (some .int) 5 := ⟨q_im_X5_perform, q_se_X5_perform, q_in_X5, q_cd_X5_perform, ⟨by decide, by decide, by decide +kernel⟩, rfl⟩
abbrev rm_X5_perform : Room := { frames := 6, cells := 0, slots := 0, locals := 165 }
set_option maxHeartbeats 4000000 in
set_option maxRecDepth 100000 in
theorem c_X5_perform (l : Launch) (dC : Nat → ClassId) (dI : Nat → Nat → Nat) (cI cJ cS : ClassId) (a : Nat → Nat) (u : zState) (x1 : Int32) (x2 : Int32) (x3 : Int32) (x4 : Int32) (x5 : Int32) (Q : Int32 → zState → Prop) (hf : s_X5_perform u x1 x2 x3 x4 x5 Q) : ∀ sz : Nat, Met l yX5_perform (Cond.code yX5_perform cX5_perform 6 (some .int) :: zT) rm_X5_perform (zPm dC dI cI cJ cS (cl_X5 cI cJ a u) [.ref (a 0), .int x1, .int x2, .int x3, .int x4, .int x5] sz) (va_Qi Q (zB dC dI cI cJ cS (va_A (cl_X5 cI cJ a u) sz) (fun z => cl_X5 cI cJ a z)) (va_A (cl_X5 cI cJ a u) sz)) 0 0 (va_A (cl_X5 cI cJ a u) sz) := by
  intro sz
  refine z_enterM (Qc := fun A => va_Qi Q (zB dC dI cI cJ cS A (fun z => cl_X5 cI cJ a z)) A) (cc := cX5_perform) (maxL := 6) (ret := (some .int)) (by decide) (Nat.le_of_ble_eq_true rfl) ?_
  intro p e s m below meth c ls A X hP hD hS hA hl
  obtain ⟨⟨hx, hb, hml, hown, hts⟩, hr, hlk, hK⟩ := id X
  have hl : lv_has ls 6 [(0, .ref (a 0)), (1, .int x1), (2, .int x2), (3, .int x3), (4, .int x4), (5, .int x5)] := hl
  unfold s_X5_perform at hf
  refine lv_iload_n hx hb dX5_perform_0 rfl (lv_at hl 1 rfl) ?_
  by_cases c_1 : x1 = (0 : Int32)
  · have hf := hf.1 c_1
    refine lv_tableIn (off := 55) (tgt := 56) hx hb dX5_perform_1 (by rw [c_1]; decide) (by rw [c_1]; decide) (by rw [c_1]; decide) (by decide) ?_
    refine lv_aload_n hx hb dX5_perform_56 rfl (lv_at hl 0 rfl) ?_
    refine lv_iload_n hx hb dX5_perform_57 rfl (lv_at hl 2 rfl) ?_
    refine lv_iload_n hx hb dX5_perform_58 rfl (lv_at hl 3 rfl) ?_
    refine lv_iload hx hb dX5_perform_59 (lv_at hl 4 rfl) ?_
    refine lv_iload hx hb dX5_perform_61 (lv_at hl 5 rfl) ?_
    refine z_mVv (Wn := (fun u_3 => cl_X5 cI cJ a u_3)) (As := [.int x2, .int x3, .int x4, .int x5]) (rest := []) (wr := []) X (c_X5_begin l dC dI cI cJ cS a u x2 x3 x4 x5 _ hf _) zc_X5_begin q_ml_X5_53 ⟨rfl, rfl⟩ ⟨Nat.le_of_ble_eq_true rfl, Nat.le_of_ble_eq_true rfl⟩ hP hD hS hA [0, 1, 2, 3, 4, 5, 6, 7, 8, 9, 10, 11, 12, 13, 14] [] rfl (by decide) rfl (by decide) (by decide) [0, 1, 2, 3, 4, 5, 6, 7, 8, 9, 10, 11, 12, 13, 14] (by decide) (fun _ => rfl) 4 rfl rfl hl.1 rfl rfl (Nat.le_of_ble_eq_true rfl) ⟨Nat.zero_le _, Nat.zero_le _⟩ dX5_perform_63 (fun u_3 H locs hf hP hD hS => ?_)
    refine lv_aload_n hx hb dX5_perform_66 rfl (lv_at hl 0 rfl) ?_
    refine va_get (D := (dC, dI)) (ci := 4) (v := .ref (a 3)) (C := RX5) (T := TX5) (N := 9) hx hb hts inX5 hown hK hP 0 rfl rfl 2 (by decide) (hts _ q_fl_X5_28) (fun _ h9 => h9) rfl dX5_perform_67 ?_
    refine z_cVi (As := []) (rest := []) X (c_X4_freeOnes l dC dI cI cJ cS (fun i => a (3 + i)) u_3.2.2.1  _ hf) zc_X4_freeOnes q_ml_X5_151 ⟨rfl, rfl⟩ ⟨Nat.le_of_ble_eq_true rfl, Nat.le_of_ble_eq_true rfl⟩ hP [3, 4, 5, 6, 7] rfl 3 rfl rfl hl.1 rfl rfl (Nat.le_of_ble_eq_true rfl) ⟨Nat.zero_le _, Nat.zero_le _⟩ dX5_perform_70 (fun r_4 hf => ?_)
    exact z_retMi (Wf := (fun z => cl_X5 cI cJ a z)) (u := u_3) X hf hP hD hS dX5_perform_73
  have hf := hf.2 c_1
  by_cases c_5 : x1 = (1 : Int32)
  · have hf := hf.1 c_5
    refine lv_tableIn (off := 73) (tgt := 74) hx hb dX5_perform_1 (by rw [c_5]; decide) (by rw [c_5]; decide) (by rw [c_5]; decide) (by decide) ?_
    refine lv_aload_n hx hb dX5_perform_74 rfl (lv_at hl 0 rfl) ?_
    refine va_get (D := (dC, dI)) (ci := 4) (v := .ref (a 2)) (C := RX5) (T := TX5) (N := 9) hx hb hts inX5 hown hK hP 0 rfl rfl 1 (by decide) (hts _ q_fl_X5_21) (fun _ h9 => h9) rfl dX5_perform_75 ?_
    refine lv_dup hx hb dX5_perform_78 rfl ?_
    refine va_get (D := (dC, dI)) (ci := 7) (v := .int u.2.1.2.1) (C := RX8) (T := TX8) (N := 5) hx hb hts inX8 hown hK hP 2 rfl rfl 1 (by decide) (hts _ q_fl_X5_154) (fun _ h9 => h9) rfl dX5_perform_79 ?_
    refine lv_iconst (v := 4) hx hb dX5_perform_82 (by decide) ?_
    refine lv_iload_n hx hb dX5_perform_83 rfl (lv_at hl 3 rfl) ?_
    refine lv_iadd hx hb dX5_perform_84 ?_
    refine lv_iadd hx hb dX5_perform_85 ?_
    refine lv_topi (fun x_6 ex_6 => ?_)
    have hf := hf x_6 ex_6
    refine z_put (w' := cl_X5 cI cJ a (u.1, (u.2.1.1, x_6, u.2.1.2.2.1, u.2.1.2.2.2.1, u.2.1.2.2.2.2), u.2.2.1, u.2.2.2.1, u.2.2.2.2.1, u.2.2.2.2.2.1, u.2.2.2.2.2.2.1, u.2.2.2.2.2.2.2.1, u.2.2.2.2.2.2.2.2)) (ci := 7) (v := .int x_6) (ty := .int) (Cn := RX8) (T := TX8) (N := 5) X inX8 tyX8 tyX8_ok nmX8 hP hD hS 2 rfl rfl 1 (by decide) (hts _ q_fl_X5_154) (fun _ h9 => h9) rfl (tyX8_ok 1 (by decide)) rfl rfl (Nat.le_of_ble_eq_true rfl) rfl dX5_perform_86 (fun H locs hP hD hS => ?_)
    refine lv_aload_n hx hb dX5_perform_89 rfl (lv_at hl 0 rfl) ?_
    refine lv_iload_n hx hb dX5_perform_90 rfl (lv_at hl 2 rfl) ?_
    refine lv_iload_n hx hb dX5_perform_91 rfl (lv_at hl 3 rfl) ?_
    refine lv_iload hx hb dX5_perform_92 (lv_at hl 4 rfl) ?_
    refine z_mVi (Wn := (fun u_8 => cl_X5 cI cJ a u_8)) (As := [.int x2, .int x3, .int x4]) (rest := []) (wr := []) X (c_X5_enter l dC dI cI cJ cS a (u.1, (u.2.1.1, x_6, u.2.1.2.2.1, u.2.1.2.2.2.1, u.2.1.2.2.2.2), u.2.2.1, u.2.2.2.1, u.2.2.2.2.1, u.2.2.2.2.2.1, u.2.2.2.2.2.2.1, u.2.2.2.2.2.2.2.1, u.2.2.2.2.2.2.2.2) x2 x3 x4 _ hf _) zc_X5_enter q_ml_X5_157 ⟨rfl, rfl⟩ ⟨Nat.le_of_ble_eq_true rfl, Nat.le_of_ble_eq_true rfl⟩ hP hD hS hA [0, 1, 2, 3, 4, 5, 6, 7, 8, 9, 10, 11, 12, 13, 14] [] rfl (by decide) rfl (by decide) (by decide) [0, 1, 2, 3, 4, 5, 6, 7, 8, 9, 10, 11, 12, 13, 14] (by decide) (fun _ => rfl) 4 rfl rfl hl.1 rfl rfl (Nat.le_of_ble_eq_true rfl) ⟨Nat.zero_le _, Nat.zero_le _⟩ dX5_perform_94 (fun r_7 u_8 H locs hf hP hD hS => ?_)
    exact z_retMi (Wf := (fun z => cl_X5 cI cJ a z)) (u := u_8) X hf hP hD hS dX5_perform_97
  have hf := hf.2 c_5
  by_cases c_9 : x1 = (2 : Int32)
  · have hf := hf.1 c_9
    refine lv_tableIn (off := 97) (tgt := 98) hx hb dX5_perform_1 (by rw [c_9]; decide) (by rw [c_9]; decide) (by rw [c_9]; decide) (by decide) ?_
    refine lv_aload_n hx hb dX5_perform_98 rfl (lv_at hl 0 rfl) ?_
    refine va_get (D := (dC, dI)) (ci := 4) (v := .ref (a 2)) (C := RX5) (T := TX5) (N := 9) hx hb hts inX5 hown hK hP 0 rfl rfl 1 (by decide) (hts _ q_fl_X5_21) (fun _ h9 => h9) rfl dX5_perform_99 ?_
    refine lv_dup hx hb dX5_perform_102 rfl ?_
    refine va_get (D := (dC, dI)) (ci := 7) (v := .int u.2.1.2.1) (C := RX8) (T := TX8) (N := 5) hx hb hts inX8 hown hK hP 2 rfl rfl 1 (by decide) (hts _ q_fl_X5_154) (fun _ h9 => h9) rfl dX5_perform_103 ?_
    refine lv_iconst (v := 4) hx hb dX5_perform_106 (by decide) ?_
    refine lv_iadd hx hb dX5_perform_107 ?_
    refine lv_topi (fun x_10 ex_10 => ?_)
    have hf := hf x_10 ex_10
    refine z_put (w' := cl_X5 cI cJ a (u.1, (u.2.1.1, x_10, u.2.1.2.2.1, u.2.1.2.2.2.1, u.2.1.2.2.2.2), u.2.2.1, u.2.2.2.1, u.2.2.2.2.1, u.2.2.2.2.2.1, u.2.2.2.2.2.2.1, u.2.2.2.2.2.2.2.1, u.2.2.2.2.2.2.2.2)) (ci := 7) (v := .int x_10) (ty := .int) (Cn := RX8) (T := TX8) (N := 5) X inX8 tyX8 tyX8_ok nmX8 hP hD hS 2 rfl rfl 1 (by decide) (hts _ q_fl_X5_154) (fun _ h9 => h9) rfl (tyX8_ok 1 (by decide)) rfl rfl (Nat.le_of_ble_eq_true rfl) rfl dX5_perform_108 (fun H locs hP hD hS => ?_)
    refine lv_aload_n hx hb dX5_perform_111 rfl (lv_at hl 0 rfl) ?_
    refine lv_iload_n hx hb dX5_perform_112 rfl (lv_at hl 2 rfl) ?_
    refine lv_iconst (v := 0) hx hb dX5_perform_113 (by decide) ?_
    refine lv_iconst (v := 0) hx hb dX5_perform_114 (by decide) ?_
    refine z_mVi (Wn := (fun u_12 => cl_X5 cI cJ a u_12)) (As := [.int x2, .int (0 : Int32), .int (0 : Int32)]) (rest := []) (wr := []) X (c_X5_enter l dC dI cI cJ cS a (u.1, (u.2.1.1, x_10, u.2.1.2.2.1, u.2.1.2.2.2.1, u.2.1.2.2.2.2), u.2.2.1, u.2.2.2.1, u.2.2.2.2.1, u.2.2.2.2.2.1, u.2.2.2.2.2.2.1, u.2.2.2.2.2.2.2.1, u.2.2.2.2.2.2.2.2) x2 (0 : Int32) (0 : Int32) _ hf _) zc_X5_enter q_ml_X5_157 ⟨rfl, rfl⟩ ⟨Nat.le_of_ble_eq_true rfl, Nat.le_of_ble_eq_true rfl⟩ hP hD hS hA [0, 1, 2, 3, 4, 5, 6, 7, 8, 9, 10, 11, 12, 13, 14] [] rfl (by decide) rfl (by decide) (by decide) [0, 1, 2, 3, 4, 5, 6, 7, 8, 9, 10, 11, 12, 13, 14] (by decide) (fun _ => rfl) 4 rfl rfl hl.1 rfl rfl (Nat.le_of_ble_eq_true rfl) ⟨Nat.zero_le _, Nat.zero_le _⟩ dX5_perform_115 (fun r_11 u_12 H locs hf hP hD hS => ?_)
    exact z_retMi (Wf := (fun z => cl_X5 cI cJ a z)) (u := u_12) X hf hP hD hS dX5_perform_118
  have hf := hf.2 c_9
  by_cases c_13 : x1 = (3 : Int32)
  · have hf := hf.1 c_13
    refine lv_tableIn (off := 118) (tgt := 119) hx hb dX5_perform_1 (by rw [c_13]; decide) (by rw [c_13]; decide) (by rw [c_13]; decide) (by decide) ?_
    refine lv_aload_n hx hb dX5_perform_119 rfl (lv_at hl 0 rfl) ?_
    refine z_mVi (Wn := (fun u_15 => cl_X5 cI cJ a u_15)) (As := []) (rest := []) (wr := []) X (c_X5_secureAll l dC dI cI cJ cS a u  _ hf _) zc_X5_secureAll q_ml_X5_161 ⟨rfl, rfl⟩ ⟨Nat.le_of_ble_eq_true rfl, Nat.le_of_ble_eq_true rfl⟩ hP hD hS hA [0, 1, 2, 3, 4, 5, 6, 7, 8, 9, 10, 11, 12, 13, 14] [] rfl (by decide) rfl (by decide) (by decide) [0, 1, 2, 3, 4, 5, 6, 7, 8, 9, 10, 11, 12, 13, 14] (by decide) (fun _ => rfl) 4 rfl rfl hl.1 rfl rfl (Nat.le_of_ble_eq_true rfl) ⟨Nat.zero_le _, Nat.zero_le _⟩ dX5_perform_120 (fun r_14 u_15 H locs hf hP hD hS => ?_)
    exact z_retMi (Wf := (fun z => cl_X5 cI cJ a z)) (u := u_15) X hf hP hD hS dX5_perform_123
  have hf := hf.2 c_13
  by_cases c_16 : x1 = (4 : Int32)
  · have hf := hf.1 c_16
    refine lv_tableIn (off := 123) (tgt := 124) hx hb dX5_perform_1 (by rw [c_16]; decide) (by rw [c_16]; decide) (by rw [c_16]; decide) (by decide) ?_
    refine lv_aload_n hx hb dX5_perform_124 rfl (lv_at hl 0 rfl) ?_
    refine z_mVv (Wn := (fun u_18 => cl_X5 cI cJ a u_18)) (As := []) (rest := []) (wr := []) X (c_X5_flushTable l dC dI cI cJ cS a u  _ hf _) zc_X5_flushTable q_ml_X5_164 ⟨rfl, rfl⟩ ⟨Nat.le_of_ble_eq_true rfl, Nat.le_of_ble_eq_true rfl⟩ hP hD hS hA [0, 1, 2, 3, 4, 5, 6, 7, 8, 9, 10, 11, 12, 13, 14] [] rfl (by decide) rfl (by decide) (by decide) [0, 1, 2, 3, 4, 5, 6, 7, 8, 9, 10, 11, 12, 13, 14] (by decide) (fun _ => rfl) 4 rfl rfl hl.1 rfl rfl (Nat.le_of_ble_eq_true rfl) ⟨Nat.zero_le _, Nat.zero_le _⟩ dX5_perform_125 (fun u_18 H locs hf hP hD hS => ?_)
    refine lv_aload_n hx hb dX5_perform_128 rfl (lv_at hl 0 rfl) ?_
    refine va_get (D := (dC, dI)) (ci := 4) (v := .ref (a 8)) (C := RX5) (T := TX5) (N := 9) hx hb hts inX5 hown hK hP 0 rfl rfl 3 (by decide) (hts _ q_fl_X5_35) (fun _ h9 => h9) rfl dX5_perform_129 ?_
    refine va_get (D := (dC, dI)) (ci := 8) (v := .int u_18.2.2.2.1.2.2) (C := RX9) (T := TX9) (N := 3) hx hb hts inX9 hown hK hP 8 rfl rfl 2 (by decide) (hts _ q_fl_X5_167) (fun _ h9 => h9) rfl dX5_perform_132 ?_
    exact z_retMi (Wf := (fun z => cl_X5 cI cJ a z)) (u := u_18) X hf hP hD hS dX5_perform_135
  have hf := hf.2 c_16
  by_cases c_19 : x1 = (5 : Int32)
  · have hf := hf.1 c_19
    refine lv_tableIn (off := 135) (tgt := 136) hx hb dX5_perform_1 (by rw [c_19]; decide) (by rw [c_19]; decide) (by rw [c_19]; decide) (by decide) ?_
    refine lv_aload_n hx hb dX5_perform_136 rfl (lv_at hl 0 rfl) ?_
    refine z_mVi (Wn := (fun u_21 => cl_X5 cI cJ a u_21)) (As := []) (rest := []) (wr := []) X (c_X5_loseUnsecured l dC dI cI cJ cS a u  _ hf _) zc_X5_loseUnsecured q_ml_X5_170 ⟨rfl, rfl⟩ ⟨Nat.le_of_ble_eq_true rfl, Nat.le_of_ble_eq_true rfl⟩ hP hD hS hA [0, 1, 2, 3, 4, 5, 6, 7, 8, 9, 10, 11, 12, 13, 14] [] rfl (by decide) rfl (by decide) (by decide) [0, 1, 2, 3, 4, 5, 6, 7, 8, 9, 10, 11, 12, 13, 14] (by decide) (fun _ => rfl) 4 rfl rfl hl.1 rfl rfl (Nat.le_of_ble_eq_true rfl) ⟨Nat.zero_le _, Nat.zero_le _⟩ dX5_perform_137 (fun r_20 u_21 H locs hf hP hD hS => ?_)
    exact z_retMi (Wf := (fun z => cl_X5 cI cJ a z)) (u := u_21) X hf hP hD hS dX5_perform_140
  have hf := hf.2 c_19
  by_cases c_22 : x1 = (6 : Int32)
  · have hf := hf.1 c_22
    refine lv_tableIn (off := 140) (tgt := 141) hx hb dX5_perform_1 (by rw [c_22]; decide) (by rw [c_22]; decide) (by rw [c_22]; decide) (by decide) ?_
    refine lv_aload_n hx hb dX5_perform_141 rfl (lv_at hl 0 rfl) ?_
    refine lv_iload_n hx hb dX5_perform_142 rfl (lv_at hl 2 rfl) ?_
    refine lv_iconst (v := (-1)) hx hb dX5_perform_143 (by decide) ?_
    refine lv_icmp_ne (tgt := 154) hx hb dX5_perform_144 (by decide) (fun c_23 => ?_) (fun c_23 => ?_)
    · have hf := hf.1 c_23
      refine lv_iload_n hx hb dX5_perform_154 rfl (lv_at hl 2 rfl) ?_
      refine z_mVi (Wn := (fun u_25 => cl_X5 cI cJ a u_25)) (As := [.int x2]) (rest := []) (wr := []) X (c_X5_noteLive l dC dI cI cJ cS a u x2 _ hf _) zc_X5_noteLive q_ml_X5_173 ⟨rfl, rfl⟩ ⟨Nat.le_of_ble_eq_true rfl, Nat.le_of_ble_eq_true rfl⟩ hP hD hS hA [0, 1, 2, 3, 4, 5, 6, 7, 8, 9, 10, 11, 12, 13, 14] [] rfl (by decide) rfl (by decide) (by decide) [0, 1, 2, 3, 4, 5, 6, 7, 8, 9, 10, 11, 12, 13, 14] (by decide) (fun _ => rfl) 4 rfl rfl hl.1 rfl rfl (Nat.le_of_ble_eq_true rfl) ⟨Nat.zero_le _, Nat.zero_le _⟩ dX5_perform_155 (fun r_24 u_25 H locs hf hP hD hS => ?_)
      exact z_retMi (Wf := (fun z => cl_X5 cI cJ a z)) (u := u_25) X hf hP hD hS dX5_perform_158
    · have hf := hf.2 c_23
      refine lv_aload_n hx hb dX5_perform_147 rfl (lv_at hl 0 rfl) ?_
      refine z_cVi (As := []) (rest := [.ref (a 0)]) X (c_X5_poorest l dC dI cI cJ cS a u  _ hf) zc_X5_poorest q_ml_X5_116 ⟨rfl, rfl⟩ ⟨Nat.le_of_ble_eq_true rfl, Nat.le_of_ble_eq_true rfl⟩ hP [0, 1, 2, 3, 4, 5, 6, 7, 8, 9, 10, 11, 12, 13, 14] rfl 4 rfl rfl hl.1 rfl rfl (Nat.le_of_ble_eq_true rfl) ⟨Nat.zero_le _, Nat.zero_le _⟩ dX5_perform_148 (fun r_26 hf => ?_)
      refine lv_goto (tgt := 155) hx hb dX5_perform_151 (by decide) ?_
      refine z_mVi (Wn := (fun u_28 => cl_X5 cI cJ a u_28)) (As := [.int r_26]) (rest := []) (wr := []) X (c_X5_noteLive l dC dI cI cJ cS a u r_26 _ hf _) zc_X5_noteLive q_ml_X5_173 ⟨rfl, rfl⟩ ⟨Nat.le_of_ble_eq_true rfl, Nat.le_of_ble_eq_true rfl⟩ hP hD hS hA [0, 1, 2, 3, 4, 5, 6, 7, 8, 9, 10, 11, 12, 13, 14] [] rfl (by decide) rfl (by decide) (by decide) [0, 1, 2, 3, 4, 5, 6, 7, 8, 9, 10, 11, 12, 13, 14] (by decide) (fun _ => rfl) 4 rfl rfl hl.1 rfl rfl (Nat.le_of_ble_eq_true rfl) ⟨Nat.zero_le _, Nat.zero_le _⟩ dX5_perform_155 (fun r_27 u_28 H locs hf hP hD hS => ?_)
      exact z_retMi (Wf := (fun z => cl_X5 cI cJ a z)) (u := u_28) X hf hP hD hS dX5_perform_158
  have hf := hf.2 c_22
  by_cases c_29 : x1 = (7 : Int32)
  · have hf := hf.1 c_29
    refine lv_tableIn (off := 158) (tgt := 159) hx hb dX5_perform_1 (by rw [c_29]; decide) (by rw [c_29]; decide) (by rw [c_29]; decide) (by decide) ?_
    refine lv_aload_n hx hb dX5_perform_159 rfl (lv_at hl 0 rfl) ?_
    refine lv_iload_n hx hb dX5_perform_160 rfl (lv_at hl 2 rfl) ?_
    refine z_mVi (Wn := (fun u_31 => cl_X5 cI cJ a u_31)) (As := [.int x2]) (rest := []) (wr := []) X (c_X5_collect l dC dI cI cJ cS a u x2 _ hf _) zc_X5_collect q_ml_X5_176 ⟨rfl, rfl⟩ ⟨Nat.le_of_ble_eq_true rfl, Nat.le_of_ble_eq_true rfl⟩ hP hD hS hA [0, 1, 2, 3, 4, 5, 6, 7, 8, 9, 10, 11, 12, 13, 14] [] rfl (by decide) rfl (by decide) (by decide) [0, 1, 2, 3, 4, 5, 6, 7, 8, 9, 10, 11, 12, 13, 14] (by decide) (fun _ => rfl) 4 rfl rfl hl.1 rfl rfl (Nat.le_of_ble_eq_true rfl) ⟨Nat.zero_le _, Nat.zero_le _⟩ dX5_perform_161 (fun r_30 u_31 H locs hf hP hD hS => ?_)
    exact z_retMi (Wf := (fun z => cl_X5 cI cJ a z)) (u := u_31) X hf hP hD hS dX5_perform_164
  have hf := hf.2 c_29
  by_cases c_32 : x1 = (8 : Int32)
  · have hf := hf.1 c_32
    refine lv_tableIn (off := 164) (tgt := 165) hx hb dX5_perform_1 (by rw [c_32]; decide) (by rw [c_32]; decide) (by rw [c_32]; decide) (by decide) ?_
    refine lv_aload_n hx hb dX5_perform_165 rfl (lv_at hl 0 rfl) ?_
    refine z_mVi (Wn := (fun u_34 => cl_X5 cI cJ a u_34)) (As := []) (rest := []) (wr := []) X (c_X5_leaveCollection l dC dI cI cJ cS a u  _ hf _) zc_X5_leaveCollection q_ml_X5_179 ⟨rfl, rfl⟩ ⟨Nat.le_of_ble_eq_true rfl, Nat.le_of_ble_eq_true rfl⟩ hP hD hS hA [0, 1, 2, 3, 4, 5, 6, 7, 8, 9, 10, 11, 12, 13, 14] [] rfl (by decide) rfl (by decide) (by decide) [0, 1, 2, 3, 4, 5, 6, 7, 8, 9, 10, 11, 12, 13, 14] (by decide) (fun _ => rfl) 4 rfl rfl hl.1 rfl rfl (Nat.le_of_ble_eq_true rfl) ⟨Nat.zero_le _, Nat.zero_le _⟩ dX5_perform_166 (fun r_33 u_34 H locs hf hP hD hS => ?_)
    exact z_retMi (Wf := (fun z => cl_X5 cI cJ a z)) (u := u_34) X hf hP hD hS dX5_perform_169
  have hf := hf.2 c_32
  by_cases c_35 : x1 = (9 : Int32)
  · have hf := hf.1 c_35
    refine lv_tableIn (off := 169) (tgt := 170) hx hb dX5_perform_1 (by rw [c_35]; decide) (by rw [c_35]; decide) (by rw [c_35]; decide) (by decide) ?_
    refine lv_aload_n hx hb dX5_perform_170 rfl (lv_at hl 0 rfl) ?_
    refine z_mVi (Wn := (fun u_37 => cl_X5 cI cJ a u_37)) (As := []) (rest := []) (wr := []) X (c_X5_mergeRuns l dC dI cI cJ cS a u  _ hf _) zc_X5_mergeRuns q_ml_X5_182 ⟨rfl, rfl⟩ ⟨Nat.le_of_ble_eq_true rfl, Nat.le_of_ble_eq_true rfl⟩ hP hD hS hA [0, 1, 2, 3, 4, 5, 6, 7, 8, 9, 10, 11, 12, 13, 14] [] rfl (by decide) rfl (by decide) (by decide) [0, 1, 2, 3, 4, 5, 6, 7, 8, 9, 10, 11, 12, 13, 14] (by decide) (fun _ => rfl) 4 rfl rfl hl.1 rfl rfl (Nat.le_of_ble_eq_true rfl) ⟨Nat.zero_le _, Nat.zero_le _⟩ dX5_perform_171 (fun r_36 u_37 H locs hf hP hD hS => ?_)
    exact z_retMi (Wf := (fun z => cl_X5 cI cJ a z)) (u := u_37) X hf hP hD hS dX5_perform_174
  have hf := hf.2 c_35
  refine lv_tableOut (tgt := 175) hx hb dX5_perform_1 (by have q0 : ¬ x1.toInt = (0 : Int) := fun h => c_1 (Int32.toInt_inj.mp (show x1.toInt = (0 : Int32).toInt from h)); have q1 : ¬ x1.toInt = (1 : Int) := fun h => c_5 (Int32.toInt_inj.mp (show x1.toInt = (1 : Int32).toInt from h)); have q2 : ¬ x1.toInt = (2 : Int) := fun h => c_9 (Int32.toInt_inj.mp (show x1.toInt = (2 : Int32).toInt from h)); have q3 : ¬ x1.toInt = (3 : Int) := fun h => c_13 (Int32.toInt_inj.mp (show x1.toInt = (3 : Int32).toInt from h)); have q4 : ¬ x1.toInt = (4 : Int) := fun h => c_16 (Int32.toInt_inj.mp (show x1.toInt = (4 : Int32).toInt from h)); have q5 : ¬ x1.toInt = (5 : Int) := fun h => c_19 (Int32.toInt_inj.mp (show x1.toInt = (5 : Int32).toInt from h)); have q6 : ¬ x1.toInt = (6 : Int) := fun h => c_22 (Int32.toInt_inj.mp (show x1.toInt = (6 : Int32).toInt from h)); have q7 : ¬ x1.toInt = (7 : Int) := fun h => c_29 (Int32.toInt_inj.mp (show x1.toInt = (7 : Int32).toInt from h)); have q8 : ¬ x1.toInt = (8 : Int) := fun h => c_32 (Int32.toInt_inj.mp (show x1.toInt = (8 : Int32).toInt from h)); have q9 : ¬ x1.toInt = (9 : Int) := fun h => c_35 (Int32.toInt_inj.mp (show x1.toInt = (9 : Int32).toInt from h)); omega) (by decide) ?_
  refine lv_iconst (v := (-1)) hx hb dX5_perform_175 (by decide) ?_
  exact z_retMi (Wf := (fun z => cl_X5 cI cJ a z)) (u := u) X hf hP hD hS dX5_perform_176
