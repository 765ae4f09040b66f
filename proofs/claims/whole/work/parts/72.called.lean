def t_X6_actCalled_e (u : zTape) (x1 : Int32) (x2 : Int32) (K2 : Int32 → zTape → Prop) (Q : Int32 → zTape → Prop) : Prop := K2 (0 : Int32) u
def t_X6_actCalled_2 (x1 : Int32) (x2 : Int32) (y3 : Int32) (z : zTape) (K2 : Int32 → zTape → Prop) (Q : Int32 → zTape → Prop) : Prop := (((10 : Int32) ≤ y3 → Q (-1 : Int32) z) ∧ (¬ (10 : Int32) ≤ y3 → (∃ k_3 : Nat, y3 = nI k_3 ∧ k_3 < 10 ∧ s_X6_isWord z (wdL k_3) x1 x2 (fun (r_5 : Int32) (u_6 : zTape) => ((r_5 = 0 → ∀ x_8 : Int32, x_8 = y3 + (1 : Int32) → K2 x_8 u_6) ∧ (¬ r_5 = 0 → Q y3 u_6))))))
theorem zc_X6_actCalled : zCalV RX6 yX6_actCalled cX6_actCalled 4 (some .int) 2 := ⟨q_im_X6_actCalled, q_se_X6_actCalled, q_in_X6, q_cd_X6_actCalled, ⟨by decide, by decide, by decide +kernel⟩, rfl⟩
abbrev rm_X6_actCalled : Room := { frames := 5, cells := 0, slots := 0, locals := 109 }
def v_X6_actCalled (u : zTape) (x1 : Int32) (x2 : Int32) (Q : Int32 → zTape → Prop) : Prop := ∃ I2 : Nat → Int32 → zTape → Prop, (∀ (n : Nat) (y3 : Int32) (z : zTape), I2 n y3 z → t_X6_actCalled_2 x1 x2 y3 z (fun q0 q1 => ∃ k : Nat, k < n ∧ I2 k q0 q1) Q) ∧ t_X6_actCalled_e u x1 x2 (fun q0 q1 => ∃ k : Nat, I2 k q0 q1) Q
set_option maxHeartbeats 4000000 in
set_option maxRecDepth 100000 in
theorem L_X6_actCalled (l : Launch) (dC : Nat → ClassId) (dI : Nat → Nat → Nat) (cI cJ cS : ClassId) (a : Nat → Nat) (u : zTape) (x1 : Int32) (x2 : Int32) (Q : Int32 → zTape → Prop) (I2 : Nat → Int32 → zTape → Prop) (h2 : ∀ (n : Nat) (y3 : Int32) (z : zTape), I2 n y3 z → t_X6_actCalled_2 x1 x2 y3 z (fun q0 q1 => ∃ k : Nat, k < n ∧ I2 k q0 q1) Q) (hf : t_X6_actCalled_e u x1 x2 (fun q0 q1 => ∃ k : Nat, I2 k q0 q1) Q) : ∀ sz : Nat, Met l yX6_actCalled (Cond.code yX6_actCalled cX6_actCalled 4 (some .int) :: zT) rm_X6_actCalled (zPmF zFz dC dI cI cJ cS (cl_X6 cI cJ a u) [.ref (a 0), .int x1, .int x2] sz) (va_Qi Q (zB dC dI cI cJ cS (va_A (cl_X6 cI cJ a u) sz) (fun z => cl_X6 cI cJ a z)) (va_A (cl_X6 cI cJ a u) sz)) 0 0 (va_A (cl_X6 cI cJ a u) sz) := by
  intro sz
  refine z_enterMF (Qc := fun A => va_Qi Q (zB dC dI cI cJ cS A (fun z => cl_X6 cI cJ a z)) A) (cc := cX6_actCalled) (maxL := 4) (ret := (some .int)) (by decide) (Nat.le_of_ble_eq_true rfl) ?_
  intro p e s m below meth c ls A X hP hD hS hA hF hl
  obtain ⟨⟨hx, hb, hml, hown, hts⟩, hr, hlk, hK⟩ := id X
  have hl : lv_has ls 4 [(0, .ref (a 0)), (1, .int x1), (2, .int x2)] := hl
  have LP : ∀ n : Nat, (∀ (y3 : Int32) (z : zTape) (H : Heap) (locs : List Loc) (ls : Array Slot), I2 n y3 z → va_P (dC, dI) vwCl (cl_X6 cI cJ a z) H → va_D A (cl_X6 cI cJ a z) → va_S A s.heap H locs → lv_has ls 4 [(0, .ref (a 0)), (1, .int x1), (2, .int x2), (3, .int y3)] → W p l e rm_X6_actCalled s m [.ref (a 0), .int x1, .int x2].toArray below meth c H locs 0 0 (MQ below (va_Qi Q (zB dC dI cI cJ cS A (fun z => cl_X6 cI cJ a z)) A) [.ref (a 0), .int x1, .int x2].toArray s 0 0 A) (F0 m 2 ls [])) := by
    intro n
    induction n using Nat.strongRecOn with
    | _ n ih =>
      intro y3 z H locs ls hI hP hD hS hl
      have hf := h2 n y3 z hI
      unfold t_X6_actCalled_2 at hf
      refine lv_iload_n hx hb dX6_actCalled_2 rfl (lv_at hl 3 rfl) ?_
      refine lv_bipush (v := 10) hx hb dX6_actCalled_3 (by decide) ?_
      refine lv_icmp_ge (tgt := 29) hx hb dX6_actCalled_5 (by decide) (fun c_2 => ?_) (fun c_2 => ?_)
      · have hf := hf.1 c_2
        refine lv_iconst (v := (-1)) hx hb dX6_actCalled_29 (by decide) ?_
        exact z_retMi (Wf := (fun z => cl_X6 cI cJ a z)) (u := z) X hf hP hD hS dX6_actCalled_30
      · have hf := hf.2 c_2
        refine lv_aload_n hx hb dX6_actCalled_8 rfl (lv_at hl 0 rfl) ?_
        refine lv_iload_n hx hb dX6_actCalled_9 rfl (lv_at hl 3 rfl) ?_
        obtain ⟨k_3, ek_3, lk_3, hf⟩ := hf
        obtain ⟨q_4, gq_4, hq_4⟩ := hF.2.2.1 k_3
        refine z_jS (A := A) (F := fun _ U _ => vk_R RX6 (wiT k_3) (wdS k_3) q_4 U) (As := [.int (nI k_3)]) (rest := [.ref (a 0)]) X.1 (fro_R _ _ _ _) gq_4 hS (c_X6_wordOf l k_3 lk_3 q_4) zc_X6_wordOf q_ml_X6_59 ⟨rfl, rfl⟩ ⟨Nat.le_of_ble_eq_true rfl, Nat.le_of_ble_eq_true rfl⟩ hl.1 rfl (by rw [ek_3]; rfl) (Nat.le_of_ble_eq_true rfl) ⟨Nat.zero_le _, Nat.zero_le _⟩ dX6_actCalled_10 ?_
        refine lv_iload_n hx hb dX6_actCalled_13 rfl (lv_at hl 1 rfl) ?_
        refine lv_iload_n hx hb dX6_actCalled_14 rfl (lv_at hl 2 rfl) ?_
        refine z_mViF (Wn := (fun u_6 => cl_X6 cI cJ a u_6)) (As := [.ref q_4, .int x1, .int x2]) (rest := []) (wr := []) X (fro_Fzs q_4 (wdL k_3)) ⟨hF, hq_4⟩ (c_X6_isWord l dC dI cI cJ cS a q_4 z (wdL k_3) x1 x2 _ hf _) zc_X6_isWord q_ml_X6_63 ⟨rfl, rfl⟩ ⟨Nat.le_of_ble_eq_true rfl, Nat.le_of_ble_eq_true rfl⟩ hP hD hS hA [0, 1, 2] [] rfl (by decide) rfl (by decide) (by decide) [0, 1, 2] (by decide) (fun _ => rfl) 5 rfl rfl hl.1 rfl rfl (Nat.le_of_ble_eq_true rfl) ⟨Nat.zero_le _, Nat.zero_le _⟩ dX6_actCalled_15 (fun r_5 u_6 H locs hf hP hD hS => ?_)
        obtain ⟨hbr_5, hf⟩ := hf
        refine lv_if_eq (tgt := 23) hx hb dX6_actCalled_18 (by decide) (fun c_7 => ?_) (fun c_7 => ?_)
        · have hf := hf.1 c_7
          obtain ⟨x_8, ex_8⟩ : ∃ y : Int32, y = y3 + (1 : Int32) := ⟨_, rfl⟩
          have hf := hf x_8 ex_8
          refine lv_iinc (v := x_8) (lv' := [(3, .int x_8), (0, .ref (a 0)), (1, .int x1), (2, .int x2)]) hx hb dX6_actCalled_23 hl (k := 3) rfl (by rw [ex_8]; rfl) (by decide) rfl (fun ls hl => ?_)
          refine lv_goto (tgt := 2) hx hb dX6_actCalled_26 (by decide) ?_
          obtain ⟨k_9, hk_9, hf⟩ := hf
          exact (ih k_9 hk_9) _ u_6 _ _ ls hf hP hD hS (lv_sub hl [1, 2, 3, 0] rfl)
        · have hf := hf.2 c_7
          refine lv_iload_n hx hb dX6_actCalled_21 rfl (lv_at hl 3 rfl) ?_
          exact z_retMi (Wf := (fun z => cl_X6 cI cJ a z)) (u := u_6) X hf hP hD hS dX6_actCalled_22
  unfold t_X6_actCalled_e at hf
  refine lv_iconst (v := 0) hx hb dX6_actCalled_0 (by decide) ?_
  refine lv_istore_n (lv' := [(3, .int (0 : Int32)), (0, .ref (a 0)), (1, .int x1), (2, .int x2)]) hx hb dX6_actCalled_1 rfl hl (by decide) rfl (fun ls hl => ?_)
  obtain ⟨k_1, hf⟩ := hf
  exact (LP k_1) _ u _ _ ls hf hP hD hS (lv_sub hl [1, 2, 3, 0] rfl)
def s_X6_actCalled (u : zTape) (x1 x2 : Int32) (Q : Int32 → zTape → Prop) : Prop := ∃ p e : Nat, p ≤ e ∧ e ≤ 400 ∧ x1 = nI p ∧ x2 = nI e ∧ Q (if fa_first (fun i => isWd u.1 p e i) 10 = 10 then -1 else nI (fa_first (fun i => isWd u.1 p e i) 10)) u
theorem st_X6_actCalled {u : zTape} {x1 x2 : Int32} {Q : Int32 → zTape → Prop} (h : s_X6_actCalled u x1 x2 Q) : v_X6_actCalled u x1 x2 Q := by
  obtain ⟨p, e, hpe, he, rfl, rfl, hQ⟩ := h
  refine ⟨fun n y3 z => ∃ j : Nat, j ≤ 10 ∧ n = 10 - j ∧ y3 = nI j ∧ z = u ∧ ∀ i, i < j → isWd u.1 p e i = false, ?_, ?_⟩
  · rintro n y3 z ⟨j, hj, rfl, rfl, rfl, hall⟩
    refine ⟨fun c => ?_, fun c => ?_⟩
    · have := (nI_leI (a := 10) (b := j) (by decide) (by omega)).mp c
      have e1 : j = 10 := by omega
      subst e1
      rw [first_none hall, if_pos rfl] at hQ
      exact hQ
    · have hj2 : j < 10 := by
        have : ¬ 10 ≤ j := fun z => c (nI_le (a := 10) z (by omega))
        omega
      refine ⟨j, rfl, hj2, p, e, hpe, he, rfl, rfl, wdL_txt j, fun d => ⟨fun q => absurd q (by decide), fun _ => ?_⟩, fun d => ⟨fun _ x ex => ?_, fun q => absurd rfl q⟩⟩
      · rw [first_at hall (show isWd z.1 p e j = true from d) hj2, if_neg (by omega)] at hQ
        exact hQ
      · refine ⟨10 - (j + 1), by omega, j + 1, hj2, rfl, by rw [ex, nI_1], rfl, fun i hi => ?_⟩
        by_cases q2 : i = j
        · rw [q2]; exact d
        · exact hall i (by omega)
  · exact ⟨10 - 0, 0, by omega, rfl, rfl, rfl, fun i hi => absurd hi (Nat.not_lt_zero i)⟩
theorem c_X6_actCalled (l : Launch) (dC : Nat → ClassId) (dI : Nat → Nat → Nat) (cI cJ cS : ClassId) (a : Nat → Nat) (u : zTape) (x1 : Int32) (x2 : Int32) (Q : Int32 → zTape → Prop) (hf : s_X6_actCalled u x1 x2 Q) : ∀ sz : Nat, Met l yX6_actCalled (Cond.code yX6_actCalled cX6_actCalled 4 (some .int) :: zT) rm_X6_actCalled (zPmF zFz dC dI cI cJ cS (cl_X6 cI cJ a u) [.ref (a 0), .int x1, .int x2] sz) (va_Qi Q (zB dC dI cI cJ cS (va_A (cl_X6 cI cJ a u) sz) (fun z => cl_X6 cI cJ a z)) (va_A (cl_X6 cI cJ a u) sz)) 0 0 (va_A (cl_X6 cI cJ a u) sz) := by
  obtain ⟨I2, h2, hf⟩ := st_X6_actCalled hf
  exact L_X6_actCalled l dC dI cI cJ cS a u x1 x2 Q I2 h2 hf
