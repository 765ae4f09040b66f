def t_X10_doomed_e (u : zCls) (K23 : Int32 → Int32 → zCls → Prop) (Q : Int32 → zCls → Prop) : Prop := s_X5_copyFrom u.2.1 u.1 (fun (u_2 : zState × zState) => s_X5_loseUnsecured u_2.1 (fun (r_3 : Int32) (u_4 : zState) => K23 (0 : Int32) (0 : Int32) (u_2.2, u_4, u.2.2)))
def t_X10_doomed_23 (y1 : Int32) (y2 : Int32) (z : zCls) (K23 : Int32 → Int32 → zCls → Prop) (Q : Int32 → zCls → Prop) : Prop := (((64 : Int32) ≤ y2 → Q y1 z) ∧ (¬ (64 : Int32) ≤ y2 → s_X5_valueOf z.1 y2 (fun r_7 : Int32 => s_X5_valueOf z.2.1 y2 (fun r_8 : Int32 => ((r_7 = r_8 → ∀ x_10 : Int32, x_10 = y2 + (1 : Int32) → K23 y1 x_10 z) ∧ (¬ r_7 = r_8 → ∀ x_12 : Int32, x_12 = y1 + (1 : Int32) → ∀ x_13 : Int32, x_13 = y2 + (1 : Int32) → K23 x_12 x_13 z))))))
theorem zc_X10_doomed : zCalV RX10 yX10_doomed cX10_doomed 3 (some .int) 0 := ⟨q_im_X10_doomed, q_se_X10_doomed, q_in_X10, q_cd_X10_doomed, ⟨by decide, by decide, by decide +kernel⟩, rfl⟩
abbrev rm_X10_doomed : Room := { frames := 4, cells := 0, slots := 0, locals := 93 }
def v_X10_doomed (u : zCls) (Q : Int32 → zCls → Prop) : Prop := ∃ I23 : Nat → Int32 → Int32 → zCls → Prop, (∀ (n : Nat) (y1 : Int32) (y2 : Int32) (z : zCls), I23 n y1 y2 z → t_X10_doomed_23 y1 y2 z (fun q0 q1 q2 => ∃ k : Nat, k < n ∧ I23 k q0 q1 q2) Q) ∧ t_X10_doomed_e u (fun q0 q1 q2 => ∃ k : Nat, I23 k q0 q1 q2) Q
set_option maxHeartbeats 4000000 in
set_option maxRecDepth 100000 in
theorem L_X10_doomed (l : Launch) (dC : Nat → ClassId) (dI : Nat → Nat → Nat) (cI cJ cS : ClassId) (a : Nat → Nat) (u : zCls) (Q : Int32 → zCls → Prop) (I23 : Nat → Int32 → Int32 → zCls → Prop) (h23 : ∀ (n : Nat) (y1 : Int32) (y2 : Int32) (z : zCls), I23 n y1 y2 z → t_X10_doomed_23 y1 y2 z (fun q0 q1 q2 => ∃ k : Nat, k < n ∧ I23 k q0 q1 q2) Q) (hf : t_X10_doomed_e u (fun q0 q1 q2 => ∃ k : Nat, I23 k q0 q1 q2) Q) : ∀ sz : Nat, Met l yX10_doomed (Cond.code yX10_doomed cX10_doomed 3 (some .int) :: zT) rm_X10_doomed (zPm dC dI cI cJ cS (cl_X10 cI cJ cS a u) [.ref (a 0)] sz) (va_Qi Q (zB dC dI cI cJ cS (va_A (cl_X10 cI cJ cS a u) sz) (fun z => cl_X10 cI cJ cS a z)) (va_A (cl_X10 cI cJ cS a u) sz)) 0 0 (va_A (cl_X10 cI cJ cS a u) sz) := by
  intro sz
  refine z_enterM (Qc := fun A => va_Qi Q (zB dC dI cI cJ cS A (fun z => cl_X10 cI cJ cS a z)) A) (cc := cX10_doomed) (maxL := 3) (ret := (some .int)) (by decide) (Nat.le_of_ble_eq_true rfl) ?_
  intro p e s m below meth c ls A X hP hD hS hA hl
  obtain ⟨⟨hx, hb, hml, hown, hts⟩, hr, hlk, hK⟩ := id X
  have hl : lv_has ls 3 [(0, .ref (a 0))] := hl
  have LP : ∀ n : Nat, (∀ (y1 : Int32) (y2 : Int32) (z : zCls) (H : Heap) (locs : List Loc) (ls : Array Slot), I23 n y1 y2 z → va_P (dC, dI) vwCl (cl_X10 cI cJ cS a z) H → va_D A (cl_X10 cI cJ cS a z) → va_S A s.heap H locs → lv_has ls 3 [(0, .ref (a 0)), (1, .int y1), (2, .int y2)] → W p l e rm_X10_doomed s m [.ref (a 0)].toArray below meth c H locs 0 0 (MQ below (va_Qi Q (zB dC dI cI cJ cS A (fun z => cl_X10 cI cJ cS a z)) A) [.ref (a 0)].toArray s 0 0 A) (F0 m 23 ls [])) := by
    intro n
    induction n using Nat.strongRecOn with
    | _ n ih =>
      intro y1 y2 z H locs ls hI hP hD hS hl
      have hf := h23 n y1 y2 z hI
      unfold t_X10_doomed_23 at hf
      refine lv_iload_n hx hb dX10_doomed_23 rfl (lv_at hl 2 rfl) ?_
      refine lv_bipush (v := 64) hx hb dX10_doomed_24 (by decide) ?_
      refine lv_icmp_ge (tgt := 57) hx hb dX10_doomed_26 (by decide) (fun c_6 => ?_) (fun c_6 => ?_)
      · have hf := hf.1 c_6
        refine lv_iload_n hx hb dX10_doomed_57 rfl (lv_at hl 1 rfl) ?_
        exact z_retMi (Wf := (fun z => cl_X10 cI cJ cS a z)) (u := z) X hf hP hD hS dX10_doomed_58
      · have hf := hf.2 c_6
        refine lv_aload_n hx hb dX10_doomed_29 rfl (lv_at hl 0 rfl) ?_
        refine va_get (D := (dC, dI)) (ci := 9) (v := .ref (a 1)) (C := RX10) (T := TX10) (N := 9) hx hb hts inX10 hown hK hP 0 rfl rfl 0 (by decide) (hts _ q_fl_X10_10) (fun _ h9 => h9) rfl dX10_doomed_30 ?_
        refine lv_iload_n hx hb dX10_doomed_33 rfl (lv_at hl 2 rfl) ?_
        refine z_cVi (As := [.int y2]) (rest := []) X (c_X5_valueOf l dC dI cI cJ cS (fun i => a (1 + i)) z.1 y2 _ hf) zc_X5_valueOf q_ml_X10_405 ⟨rfl, rfl⟩ ⟨Nat.le_of_ble_eq_true rfl, Nat.le_of_ble_eq_true rfl⟩ hP [1, 2, 3, 4, 5, 6, 7, 8, 9, 10, 11, 12, 13, 14, 15] rfl 4 rfl rfl hl.1 rfl rfl (Nat.le_of_ble_eq_true rfl) ⟨Nat.zero_le _, Nat.zero_le _⟩ dX10_doomed_34 (fun r_7 hf => ?_)
        refine lv_aload_n hx hb dX10_doomed_37 rfl (lv_at hl 0 rfl) ?_
        refine va_get (D := (dC, dI)) (ci := 9) (v := .ref (a 16)) (C := RX10) (T := TX10) (N := 9) hx hb hts inX10 hown hK hP 0 rfl rfl 1 (by decide) (hts _ q_fl_X10_16) (fun _ h9 => h9) rfl dX10_doomed_38 ?_
        refine lv_iload_n hx hb dX10_doomed_41 rfl (lv_at hl 2 rfl) ?_
        refine z_cVi (As := [.int y2]) (rest := [.int r_7]) X (c_X5_valueOf l dC dI cI cJ cS (fun i => a (16 + i)) z.2.1 y2 _ hf) zc_X5_valueOf q_ml_X10_405 ⟨rfl, rfl⟩ ⟨Nat.le_of_ble_eq_true rfl, Nat.le_of_ble_eq_true rfl⟩ hP [16, 17, 18, 19, 20, 21, 22, 23, 24, 25, 26, 27, 28, 29, 30] rfl 4 rfl rfl hl.1 rfl rfl (Nat.le_of_ble_eq_true rfl) ⟨Nat.zero_le _, Nat.zero_le _⟩ dX10_doomed_42 (fun r_8 hf => ?_)
        refine lv_icmp_eq (tgt := 51) hx hb dX10_doomed_45 (by decide) (fun c_9 => ?_) (fun c_9 => ?_)
        · have hf := hf.1 c_9
          obtain ⟨x_10, ex_10⟩ : ∃ y : Int32, y = y2 + (1 : Int32) := ⟨_, rfl⟩
          have hf := hf x_10 ex_10
          refine lv_iinc (v := x_10) (lv' := [(2, .int x_10), (0, .ref (a 0)), (1, .int y1)]) hx hb dX10_doomed_51 hl (k := 2) rfl (by rw [ex_10]; rfl) (by decide) rfl (fun ls hl => ?_)
          refine lv_goto (tgt := 23) hx hb dX10_doomed_54 (by decide) ?_
          obtain ⟨k_11, hk_11, hf⟩ := hf
          exact (ih k_11 hk_11) _ _ z _ _ ls hf hP hD hS (lv_sub hl [1, 2, 0] rfl)
        · have hf := hf.2 c_9
          obtain ⟨x_12, ex_12⟩ : ∃ y : Int32, y = y1 + (1 : Int32) := ⟨_, rfl⟩
          have hf := hf x_12 ex_12
          refine lv_iinc (v := x_12) (lv' := [(1, .int x_12), (0, .ref (a 0)), (2, .int y2)]) hx hb dX10_doomed_48 hl (k := 1) rfl (by rw [ex_12]; rfl) (by decide) rfl (fun ls hl => ?_)
          obtain ⟨x_13, ex_13⟩ : ∃ y : Int32, y = y2 + (1 : Int32) := ⟨_, rfl⟩
          have hf := hf x_13 ex_13
          refine lv_iinc (v := x_13) (lv' := [(2, .int x_13), (1, .int x_12), (0, .ref (a 0))]) hx hb dX10_doomed_51 hl (k := 2) rfl (by rw [ex_13]; rfl) (by decide) rfl (fun ls hl => ?_)
          refine lv_goto (tgt := 23) hx hb dX10_doomed_54 (by decide) ?_
          obtain ⟨k_14, hk_14, hf⟩ := hf
          exact (ih k_14 hk_14) _ _ z _ _ ls hf hP hD hS (lv_sub hl [2, 1, 0] rfl)
  unfold t_X10_doomed_e at hf
  refine lv_iconst (v := 0) hx hb dX10_doomed_0 (by decide) ?_
  refine lv_istore_n (lv' := [(1, .int (0 : Int32)), (0, .ref (a 0))]) hx hb dX10_doomed_1 rfl hl (by decide) rfl (fun ls hl => ?_)
  refine lv_aload_n hx hb dX10_doomed_2 rfl (lv_at hl 1 rfl) ?_
  refine va_get (D := (dC, dI)) (ci := 9) (v := .ref (a 16)) (C := RX10) (T := TX10) (N := 9) hx hb hts inX10 hown hK hP 0 rfl rfl 1 (by decide) (hts _ q_fl_X10_16) (fun _ h9 => h9) rfl dX10_doomed_3 ?_
  refine lv_aload_n hx hb dX10_doomed_6 rfl (lv_at hl 1 rfl) ?_
  refine va_get (D := (dC, dI)) (ci := 9) (v := .ref (a 1)) (C := RX10) (T := TX10) (N := 9) hx hb hts inX10 hown hK hP 0 rfl rfl 0 (by decide) (hts _ q_fl_X10_10) (fun _ h9 => h9) rfl dX10_doomed_7 ?_
  refine z_pVv (Wn := (fun u_2 => cl_X10 cI cJ cS a (u_2.2, u_2.1, u.2.2))) (As := [.ref (a 1)]) (rest := []) (wr := rr_X10_pn cI cJ cS a u) X (c_X5_copyFrom l dC dI cI cJ cS (fun i => a (16 + i)) (fun i => a (1 + i)) u.2.1 u.1  _ hf _) zc_X5_copyFrom q_ml_X10_55 ⟨rfl, rfl⟩ ⟨Nat.le_of_ble_eq_true rfl, Nat.le_of_ble_eq_true rfl⟩ hP hD hS hA (pm_X10_pn cI cJ cS a u) (fun u_2 => pm_X10_pn cI cJ cS a (u_2.2, u_2.1, u.2.2)) 4 rfl rfl hl.1 rfl rfl (Nat.le_of_ble_eq_true rfl) ⟨Nat.zero_le _, Nat.zero_le _⟩ dX10_doomed_10 (fun u_2 H locs hf hP hD hS => ?_)
  refine lv_aload_n hx hb dX10_doomed_13 rfl (lv_at hl 1 rfl) ?_
  refine va_get (D := (dC, dI)) (ci := 9) (v := .ref (a 16)) (C := RX10) (T := TX10) (N := 9) hx hb hts inX10 hown hK hP 0 rfl rfl 1 (by decide) (hts _ q_fl_X10_16) (fun _ h9 => h9) rfl dX10_doomed_14 ?_
  refine z_pVi (Wn := (fun u_4 => cl_X10 cI cJ cS a (u_2.2, u_4, u.2.2))) (As := []) (rest := []) (wr := rr_X10_p cI cJ cS a (u_2.2, u_2.1, u.2.2)) X (c_X5_loseUnsecured l dC dI cI cJ cS (fun i => a (16 + i)) u_2.1  _ hf _) zc_X5_loseUnsecured q_ml_X10_140 ⟨rfl, rfl⟩ ⟨Nat.le_of_ble_eq_true rfl, Nat.le_of_ble_eq_true rfl⟩ hP hD hS hA (pm_X10_p cI cJ cS a (u_2.2, u_2.1, u.2.2)) (fun u_4 => pm_X10_p cI cJ cS a (u_2.2, u_4, u.2.2)) 4 rfl rfl hl.1 rfl rfl (Nat.le_of_ble_eq_true rfl) ⟨Nat.zero_le _, Nat.zero_le _⟩ dX10_doomed_17 (fun r_3 u_4 H locs hf hP hD hS => ?_)
  refine lv_pop hx hb dX10_doomed_20 rfl ?_
  refine lv_iconst (v := 0) hx hb dX10_doomed_21 (by decide) ?_
  refine lv_istore_n (lv' := [(2, .int (0 : Int32)), (1, .int (0 : Int32)), (0, .ref (a 0))]) hx hb dX10_doomed_22 rfl hl (by decide) rfl (fun ls hl => ?_)
  obtain ⟨k_5, hf⟩ := hf
  exact (LP k_5) _ _ (u_2.2, u_4, u.2.2) _ _ ls hf hP hD hS (lv_sub hl [2, 1, 0] rfl)
def s_X10_doomed (u : zCls) (Q : Int32 → zCls → Prop) : Prop := ∃ (B : Nat) (G : zG), okG B G ∧ cG G u ∧ ∀ u' : zCls, cG G u' → Q (uDoom (gNow G)) u'
theorem st_X10_doomed {u : zCls} {Q : Int32 → zCls → Prop} (h : s_X10_doomed u Q) : v_X10_doomed u Q := by
  obtain ⟨B, G, hG, hc, hQ⟩ := h
  obtain ⟨v, ev⟩ : ∃ v, v = gNow G := ⟨_, rfl⟩
  rw [← ev] at hQ
  have hv : okB B v := by rw [ev]; exact hG.1
  have ho := hv.ok
  have c1 : u.1 = v := by rw [ev]; exact hc.1
  unfold uDoom at hQ
  generalize hp : (fun k => decide (¬ uVof v k = uVof (uCrash v) k)) = p at hQ
  have hpk : ∀ j, p j = decide (¬ uVof v j = uVof (uCrash v) j) := fun j => by rw [← hp]
  have hoc := hv.crash.ok
  refine ⟨fun n y1 y2 z => ∃ j : Nat, j ≤ 64 ∧ n = 64 - j ∧ y1 = nI (fa_cnt p j) ∧ y2 = nI j ∧ z = (v, uCrash v, u.2.2), ?_, ?_⟩
  · rintro n y1 y2 z ⟨j, hj, rfl, rfl, rfl, rfl⟩
    refine ⟨fun c => ?_, fun c => ?_⟩
    · have : j = 64 := by
        have := (nI_leI (a := 64) (b := j) (by decide) (by omega)).mp c
        omega
      rw [this]
      exact hQ _ ⟨ev, hc.2⟩
    · have hj : j < 64 := by
        have : ¬ 64 ≤ j := fun q => c (le64 q (by omega))
        omega
      refine ⟨ho, j, hj, rfl, hoc, j, hj, rfl, fun d x ex => ?_, fun d x ex y ey => ?_⟩
      · have h0 : p j = false := by rw [hpk]; exact decide_eq_false (fun q => q d)
        exact ⟨64 - (j + 1), by omega, j + 1, hj, rfl, by rw [fa_cnt_no h0], by rw [ex, nI_1], rfl⟩
      · have h1 : p j = true := by rw [hpk]; exact decide_eq_true d
        exact ⟨64 - (j + 1), by omega, j + 1, hj, rfl, by rw [ex, fa_cnt_yes h1, nI_1], by rw [ey, nI_1], rfl⟩
  · show s_X5_loseUnsecured u.1 (fun (r_3 : Int32) (u_4 : zState) => ∃ k : Nat, ∃ j : Nat, j ≤ 64 ∧ k = 64 - j ∧ (0 : Int32) = nI (fa_cnt p j) ∧ (0 : Int32) = nI j ∧ (u.1, u_4, u.2.2) = (v, uCrash v, u.2.2))
    rw [c1]
    exact ⟨ho, hv.dia, 64 - 0, 0, by omega, rfl, rfl, rfl, rfl⟩
theorem c_X10_doomed (l : Launch) (dC : Nat → ClassId) (dI : Nat → Nat → Nat) (cI cJ cS : ClassId) (a : Nat → Nat) (u : zCls) (Q : Int32 → zCls → Prop) (hf : s_X10_doomed u Q) : ∀ sz : Nat, Met l yX10_doomed (Cond.code yX10_doomed cX10_doomed 3 (some .int) :: zT) rm_X10_doomed (zPm dC dI cI cJ cS (cl_X10 cI cJ cS a u) [.ref (a 0)] sz) (va_Qi Q (zB dC dI cI cJ cS (va_A (cl_X10 cI cJ cS a u) sz) (fun z => cl_X10 cI cJ cS a z)) (va_A (cl_X10 cI cJ cS a u) sz)) 0 0 (va_A (cl_X10 cI cJ cS a u) sz) := by
  obtain ⟨I23, h23, hf⟩ := st_X10_doomed hf
  exact L_X10_doomed l dC dI cI cJ cS a u Q I23 h23 hf

def t_X10_countOfKeys (u : zCls) (x1 : Int32) (Q : Int32 → Prop) : Prop := ((x1 = (0 : Int32) → Q u.1.1.1) ∧ (¬ x1 = (0 : Int32) → ((x1 = (1 : Int32) → Q u.1.1.2.1) ∧ (¬ x1 = (1 : Int32) → ((x1 = (2 : Int32) → Q u.1.1.2.2.1) ∧ (¬ x1 = (2 : Int32) → ((x1 = (3 : Int32) → Q u.1.1.2.2.2) ∧ (¬ x1 = (3 : Int32) → ((x1 = (4 : Int32) → Q u.1.2.2.2.1.2.2) ∧ (¬ x1 = (4 : Int32) → ((x1 = (5 : Int32) → s_X9_sizeOf u.1.2.2.2.1 (0 : Int32) (fun r_7 : Int32 => Q r_7)) ∧ (¬ x1 = (5 : Int32) → ((x1 = (6 : Int32) → s_X5_valuesBelow u.1 (64 : Int32) (fun r_9 : Int32 => Q r_9)) ∧ (¬ x1 = (6 : Int32) → ((x1 = (7 : Int32) → Q u.1.2.2.2.2.2.2.1) ∧ (¬ x1 = (7 : Int32) → ((x1 = (8 : Int32) → Q u.1.2.2.2.2.2.2.2.1) ∧ (¬ x1 = (8 : Int32) → Q u.1.2.2.2.2.2.2.2.2))))))))))))))))))
theorem zc_X10_countOfKeys : zCalV RX10 yX10_countOfKeys cX10_countOfKeys 2 (some .int) 1 := ⟨q_im_X10_countOfKeys, q_se_X10_countOfKeys, q_in_X10, q_cd_X10_countOfKeys, ⟨by decide, by decide, by decide +kernel⟩, rfl⟩
abbrev rm_X10_countOfKeys : Room := { frames := 4, cells := 0, slots := 0, locals := 88 }
set_option maxHeartbeats 4000000 in
set_option maxRecDepth 100000 in
theorem L_X10_countOfKeys (l : Launch) (dC : Nat → ClassId) (dI : Nat → Nat → Nat) (cI cJ cS : ClassId) (a : Nat → Nat) (u : zCls) (x1 : Int32) (Q : Int32 → Prop) (hf : t_X10_countOfKeys u x1 Q) : Met l yX10_countOfKeys (Cond.code yX10_countOfKeys cX10_countOfKeys 2 (some .int) :: zT) rm_X10_countOfKeys (zPp dC dI cI cJ cS (cl_X10 cI cJ cS a u) [.ref (a 0), .int x1]) (vp_Si Q) 0 0 (fun _ => False) := by
  refine z_enterP (cc := cX10_countOfKeys) (maxL := 2) (ret := (some .int)) (by decide) (Nat.le_of_ble_eq_true rfl) ?_
  intro p e s m below meth c ls X hP hl
  obtain ⟨⟨hx, hb, hml, hown, hts⟩, hr, hlk, hK⟩ := id X
  have hl : lv_has ls 2 [(0, .ref (a 0)), (1, .int x1)] := hl
  unfold t_X10_countOfKeys at hf
  refine lv_iload_n hx hb dX10_countOfKeys_0 rfl (lv_at hl 1 rfl) ?_
  by_cases c_1 : x1 = (0 : Int32)
  · have hf := hf.1 c_1
    refine lv_tableIn (off := 51) (tgt := 52) hx hb dX10_countOfKeys_1 (by rw [c_1]; decide) (by rw [c_1]; decide) (by rw [c_1]; decide) (by decide) ?_
    refine lv_aload_n hx hb dX10_countOfKeys_52 rfl (lv_at hl 0 rfl) ?_
    refine va_get (D := (dC, dI)) (ci := 9) (v := .ref (a 1)) (C := RX10) (T := TX10) (N := 9) hx hb hts inX10 hown hK hP 0 rfl rfl 0 (by decide) (hts _ q_fl_X10_10) (fun _ h9 => h9) rfl dX10_countOfKeys_53 ?_
    refine va_get (D := (dC, dI)) (ci := 4) (v := .ref (a 2)) (C := RX5) (T := TX5) (N := 9) hx hb hts inX5 hown hK hP 1 rfl rfl 0 (by decide) (hts _ q_fl_X10_338) (fun _ h9 => h9) rfl dX10_countOfKeys_56 ?_
    refine va_get (D := (dC, dI)) (ci := 6) (v := .int u.1.1.1) (C := RX7) (T := TX7) (N := 4) hx hb hts inX7 hown hK hP 2 rfl rfl 0 (by decide) (hts _ q_fl_X10_342) (fun _ h9 => h9) rfl dX10_countOfKeys_59 ?_
    exact z_retPi X hf dX10_countOfKeys_62
  have hf := hf.2 c_1
  by_cases c_2 : x1 = (1 : Int32)
  · have hf := hf.1 c_2
    refine lv_tableIn (off := 62) (tgt := 63) hx hb dX10_countOfKeys_1 (by rw [c_2]; decide) (by rw [c_2]; decide) (by rw [c_2]; decide) (by decide) ?_
    refine lv_aload_n hx hb dX10_countOfKeys_63 rfl (lv_at hl 0 rfl) ?_
    refine va_get (D := (dC, dI)) (ci := 9) (v := .ref (a 1)) (C := RX10) (T := TX10) (N := 9) hx hb hts inX10 hown hK hP 0 rfl rfl 0 (by decide) (hts _ q_fl_X10_10) (fun _ h9 => h9) rfl dX10_countOfKeys_64 ?_
    refine va_get (D := (dC, dI)) (ci := 4) (v := .ref (a 2)) (C := RX5) (T := TX5) (N := 9) hx hb hts inX5 hown hK hP 1 rfl rfl 0 (by decide) (hts _ q_fl_X10_338) (fun _ h9 => h9) rfl dX10_countOfKeys_67 ?_
    refine va_get (D := (dC, dI)) (ci := 6) (v := .int u.1.1.2.1) (C := RX7) (T := TX7) (N := 4) hx hb hts inX7 hown hK hP 2 rfl rfl 1 (by decide) (hts _ q_fl_X10_347) (fun _ h9 => h9) rfl dX10_countOfKeys_70 ?_
    exact z_retPi X hf dX10_countOfKeys_73
  have hf := hf.2 c_2
  by_cases c_3 : x1 = (2 : Int32)
  · have hf := hf.1 c_3
    refine lv_tableIn (off := 73) (tgt := 74) hx hb dX10_countOfKeys_1 (by rw [c_3]; decide) (by rw [c_3]; decide) (by rw [c_3]; decide) (by decide) ?_
    refine lv_aload_n hx hb dX10_countOfKeys_74 rfl (lv_at hl 0 rfl) ?_
    refine va_get (D := (dC, dI)) (ci := 9) (v := .ref (a 1)) (C := RX10) (T := TX10) (N := 9) hx hb hts inX10 hown hK hP 0 rfl rfl 0 (by decide) (hts _ q_fl_X10_10) (fun _ h9 => h9) rfl dX10_countOfKeys_75 ?_
    refine va_get (D := (dC, dI)) (ci := 4) (v := .ref (a 2)) (C := RX5) (T := TX5) (N := 9) hx hb hts inX5 hown hK hP 1 rfl rfl 0 (by decide) (hts _ q_fl_X10_338) (fun _ h9 => h9) rfl dX10_countOfKeys_78 ?_
    refine va_get (D := (dC, dI)) (ci := 6) (v := .int u.1.1.2.2.1) (C := RX7) (T := TX7) (N := 4) hx hb hts inX7 hown hK hP 2 rfl rfl 2 (by decide) (hts _ q_fl_X10_350) (fun _ h9 => h9) rfl dX10_countOfKeys_81 ?_
    exact z_retPi X hf dX10_countOfKeys_84
  have hf := hf.2 c_3
  by_cases c_4 : x1 = (3 : Int32)
  · have hf := hf.1 c_4
    refine lv_tableIn (off := 84) (tgt := 85) hx hb dX10_countOfKeys_1 (by rw [c_4]; decide) (by rw [c_4]; decide) (by rw [c_4]; decide) (by decide) ?_
    refine lv_aload_n hx hb dX10_countOfKeys_85 rfl (lv_at hl 0 rfl) ?_
    refine va_get (D := (dC, dI)) (ci := 9) (v := .ref (a 1)) (C := RX10) (T := TX10) (N := 9) hx hb hts inX10 hown hK hP 0 rfl rfl 0 (by decide) (hts _ q_fl_X10_10) (fun _ h9 => h9) rfl dX10_countOfKeys_86 ?_
    refine va_get (D := (dC, dI)) (ci := 4) (v := .ref (a 2)) (C := RX5) (T := TX5) (N := 9) hx hb hts inX5 hown hK hP 1 rfl rfl 0 (by decide) (hts _ q_fl_X10_338) (fun _ h9 => h9) rfl dX10_countOfKeys_89 ?_
    refine va_get (D := (dC, dI)) (ci := 6) (v := .int u.1.1.2.2.2) (C := RX7) (T := TX7) (N := 4) hx hb hts inX7 hown hK hP 2 rfl rfl 3 (by decide) (hts _ q_fl_X10_353) (fun _ h9 => h9) rfl dX10_countOfKeys_92 ?_
    exact z_retPi X hf dX10_countOfKeys_95
  have hf := hf.2 c_4
  by_cases c_5 : x1 = (4 : Int32)
  · have hf := hf.1 c_5
    refine lv_tableIn (off := 95) (tgt := 96) hx hb dX10_countOfKeys_1 (by rw [c_5]; decide) (by rw [c_5]; decide) (by rw [c_5]; decide) (by decide) ?_
    refine lv_aload_n hx hb dX10_countOfKeys_96 rfl (lv_at hl 0 rfl) ?_
    refine va_get (D := (dC, dI)) (ci := 9) (v := .ref (a 1)) (C := RX10) (T := TX10) (N := 9) hx hb hts inX10 hown hK hP 0 rfl rfl 0 (by decide) (hts _ q_fl_X10_10) (fun _ h9 => h9) rfl dX10_countOfKeys_97 ?_
    refine va_get (D := (dC, dI)) (ci := 4) (v := .ref (a 9)) (C := RX5) (T := TX5) (N := 9) hx hb hts inX5 hown hK hP 1 rfl rfl 3 (by decide) (hts _ q_fl_X10_148) (fun _ h9 => h9) rfl dX10_countOfKeys_100 ?_
    refine va_get (D := (dC, dI)) (ci := 8) (v := .int u.1.2.2.2.1.2.2) (C := RX9) (T := TX9) (N := 3) hx hb hts inX9 hown hK hP 9 rfl rfl 2 (by decide) (hts _ q_fl_X10_356) (fun _ h9 => h9) rfl dX10_countOfKeys_103 ?_
    exact z_retPi X hf dX10_countOfKeys_106
  have hf := hf.2 c_5
  by_cases c_6 : x1 = (5 : Int32)
  · have hf := hf.1 c_6
    refine lv_tableIn (off := 106) (tgt := 107) hx hb dX10_countOfKeys_1 (by rw [c_6]; decide) (by rw [c_6]; decide) (by rw [c_6]; decide) (by decide) ?_
    refine lv_aload_n hx hb dX10_countOfKeys_107 rfl (lv_at hl 0 rfl) ?_
    refine va_get (D := (dC, dI)) (ci := 9) (v := .ref (a 1)) (C := RX10) (T := TX10) (N := 9) hx hb hts inX10 hown hK hP 0 rfl rfl 0 (by decide) (hts _ q_fl_X10_10) (fun _ h9 => h9) rfl dX10_countOfKeys_108 ?_
    refine va_get (D := (dC, dI)) (ci := 4) (v := .ref (a 9)) (C := RX5) (T := TX5) (N := 9) hx hb hts inX5 hown hK hP 1 rfl rfl 3 (by decide) (hts _ q_fl_X10_148) (fun _ h9 => h9) rfl dX10_countOfKeys_111 ?_
    refine lv_iconst (v := 0) hx hb dX10_countOfKeys_114 (by decide) ?_
    refine z_cVi (As := [.int (0 : Int32)]) (rest := []) X (c_X9_sizeOf l dC dI cI cJ cS (fun i => a (9 + i)) u.1.2.2.2.1 (0 : Int32) _ hf) zc_X9_sizeOf q_ml_X10_238 ⟨rfl, rfl⟩ ⟨Nat.le_of_ble_eq_true rfl, Nat.le_of_ble_eq_true rfl⟩ hP [9, 10, 11] rfl 8 rfl rfl hl.1 rfl rfl (Nat.le_of_ble_eq_true rfl) ⟨Nat.zero_le _, Nat.zero_le _⟩ dX10_countOfKeys_115 (fun r_7 hf => ?_)
    exact z_retPi X hf dX10_countOfKeys_118
  have hf := hf.2 c_6
  by_cases c_8 : x1 = (6 : Int32)
  · have hf := hf.1 c_8
    refine lv_tableIn (off := 118) (tgt := 119) hx hb dX10_countOfKeys_1 (by rw [c_8]; decide) (by rw [c_8]; decide) (by rw [c_8]; decide) (by decide) ?_
    refine lv_aload_n hx hb dX10_countOfKeys_119 rfl (lv_at hl 0 rfl) ?_
    refine va_get (D := (dC, dI)) (ci := 9) (v := .ref (a 1)) (C := RX10) (T := TX10) (N := 9) hx hb hts inX10 hown hK hP 0 rfl rfl 0 (by decide) (hts _ q_fl_X10_10) (fun _ h9 => h9) rfl dX10_countOfKeys_120 ?_
    refine lv_bipush (v := 64) hx hb dX10_countOfKeys_123 (by decide) ?_
    refine z_cVi (As := [.int (64 : Int32)]) (rest := []) X (c_X5_valuesBelow l dC dI cI cJ cS (fun i => a (1 + i)) u.1 (64 : Int32) _ hf) zc_X5_valuesBelow q_ml_X10_195 ⟨rfl, rfl⟩ ⟨Nat.le_of_ble_eq_true rfl, Nat.le_of_ble_eq_true rfl⟩ hP [1, 2, 3, 4, 5, 6, 7, 8, 9, 10, 11, 12, 13, 14, 15] rfl 4 rfl rfl hl.1 rfl rfl (Nat.le_of_ble_eq_true rfl) ⟨Nat.zero_le _, Nat.zero_le _⟩ dX10_countOfKeys_125 (fun r_9 hf => ?_)
    exact z_retPi X hf dX10_countOfKeys_128
  have hf := hf.2 c_8
  by_cases c_10 : x1 = (7 : Int32)
  · have hf := hf.1 c_10
    refine lv_tableIn (off := 128) (tgt := 129) hx hb dX10_countOfKeys_1 (by rw [c_10]; decide) (by rw [c_10]; decide) (by rw [c_10]; decide) (by decide) ?_
    refine lv_aload_n hx hb dX10_countOfKeys_129 rfl (lv_at hl 0 rfl) ?_
    refine va_get (D := (dC, dI)) (ci := 9) (v := .ref (a 1)) (C := RX10) (T := TX10) (N := 9) hx hb hts inX10 hown hK hP 0 rfl rfl 0 (by decide) (hts _ q_fl_X10_10) (fun _ h9 => h9) rfl dX10_countOfKeys_130 ?_
    refine va_get (D := (dC, dI)) (ci := 4) (v := .int u.1.2.2.2.2.2.2.1) (C := RX5) (T := TX5) (N := 9) hx hb hts inX5 hown hK hP 1 rfl rfl 6 (by decide) (hts _ q_fl_X10_359) (fun _ h9 => h9) rfl dX10_countOfKeys_133 ?_
    exact z_retPi X hf dX10_countOfKeys_136
  have hf := hf.2 c_10
  by_cases c_11 : x1 = (8 : Int32)
  · have hf := hf.1 c_11
    refine lv_tableIn (off := 136) (tgt := 137) hx hb dX10_countOfKeys_1 (by rw [c_11]; decide) (by rw [c_11]; decide) (by rw [c_11]; decide) (by decide) ?_
    refine lv_aload_n hx hb dX10_countOfKeys_137 rfl (lv_at hl 0 rfl) ?_
    refine va_get (D := (dC, dI)) (ci := 9) (v := .ref (a 1)) (C := RX10) (T := TX10) (N := 9) hx hb hts inX10 hown hK hP 0 rfl rfl 0 (by decide) (hts _ q_fl_X10_10) (fun _ h9 => h9) rfl dX10_countOfKeys_138 ?_
    refine va_get (D := (dC, dI)) (ci := 4) (v := .int u.1.2.2.2.2.2.2.2.1) (C := RX5) (T := TX5) (N := 9) hx hb hts inX5 hown hK hP 1 rfl rfl 7 (by decide) (hts _ q_fl_X10_362) (fun _ h9 => h9) rfl dX10_countOfKeys_141 ?_
    exact z_retPi X hf dX10_countOfKeys_144
  have hf := hf.2 c_11
  refine lv_tableOut (tgt := 145) hx hb dX10_countOfKeys_1 (by have q0 : ¬ x1.toInt = (0 : Int) := fun h => c_1 (Int32.toInt_inj.mp (show x1.toInt = (0 : Int32).toInt from h)); have q1 : ¬ x1.toInt = (1 : Int) := fun h => c_2 (Int32.toInt_inj.mp (show x1.toInt = (1 : Int32).toInt from h)); have q2 : ¬ x1.toInt = (2 : Int) := fun h => c_3 (Int32.toInt_inj.mp (show x1.toInt = (2 : Int32).toInt from h)); have q3 : ¬ x1.toInt = (3 : Int) := fun h => c_4 (Int32.toInt_inj.mp (show x1.toInt = (3 : Int32).toInt from h)); have q4 : ¬ x1.toInt = (4 : Int) := fun h => c_5 (Int32.toInt_inj.mp (show x1.toInt = (4 : Int32).toInt from h)); have q5 : ¬ x1.toInt = (5 : Int) := fun h => c_6 (Int32.toInt_inj.mp (show x1.toInt = (5 : Int32).toInt from h)); have q6 : ¬ x1.toInt = (6 : Int) := fun h => c_8 (Int32.toInt_inj.mp (show x1.toInt = (6 : Int32).toInt from h)); have q7 : ¬ x1.toInt = (7 : Int) := fun h => c_10 (Int32.toInt_inj.mp (show x1.toInt = (7 : Int32).toInt from h)); have q8 : ¬ x1.toInt = (8 : Int) := fun h => c_11 (Int32.toInt_inj.mp (show x1.toInt = (8 : Int32).toInt from h)); omega) (by decide) ?_
  refine lv_aload_n hx hb dX10_countOfKeys_145 rfl (lv_at hl 0 rfl) ?_
  refine va_get (D := (dC, dI)) (ci := 9) (v := .ref (a 1)) (C := RX10) (T := TX10) (N := 9) hx hb hts inX10 hown hK hP 0 rfl rfl 0 (by decide) (hts _ q_fl_X10_10) (fun _ h9 => h9) rfl dX10_countOfKeys_146 ?_
  refine va_get (D := (dC, dI)) (ci := 4) (v := .int u.1.2.2.2.2.2.2.2.2) (C := RX5) (T := TX5) (N := 9) hx hb hts inX5 hown hK hP 1 rfl rfl 8 (by decide) (hts _ q_fl_X10_365) (fun _ h9 => h9) rfl dX10_countOfKeys_149 ?_
  exact z_retPi X hf dX10_countOfKeys_152
def s_X10_countOfKeys (u : zCls) (x1 : Int32) (Q : Int32 → Prop) : Prop := ∃ B un : Nat, okB B u.1 ∧ inR x1 0 9 ∧ Q (aCnt u.1 un x1)
theorem st_X10_countOfKeys {u : zCls} {x1 : Int32} {Q : Int32 → Prop} (h : s_X10_countOfKeys u x1 Q) : t_X10_countOfKeys u x1 Q := by
  obtain ⟨B, un, hv, i1, hQ⟩ := h
  have ho := hv.ok
  obtain ⟨n, h1, h2, rfl, -⟩ := inR_n (a := 0) (b := 9) (by decide) (by decide) i1
  rcases (show n = 0 ∨ n = 1 ∨ n = 2 ∨ n = 3 ∨ n = 4 ∨ n = 5 ∨ n = 6 ∨ n = 7 ∨ n = 8 ∨ n = 9 by omega) with rfl | rfl | rfl | rfl | rfl | rfl | rfl | rfl | rfl | rfl
  · have hQ : Q (u.1.1.1) := hQ
    exact ⟨fun _ => hQ, fun q => absurd (by decide) q⟩
  · have hQ : Q (u.1.1.2.1) := hQ
    exact ⟨fun q => absurd q (by decide), fun _ => ⟨fun _ => hQ, fun q => absurd (by decide) q⟩⟩
  · have hQ : Q (u.1.1.2.2.1) := hQ
    exact ⟨fun q => absurd q (by decide), fun _ => ⟨fun q => absurd q (by decide), fun _ => ⟨fun _ => hQ, fun q => absurd (by decide) q⟩⟩⟩
  · have hQ : Q (u.1.1.2.2.2) := hQ
    exact ⟨fun q => absurd q (by decide), fun _ => ⟨fun q => absurd q (by decide), fun _ => ⟨fun q => absurd q (by decide), fun _ => ⟨fun _ => hQ, fun q => absurd (by decide) q⟩⟩⟩⟩
  · have hQ : Q (u.1.2.2.2.1.2.2) := hQ
    exact ⟨fun q => absurd q (by decide), fun _ => ⟨fun q => absurd q (by decide), fun _ => ⟨fun q => absurd q (by decide), fun _ => ⟨fun q => absurd q (by decide), fun _ => ⟨fun _ => hQ, fun q => absurd (by decide) q⟩⟩⟩⟩⟩
  · have hQ : Q (nI (fa_cnt (fun k => zHas u.1.2.2.2.1.1 0 k) 64)) := hQ
    exact ⟨fun q => absurd q (by decide), fun _ => ⟨fun q => absurd q (by decide), fun _ => ⟨fun q => absurd q (by decide), fun _ => ⟨fun q => absurd q (by decide), fun _ => ⟨fun q => absurd q (by decide), fun _ => ⟨fun _ => ⟨0, by decide, rfl, by rw [hv.siz (Nat.zero_le _)]; exact hQ⟩, fun q => absurd (by decide) q⟩⟩⟩⟩⟩⟩
  · have hQ : Q (nI (fa_cnt (uVal u.1) 64)) := hQ
    exact ⟨fun q => absurd q (by decide), fun _ => ⟨fun q => absurd q (by decide), fun _ => ⟨fun q => absurd q (by decide), fun _ => ⟨fun q => absurd q (by decide), fun _ => ⟨fun q => absurd q (by decide), fun _ => ⟨fun q => absurd q (by decide), fun _ => ⟨fun _ => ⟨ho, 64, Nat.le_refl _, rfl, hQ⟩, fun q => absurd (by decide) q⟩⟩⟩⟩⟩⟩⟩
  · have hQ : Q (u.1.2.2.2.2.2.2.1) := hQ
    exact ⟨fun q => absurd q (by decide), fun _ => ⟨fun q => absurd q (by decide), fun _ => ⟨fun q => absurd q (by decide), fun _ => ⟨fun q => absurd q (by decide), fun _ => ⟨fun q => absurd q (by decide), fun _ => ⟨fun q => absurd q (by decide), fun _ => ⟨fun q => absurd q (by decide), fun _ => ⟨fun _ => hQ, fun q => absurd (by decide) q⟩⟩⟩⟩⟩⟩⟩⟩
  · have hQ : Q (u.1.2.2.2.2.2.2.2.1) := hQ
    exact ⟨fun q => absurd q (by decide), fun _ => ⟨fun q => absurd q (by decide), fun _ => ⟨fun q => absurd q (by decide), fun _ => ⟨fun q => absurd q (by decide), fun _ => ⟨fun q => absurd q (by decide), fun _ => ⟨fun q => absurd q (by decide), fun _ => ⟨fun q => absurd q (by decide), fun _ => ⟨fun q => absurd q (by decide), fun _ => ⟨fun _ => hQ, fun q => absurd (by decide) q⟩⟩⟩⟩⟩⟩⟩⟩⟩
  · have hQ : Q (u.1.2.2.2.2.2.2.2.2) := hQ
    exact ⟨fun q => absurd q (by decide), fun _ => ⟨fun q => absurd q (by decide), fun _ => ⟨fun q => absurd q (by decide), fun _ => ⟨fun q => absurd q (by decide), fun _ => ⟨fun q => absurd q (by decide), fun _ => ⟨fun q => absurd q (by decide), fun _ => ⟨fun q => absurd q (by decide), fun _ => ⟨fun q => absurd q (by decide), fun _ => ⟨fun q => absurd q (by decide), fun _ => hQ⟩⟩⟩⟩⟩⟩⟩⟩⟩
theorem c_X10_countOfKeys (l : Launch) (dC : Nat → ClassId) (dI : Nat → Nat → Nat) (cI cJ cS : ClassId) (a : Nat → Nat) (u : zCls) (x1 : Int32) (Q : Int32 → Prop) (hf : s_X10_countOfKeys u x1 Q) : Met l yX10_countOfKeys (Cond.code yX10_countOfKeys cX10_countOfKeys 2 (some .int) :: zT) rm_X10_countOfKeys (zPp dC dI cI cJ cS (cl_X10 cI cJ cS a u) [.ref (a 0), .int x1]) (vp_Si Q) 0 0 (fun _ => False) := L_X10_countOfKeys l dC dI cI cJ cS a u x1 Q (st_X10_countOfKeys hf)

def t_X10_countOfBytes (u : zCls) (x1 : Int32) (Q : Int32 → Prop) : Prop := ((x1 = (10 : Int32) → s_X4_freeOnes u.1.2.2.1 (fun r_2 : Int32 => Q r_2)) ∧ (¬ x1 = (10 : Int32) → ((x1 = (11 : Int32) → Q u.1.2.2.1.2.2.2.2) ∧ (¬ x1 = (11 : Int32) → ((x1 = (12 : Int32) → s_X5_liveOfAll u.1 (fun r_5 : Int32 => Q r_5)) ∧ (¬ x1 = (12 : Int32) → ((x1 = (13 : Int32) → s_X4_takenOfAll u.1.2.2.1 (fun r_7 : Int32 => s_X5_liveOfAll u.1 (fun r_8 : Int32 => Q (r_7 - r_8)))) ∧ (¬ x1 = (13 : Int32) → ((x1 = (14 : Int32) → Q u.1.2.2.2.2.1.2.1) ∧ (¬ x1 = (14 : Int32) → ((x1 = (15 : Int32) → s_X1_left u.1.2.2.2.2.1 (fun r_11 : Int32 => Q r_11)) ∧ (¬ x1 = (15 : Int32) → ((x1 = (16 : Int32) → Q u.1.2.1.2.2.2.1) ∧ (¬ x1 = (16 : Int32) → ((x1 = (17 : Int32) → Q u.1.2.1.2.2.2.2) ∧ (¬ x1 = (17 : Int32) → ((x1 = (18 : Int32) → Q u.1.2.1.1) ∧ (¬ x1 = (18 : Int32) → Q u.1.2.1.2.2.1))))))))))))))))))
theorem zc_X10_countOfBytes : zCalV RX10 yX10_countOfBytes cX10_countOfBytes 2 (some .int) 1 := ⟨q_im_X10_countOfBytes, q_se_X10_countOfBytes, q_in_X10, q_cd_X10_countOfBytes, ⟨by decide, by decide, by decide +kernel⟩, rfl⟩
abbrev rm_X10_countOfBytes : Room := { frames := 5, cells := 0, slots := 0, locals := 113 }
set_option maxHeartbeats 4000000 in
set_option maxRecDepth 100000 in
theorem L_X10_countOfBytes (l : Launch) (dC : Nat → ClassId) (dI : Nat → Nat → Nat) (cI cJ cS : ClassId) (a : Nat → Nat) (u : zCls) (x1 : Int32) (Q : Int32 → Prop) (hf : t_X10_countOfBytes u x1 Q) : Met l yX10_countOfBytes (Cond.code yX10_countOfBytes cX10_countOfBytes 2 (some .int) :: zT) rm_X10_countOfBytes (zPp dC dI cI cJ cS (cl_X10 cI cJ cS a u) [.ref (a 0), .int x1]) (vp_Si Q) 0 0 (fun _ => False) := by
  refine z_enterP (cc := cX10_countOfBytes) (maxL := 2) (ret := (some .int)) (by decide) (Nat.le_of_ble_eq_true rfl) ?_
  intro p e s m below meth c ls X hP hl
  obtain ⟨⟨hx, hb, hml, hown, hts⟩, hr, hlk, hK⟩ := id X
  have hl : lv_has ls 2 [(0, .ref (a 0)), (1, .int x1)] := hl
  unfold t_X10_countOfBytes at hf
  refine lv_iload_n hx hb dX10_countOfBytes_0 rfl (lv_at hl 1 rfl) ?_
  by_cases c_1 : x1 = (10 : Int32)
  · have hf := hf.1 c_1
    refine lv_tableIn (off := 51) (tgt := 52) hx hb dX10_countOfBytes_1 (by rw [c_1]; decide) (by rw [c_1]; decide) (by rw [c_1]; decide) (by decide) ?_
    refine lv_aload_n hx hb dX10_countOfBytes_52 rfl (lv_at hl 0 rfl) ?_
    refine va_get (D := (dC, dI)) (ci := 9) (v := .ref (a 1)) (C := RX10) (T := TX10) (N := 9) hx hb hts inX10 hown hK hP 0 rfl rfl 0 (by decide) (hts _ q_fl_X10_10) (fun _ h9 => h9) rfl dX10_countOfBytes_53 ?_
    refine va_get (D := (dC, dI)) (ci := 4) (v := .ref (a 4)) (C := RX5) (T := TX5) (N := 9) hx hb hts inX5 hown hK hP 1 rfl rfl 2 (by decide) (hts _ q_fl_X10_198) (fun _ h9 => h9) rfl dX10_countOfBytes_56 ?_
    refine z_cVi (As := []) (rest := []) X (c_X4_freeOnes l dC dI cI cJ cS (fun i => a (4 + i)) u.1.2.2.1  _ hf) zc_X4_freeOnes q_ml_X10_368 ⟨rfl, rfl⟩ ⟨Nat.le_of_ble_eq_true rfl, Nat.le_of_ble_eq_true rfl⟩ hP [4, 5, 6, 7, 8] rfl 3 rfl rfl hl.1 rfl rfl (Nat.le_of_ble_eq_true rfl) ⟨Nat.zero_le _, Nat.zero_le _⟩ dX10_countOfBytes_59 (fun r_2 hf => ?_)
    exact z_retPi X hf dX10_countOfBytes_62
  have hf := hf.2 c_1
  by_cases c_3 : x1 = (11 : Int32)
  · have hf := hf.1 c_3
    refine lv_tableIn (off := 62) (tgt := 63) hx hb dX10_countOfBytes_1 (by rw [c_3]; decide) (by rw [c_3]; decide) (by rw [c_3]; decide) (by decide) ?_
    refine lv_aload_n hx hb dX10_countOfBytes_63 rfl (lv_at hl 0 rfl) ?_
    refine va_get (D := (dC, dI)) (ci := 9) (v := .ref (a 1)) (C := RX10) (T := TX10) (N := 9) hx hb hts inX10 hown hK hP 0 rfl rfl 0 (by decide) (hts _ q_fl_X10_10) (fun _ h9 => h9) rfl dX10_countOfBytes_64 ?_
    refine va_get (D := (dC, dI)) (ci := 4) (v := .ref (a 4)) (C := RX5) (T := TX5) (N := 9) hx hb hts inX5 hown hK hP 1 rfl rfl 2 (by decide) (hts _ q_fl_X10_198) (fun _ h9 => h9) rfl dX10_countOfBytes_67 ?_
    refine va_get (D := (dC, dI)) (ci := 3) (v := .int u.1.2.2.1.2.2.2.2) (C := RX4) (T := TX4) (N := 5) hx hb hts inX4 hown hK hP 4 rfl rfl 4 (by decide) (hts _ q_fl_X10_371) (fun _ h9 => h9) rfl dX10_countOfBytes_70 ?_
    exact z_retPi X hf dX10_countOfBytes_73
  have hf := hf.2 c_3
  by_cases c_4 : x1 = (12 : Int32)
  · have hf := hf.1 c_4
    refine lv_tableIn (off := 73) (tgt := 74) hx hb dX10_countOfBytes_1 (by rw [c_4]; decide) (by rw [c_4]; decide) (by rw [c_4]; decide) (by decide) ?_
    refine lv_aload_n hx hb dX10_countOfBytes_74 rfl (lv_at hl 0 rfl) ?_
    refine va_get (D := (dC, dI)) (ci := 9) (v := .ref (a 1)) (C := RX10) (T := TX10) (N := 9) hx hb hts inX10 hown hK hP 0 rfl rfl 0 (by decide) (hts _ q_fl_X10_10) (fun _ h9 => h9) rfl dX10_countOfBytes_75 ?_
    refine z_cVi (As := []) (rest := []) X (c_X5_liveOfAll l dC dI cI cJ cS (fun i => a (1 + i)) u.1  _ hf) zc_X5_liveOfAll q_ml_X10_374 ⟨rfl, rfl⟩ ⟨Nat.le_of_ble_eq_true rfl, Nat.le_of_ble_eq_true rfl⟩ hP [1, 2, 3, 4, 5, 6, 7, 8, 9, 10, 11, 12, 13, 14, 15] rfl 4 rfl rfl hl.1 rfl rfl (Nat.le_of_ble_eq_true rfl) ⟨Nat.zero_le _, Nat.zero_le _⟩ dX10_countOfBytes_78 (fun r_5 hf => ?_)
    exact z_retPi X hf dX10_countOfBytes_81
  have hf := hf.2 c_4
  by_cases c_6 : x1 = (13 : Int32)
  · have hf := hf.1 c_6
    refine lv_tableIn (off := 81) (tgt := 82) hx hb dX10_countOfBytes_1 (by rw [c_6]; decide) (by rw [c_6]; decide) (by rw [c_6]; decide) (by decide) ?_
    refine lv_aload_n hx hb dX10_countOfBytes_82 rfl (lv_at hl 0 rfl) ?_
    refine va_get (D := (dC, dI)) (ci := 9) (v := .ref (a 1)) (C := RX10) (T := TX10) (N := 9) hx hb hts inX10 hown hK hP 0 rfl rfl 0 (by decide) (hts _ q_fl_X10_10) (fun _ h9 => h9) rfl dX10_countOfBytes_83 ?_
    refine va_get (D := (dC, dI)) (ci := 4) (v := .ref (a 4)) (C := RX5) (T := TX5) (N := 9) hx hb hts inX5 hown hK hP 1 rfl rfl 2 (by decide) (hts _ q_fl_X10_198) (fun _ h9 => h9) rfl dX10_countOfBytes_86 ?_
    refine z_cVi (As := []) (rest := []) X (c_X4_takenOfAll l dC dI cI cJ cS (fun i => a (4 + i)) u.1.2.2.1  _ hf) zc_X4_takenOfAll q_ml_X10_377 ⟨rfl, rfl⟩ ⟨Nat.le_of_ble_eq_true rfl, Nat.le_of_ble_eq_true rfl⟩ hP [4, 5, 6, 7, 8] rfl 3 rfl rfl hl.1 rfl rfl (Nat.le_of_ble_eq_true rfl) ⟨Nat.zero_le _, Nat.zero_le _⟩ dX10_countOfBytes_89 (fun r_7 hf => ?_)
    refine lv_aload_n hx hb dX10_countOfBytes_92 rfl (lv_at hl 0 rfl) ?_
    refine va_get (D := (dC, dI)) (ci := 9) (v := .ref (a 1)) (C := RX10) (T := TX10) (N := 9) hx hb hts inX10 hown hK hP 0 rfl rfl 0 (by decide) (hts _ q_fl_X10_10) (fun _ h9 => h9) rfl dX10_countOfBytes_93 ?_
    refine z_cVi (As := []) (rest := [.int r_7]) X (c_X5_liveOfAll l dC dI cI cJ cS (fun i => a (1 + i)) u.1  _ hf) zc_X5_liveOfAll q_ml_X10_374 ⟨rfl, rfl⟩ ⟨Nat.le_of_ble_eq_true rfl, Nat.le_of_ble_eq_true rfl⟩ hP [1, 2, 3, 4, 5, 6, 7, 8, 9, 10, 11, 12, 13, 14, 15] rfl 4 rfl rfl hl.1 rfl rfl (Nat.le_of_ble_eq_true rfl) ⟨Nat.zero_le _, Nat.zero_le _⟩ dX10_countOfBytes_96 (fun r_8 hf => ?_)
    refine lv_isub hx hb dX10_countOfBytes_99 ?_
    exact z_retPi X hf dX10_countOfBytes_100
  have hf := hf.2 c_6
  by_cases c_9 : x1 = (14 : Int32)
  · have hf := hf.1 c_9
    refine lv_tableIn (off := 100) (tgt := 101) hx hb dX10_countOfBytes_1 (by rw [c_9]; decide) (by rw [c_9]; decide) (by rw [c_9]; decide) (by decide) ?_
    refine lv_aload_n hx hb dX10_countOfBytes_101 rfl (lv_at hl 0 rfl) ?_
    refine va_get (D := (dC, dI)) (ci := 9) (v := .ref (a 1)) (C := RX10) (T := TX10) (N := 9) hx hb hts inX10 hown hK hP 0 rfl rfl 0 (by decide) (hts _ q_fl_X10_10) (fun _ h9 => h9) rfl dX10_countOfBytes_102 ?_
    refine va_get (D := (dC, dI)) (ci := 4) (v := .ref (a 12)) (C := RX5) (T := TX5) (N := 9) hx hb hts inX5 hown hK hP 1 rfl rfl 4 (by decide) (hts _ q_fl_X10_299) (fun _ h9 => h9) rfl dX10_countOfBytes_105 ?_
    refine va_get (D := (dC, dI)) (ci := 0) (v := .int u.1.2.2.2.2.1.2.1) (C := RX1) (T := TX1) (N := 4) hx hb hts inX1 hown hK hP 12 rfl rfl 1 (by decide) (hts _ q_fl_X10_380) (fun _ h9 => h9) rfl dX10_countOfBytes_108 ?_
    exact z_retPi X hf dX10_countOfBytes_111
  have hf := hf.2 c_9
  by_cases c_10 : x1 = (15 : Int32)
  · have hf := hf.1 c_10
    refine lv_tableIn (off := 111) (tgt := 112) hx hb dX10_countOfBytes_1 (by rw [c_10]; decide) (by rw [c_10]; decide) (by rw [c_10]; decide) (by decide) ?_
    refine lv_aload_n hx hb dX10_countOfBytes_112 rfl (lv_at hl 0 rfl) ?_
    refine va_get (D := (dC, dI)) (ci := 9) (v := .ref (a 1)) (C := RX10) (T := TX10) (N := 9) hx hb hts inX10 hown hK hP 0 rfl rfl 0 (by decide) (hts _ q_fl_X10_10) (fun _ h9 => h9) rfl dX10_countOfBytes_113 ?_
    refine va_get (D := (dC, dI)) (ci := 4) (v := .ref (a 12)) (C := RX5) (T := TX5) (N := 9) hx hb hts inX5 hown hK hP 1 rfl rfl 4 (by decide) (hts _ q_fl_X10_299) (fun _ h9 => h9) rfl dX10_countOfBytes_116 ?_
    refine z_cVi (As := []) (rest := []) X (c_X1_left l dC dI cI cJ cS (fun i => a (12 + i)) u.1.2.2.2.2.1  _ hf) zc_X1_left q_ml_X10_383 ⟨rfl, rfl⟩ ⟨Nat.le_of_ble_eq_true rfl, Nat.le_of_ble_eq_true rfl⟩ hP [12, 13] rfl 0 rfl rfl hl.1 rfl rfl (Nat.le_of_ble_eq_true rfl) ⟨Nat.zero_le _, Nat.zero_le _⟩ dX10_countOfBytes_119 (fun r_11 hf => ?_)
    exact z_retPi X hf dX10_countOfBytes_122
  have hf := hf.2 c_10
  by_cases c_12 : x1 = (16 : Int32)
  · have hf := hf.1 c_12
    refine lv_tableIn (off := 122) (tgt := 123) hx hb dX10_countOfBytes_1 (by rw [c_12]; decide) (by rw [c_12]; decide) (by rw [c_12]; decide) (by decide) ?_
    refine lv_aload_n hx hb dX10_countOfBytes_123 rfl (lv_at hl 0 rfl) ?_
    refine va_get (D := (dC, dI)) (ci := 9) (v := .ref (a 1)) (C := RX10) (T := TX10) (N := 9) hx hb hts inX10 hown hK hP 0 rfl rfl 0 (by decide) (hts _ q_fl_X10_10) (fun _ h9 => h9) rfl dX10_countOfBytes_124 ?_
    refine va_get (D := (dC, dI)) (ci := 4) (v := .ref (a 3)) (C := RX5) (T := TX5) (N := 9) hx hb hts inX5 hown hK hP 1 rfl rfl 1 (by decide) (hts _ q_fl_X10_282) (fun _ h9 => h9) rfl dX10_countOfBytes_127 ?_
    refine va_get (D := (dC, dI)) (ci := 7) (v := .int u.1.2.1.2.2.2.1) (C := RX8) (T := TX8) (N := 5) hx hb hts inX8 hown hK hP 3 rfl rfl 3 (by decide) (hts _ q_fl_X10_286) (fun _ h9 => h9) rfl dX10_countOfBytes_130 ?_
    exact z_retPi X hf dX10_countOfBytes_133
  have hf := hf.2 c_12
  by_cases c_13 : x1 = (17 : Int32)
  · have hf := hf.1 c_13
    refine lv_tableIn (off := 133) (tgt := 134) hx hb dX10_countOfBytes_1 (by rw [c_13]; decide) (by rw [c_13]; decide) (by rw [c_13]; decide) (by decide) ?_
    refine lv_aload_n hx hb dX10_countOfBytes_134 rfl (lv_at hl 0 rfl) ?_
    refine va_get (D := (dC, dI)) (ci := 9) (v := .ref (a 1)) (C := RX10) (T := TX10) (N := 9) hx hb hts inX10 hown hK hP 0 rfl rfl 0 (by decide) (hts _ q_fl_X10_10) (fun _ h9 => h9) rfl dX10_countOfBytes_135 ?_
    refine va_get (D := (dC, dI)) (ci := 4) (v := .ref (a 3)) (C := RX5) (T := TX5) (N := 9) hx hb hts inX5 hown hK hP 1 rfl rfl 1 (by decide) (hts _ q_fl_X10_282) (fun _ h9 => h9) rfl dX10_countOfBytes_138 ?_
    refine va_get (D := (dC, dI)) (ci := 7) (v := .int u.1.2.1.2.2.2.2) (C := RX8) (T := TX8) (N := 5) hx hb hts inX8 hown hK hP 3 rfl rfl 4 (by decide) (hts _ q_fl_X10_386) (fun _ h9 => h9) rfl dX10_countOfBytes_141 ?_
    exact z_retPi X hf dX10_countOfBytes_144
  have hf := hf.2 c_13
  by_cases c_14 : x1 = (18 : Int32)
  · have hf := hf.1 c_14
    refine lv_tableIn (off := 144) (tgt := 145) hx hb dX10_countOfBytes_1 (by rw [c_14]; decide) (by rw [c_14]; decide) (by rw [c_14]; decide) (by decide) ?_
    refine lv_aload_n hx hb dX10_countOfBytes_145 rfl (lv_at hl 0 rfl) ?_
    refine va_get (D := (dC, dI)) (ci := 9) (v := .ref (a 1)) (C := RX10) (T := TX10) (N := 9) hx hb hts inX10 hown hK hP 0 rfl rfl 0 (by decide) (hts _ q_fl_X10_10) (fun _ h9 => h9) rfl dX10_countOfBytes_146 ?_
    refine va_get (D := (dC, dI)) (ci := 4) (v := .ref (a 3)) (C := RX5) (T := TX5) (N := 9) hx hb hts inX5 hown hK hP 1 rfl rfl 1 (by decide) (hts _ q_fl_X10_282) (fun _ h9 => h9) rfl dX10_countOfBytes_149 ?_
    refine va_get (D := (dC, dI)) (ci := 7) (v := .int u.1.2.1.1) (C := RX8) (T := TX8) (N := 5) hx hb hts inX8 hown hK hP 3 rfl rfl 0 (by decide) (hts _ q_fl_X10_389) (fun _ h9 => h9) rfl dX10_countOfBytes_152 ?_
    exact z_retPi X hf dX10_countOfBytes_155
  have hf := hf.2 c_14
  refine lv_tableOut (tgt := 156) hx hb dX10_countOfBytes_1 (by have q0 : ¬ x1.toInt = (10 : Int) := fun h => c_1 (Int32.toInt_inj.mp (show x1.toInt = (10 : Int32).toInt from h)); have q1 : ¬ x1.toInt = (11 : Int) := fun h => c_3 (Int32.toInt_inj.mp (show x1.toInt = (11 : Int32).toInt from h)); have q2 : ¬ x1.toInt = (12 : Int) := fun h => c_4 (Int32.toInt_inj.mp (show x1.toInt = (12 : Int32).toInt from h)); have q3 : ¬ x1.toInt = (13 : Int) := fun h => c_6 (Int32.toInt_inj.mp (show x1.toInt = (13 : Int32).toInt from h)); have q4 : ¬ x1.toInt = (14 : Int) := fun h => c_9 (Int32.toInt_inj.mp (show x1.toInt = (14 : Int32).toInt from h)); have q5 : ¬ x1.toInt = (15 : Int) := fun h => c_10 (Int32.toInt_inj.mp (show x1.toInt = (15 : Int32).toInt from h)); have q6 : ¬ x1.toInt = (16 : Int) := fun h => c_12 (Int32.toInt_inj.mp (show x1.toInt = (16 : Int32).toInt from h)); have q7 : ¬ x1.toInt = (17 : Int) := fun h => c_13 (Int32.toInt_inj.mp (show x1.toInt = (17 : Int32).toInt from h)); have q8 : ¬ x1.toInt = (18 : Int) := fun h => c_14 (Int32.toInt_inj.mp (show x1.toInt = (18 : Int32).toInt from h)); omega) (by decide) ?_
  refine lv_aload_n hx hb dX10_countOfBytes_156 rfl (lv_at hl 0 rfl) ?_
  refine va_get (D := (dC, dI)) (ci := 9) (v := .ref (a 1)) (C := RX10) (T := TX10) (N := 9) hx hb hts inX10 hown hK hP 0 rfl rfl 0 (by decide) (hts _ q_fl_X10_10) (fun _ h9 => h9) rfl dX10_countOfBytes_157 ?_
  refine va_get (D := (dC, dI)) (ci := 4) (v := .ref (a 3)) (C := RX5) (T := TX5) (N := 9) hx hb hts inX5 hown hK hP 1 rfl rfl 1 (by decide) (hts _ q_fl_X10_282) (fun _ h9 => h9) rfl dX10_countOfBytes_160 ?_
  refine va_get (D := (dC, dI)) (ci := 7) (v := .int u.1.2.1.2.2.1) (C := RX8) (T := TX8) (N := 5) hx hb hts inX8 hown hK hP 3 rfl rfl 2 (by decide) (hts _ q_fl_X10_294) (fun _ h9 => h9) rfl dX10_countOfBytes_163 ?_
  exact z_retPi X hf dX10_countOfBytes_166
theorem l_sub2 (f g : Nat → Int32) (n : Nat) : l_sum (fun s => g s - f s) n = l_sum g n - l_sum f n := by
  have h := l_sub f g n
  rw [← h, Int32.add_comm, Int32.add_sub_cancel]
def s_X10_countOfBytes (u : zCls) (x1 : Int32) (Q : Int32 → Prop) : Prop := ∃ B un : Nat, okB B u.1 ∧ inR x1 10 19 ∧ Q (aCnt u.1 un x1)
theorem st_X10_countOfBytes {u : zCls} {x1 : Int32} {Q : Int32 → Prop} (h : s_X10_countOfBytes u x1 Q) : t_X10_countOfBytes u x1 Q := by
  obtain ⟨B, un, hv, i1, hQ⟩ := h
  have ho := hv.ok
  obtain ⟨n, h1, h2, rfl, -⟩ := inR_n (a := 10) (b := 19) (by decide) (by decide) i1
  rcases (show n = 10 ∨ n = 11 ∨ n = 12 ∨ n = 13 ∨ n = 14 ∨ n = 15 ∨ n = 16 ∨ n = 17 ∨ n = 18 ∨ n = 19 by omega) with rfl | rfl | rfl | rfl | rfl | rfl | rfl | rfl | rfl | rfl
  · have hQ : Q (nI (uFree u.1)) := hQ
    exact ⟨fun _ => hQ, fun q => absurd (by decide) q⟩
  · have hQ : Q (nI (oN u.1)) := hQ
    exact ⟨fun q => absurd q (by decide), fun _ => ⟨fun _ => (by rw [ho.o]; exact hQ), fun q => absurd (by decide) q⟩⟩
  · have hQ : Q (l_sum (uLive u.1) 12) := hQ
    exact ⟨fun q => absurd q (by decide), fun _ => ⟨fun q => absurd q (by decide), fun _ => ⟨fun _ => ⟨ho, hQ⟩, fun q => absurd (by decide) q⟩⟩⟩
  · have hQ : Q (l_sum (fun s => u.1.2.2.1.2.2.1 s - uLive u.1 s) 12) := hQ
    exact ⟨fun q => absurd q (by decide), fun _ => ⟨fun q => absurd q (by decide), fun _ => ⟨fun q => absurd q (by decide), fun _ => ⟨fun _ => ⟨ho, by rw [l_sub2] at hQ; exact hQ⟩, fun q => absurd (by decide) q⟩⟩⟩⟩
  · have hQ : Q (u.1.2.2.2.2.1.2.1) := hQ
    exact ⟨fun q => absurd q (by decide), fun _ => ⟨fun q => absurd q (by decide), fun _ => ⟨fun q => absurd q (by decide), fun _ => ⟨fun q => absurd q (by decide), fun _ => ⟨fun _ => hQ, fun q => absurd (by decide) q⟩⟩⟩⟩⟩
  · have hQ : Q (u.1.2.2.2.2.1.2.2.1 - u.1.2.2.2.2.1.2.2.2) := hQ
    exact ⟨fun q => absurd q (by decide), fun _ => ⟨fun q => absurd q (by decide), fun _ => ⟨fun q => absurd q (by decide), fun _ => ⟨fun q => absurd q (by decide), fun _ => ⟨fun q => absurd q (by decide), fun _ => ⟨fun _ => hQ, fun q => absurd (by decide) q⟩⟩⟩⟩⟩⟩
  · have hQ : Q (u.1.2.1.2.2.2.1) := hQ
    exact ⟨fun q => absurd q (by decide), fun _ => ⟨fun q => absurd q (by decide), fun _ => ⟨fun q => absurd q (by decide), fun _ => ⟨fun q => absurd q (by decide), fun _ => ⟨fun q => absurd q (by decide), fun _ => ⟨fun q => absurd q (by decide), fun _ => ⟨fun _ => hQ, fun q => absurd (by decide) q⟩⟩⟩⟩⟩⟩⟩
  · have hQ : Q (u.1.2.1.2.2.2.2) := hQ
    exact ⟨fun q => absurd q (by decide), fun _ => ⟨fun q => absurd q (by decide), fun _ => ⟨fun q => absurd q (by decide), fun _ => ⟨fun q => absurd q (by decide), fun _ => ⟨fun q => absurd q (by decide), fun _ => ⟨fun q => absurd q (by decide), fun _ => ⟨fun q => absurd q (by decide), fun _ => ⟨fun _ => hQ, fun q => absurd (by decide) q⟩⟩⟩⟩⟩⟩⟩⟩
  · have hQ : Q (u.1.2.1.1) := hQ
    exact ⟨fun q => absurd q (by decide), fun _ => ⟨fun q => absurd q (by decide), fun _ => ⟨fun q => absurd q (by decide), fun _ => ⟨fun q => absurd q (by decide), fun _ => ⟨fun q => absurd q (by decide), fun _ => ⟨fun q => absurd q (by decide), fun _ => ⟨fun q => absurd q (by decide), fun _ => ⟨fun q => absurd q (by decide), fun _ => ⟨fun _ => hQ, fun q => absurd (by decide) q⟩⟩⟩⟩⟩⟩⟩⟩⟩
  · have hQ : Q (u.1.2.1.2.2.1) := hQ
    exact ⟨fun q => absurd q (by decide), fun _ => ⟨fun q => absurd q (by decide), fun _ => ⟨fun q => absurd q (by decide), fun _ => ⟨fun q => absurd q (by decide), fun _ => ⟨fun q => absurd q (by decide), fun _ => ⟨fun q => absurd q (by decide), fun _ => ⟨fun q => absurd q (by decide), fun _ => ⟨fun q => absurd q (by decide), fun _ => ⟨fun q => absurd q (by decide), fun _ => hQ⟩⟩⟩⟩⟩⟩⟩⟩⟩
theorem c_X10_countOfBytes (l : Launch) (dC : Nat → ClassId) (dI : Nat → Nat → Nat) (cI cJ cS : ClassId) (a : Nat → Nat) (u : zCls) (x1 : Int32) (Q : Int32 → Prop) (hf : s_X10_countOfBytes u x1 Q) : Met l yX10_countOfBytes (Cond.code yX10_countOfBytes cX10_countOfBytes 2 (some .int) :: zT) rm_X10_countOfBytes (zPp dC dI cI cJ cS (cl_X10 cI cJ cS a u) [.ref (a 0), .int x1]) (vp_Si Q) 0 0 (fun _ => False) := L_X10_countOfBytes l dC dI cI cJ cS a u x1 Q (st_X10_countOfBytes hf)

def t_X10_countOfRest (u : zCls) (x1 : Int32) (Q : Int32 → zCls → Prop) : Prop := ((x1 = (20 : Int32) → s_X8_ample u.1.2.1 (fun r_2 : Int32 => Q r_2 u)) ∧ (¬ x1 = (20 : Int32) → ((x1 = (21 : Int32) → s_X10_doomed u (fun (r_4 : Int32) (u_5 : zCls) => Q r_4 u_5)) ∧ (¬ x1 = (21 : Int32) → ((x1 = (22 : Int32) → s_X5_spare u.1 (fun r_7 : Int32 => Q r_7 u)) ∧ (¬ x1 = (22 : Int32) → ((x1 = (23 : Int32) → s_X5_poorest u.1 (fun r_9 : Int32 => Q r_9 u)) ∧ (¬ x1 = (23 : Int32) → ((x1 = (24 : Int32) → s_X5_heaviest u.1 (fun r_11 : Int32 => Q r_11 u)) ∧ (¬ x1 = (24 : Int32) → ((x1 = (25 : Int32) → Q u.2.2.2.2.1.2.2 u) ∧ (¬ x1 = (25 : Int32) → ((x1 = (26 : Int32) → Q u.1.2.2.2.2.2.1.2 u) ∧ (¬ x1 = (26 : Int32) → s_X5_replayed u.1 (fun r_14 : Int32 => Q r_14 u)))))))))))))))
theorem zc_X10_countOfRest : zCalV RX10 yX10_countOfRest cX10_countOfRest 2 (some .int) 1 := ⟨q_im_X10_countOfRest, q_se_X10_countOfRest, q_in_X10, q_cd_X10_countOfRest, ⟨by decide, by decide, by decide +kernel⟩, rfl⟩
abbrev rm_X10_countOfRest : Room := { frames := 5, cells := 0, slots := 0, locals := 115 }
set_option maxHeartbeats 4000000 in
set_option maxRecDepth 100000 in
theorem L_X10_countOfRest (l : Launch) (dC : Nat → ClassId) (dI : Nat → Nat → Nat) (cI cJ cS : ClassId) (a : Nat → Nat) (u : zCls) (x1 : Int32) (Q : Int32 → zCls → Prop) (hf : t_X10_countOfRest u x1 Q) : ∀ sz : Nat, Met l yX10_countOfRest (Cond.code yX10_countOfRest cX10_countOfRest 2 (some .int) :: zT) rm_X10_countOfRest (zPm dC dI cI cJ cS (cl_X10 cI cJ cS a u) [.ref (a 0), .int x1] sz) (va_Qi Q (zB dC dI cI cJ cS (va_A (cl_X10 cI cJ cS a u) sz) (fun z => cl_X10 cI cJ cS a z)) (va_A (cl_X10 cI cJ cS a u) sz)) 0 0 (va_A (cl_X10 cI cJ cS a u) sz) := by
  intro sz
  refine z_enterM (Qc := fun A => va_Qi Q (zB dC dI cI cJ cS A (fun z => cl_X10 cI cJ cS a z)) A) (cc := cX10_countOfRest) (maxL := 2) (ret := (some .int)) (by decide) (Nat.le_of_ble_eq_true rfl) ?_
  intro p e s m below meth c ls A X hP hD hS hA hl
  obtain ⟨⟨hx, hb, hml, hown, hts⟩, hr, hlk, hK⟩ := id X
  have hl : lv_has ls 2 [(0, .ref (a 0)), (1, .int x1)] := hl
  unfold t_X10_countOfRest at hf
  refine lv_iload_n hx hb dX10_countOfRest_0 rfl (lv_at hl 1 rfl) ?_
  by_cases c_1 : x1 = (20 : Int32)
  · have hf := hf.1 c_1
    refine lv_tableIn (off := 43) (tgt := 44) hx hb dX10_countOfRest_1 (by rw [c_1]; decide) (by rw [c_1]; decide) (by rw [c_1]; decide) (by decide) ?_
    refine lv_aload_n hx hb dX10_countOfRest_44 rfl (lv_at hl 0 rfl) ?_
    refine va_get (D := (dC, dI)) (ci := 9) (v := .ref (a 1)) (C := RX10) (T := TX10) (N := 9) hx hb hts inX10 hown hK hP 0 rfl rfl 0 (by decide) (hts _ q_fl_X10_10) (fun _ h9 => h9) rfl dX10_countOfRest_45 ?_
    refine va_get (D := (dC, dI)) (ci := 4) (v := .ref (a 3)) (C := RX5) (T := TX5) (N := 9) hx hb hts inX5 hown hK hP 1 rfl rfl 1 (by decide) (hts _ q_fl_X10_282) (fun _ h9 => h9) rfl dX10_countOfRest_48 ?_
    refine z_cVi (As := []) (rest := []) X (c_X8_ample l dC dI cI cJ cS (fun i => a (3 + i)) u.1.2.1  _ hf) zc_X8_ample q_ml_X10_392 ⟨rfl, rfl⟩ ⟨Nat.le_of_ble_eq_true rfl, Nat.le_of_ble_eq_true rfl⟩ hP [3] rfl 7 rfl rfl hl.1 rfl rfl (Nat.le_of_ble_eq_true rfl) ⟨Nat.zero_le _, Nat.zero_le _⟩ dX10_countOfRest_51 (fun r_2 hf => ?_)
    exact z_retMi (Wf := (fun z => cl_X10 cI cJ cS a z)) (u := u) X hf hP hD hS dX10_countOfRest_54
  have hf := hf.2 c_1
  by_cases c_3 : x1 = (21 : Int32)
  · have hf := hf.1 c_3
    refine lv_tableIn (off := 54) (tgt := 55) hx hb dX10_countOfRest_1 (by rw [c_3]; decide) (by rw [c_3]; decide) (by rw [c_3]; decide) (by decide) ?_
    refine lv_aload_n hx hb dX10_countOfRest_55 rfl (lv_at hl 0 rfl) ?_
    refine z_pVi (Wn := (fun u_5 => cl_X10 cI cJ cS a u_5)) (As := []) (rest := []) (wr := []) X (c_X10_doomed l dC dI cI cJ cS a u  _ hf _) zc_X10_doomed q_ml_X10_395 ⟨rfl, rfl⟩ ⟨Nat.le_of_ble_eq_true rfl, Nat.le_of_ble_eq_true rfl⟩ hP hD hS hA (List.Perm.refl _) (fun _ => List.Perm.refl _) 9 rfl rfl hl.1 rfl rfl (Nat.le_of_ble_eq_true rfl) ⟨Nat.zero_le _, Nat.zero_le _⟩ dX10_countOfRest_56 (fun r_4 u_5 H locs hf hP hD hS => ?_)
    exact z_retMi (Wf := (fun z => cl_X10 cI cJ cS a z)) (u := u_5) X hf hP hD hS dX10_countOfRest_59
  have hf := hf.2 c_3
  by_cases c_6 : x1 = (22 : Int32)
  · have hf := hf.1 c_6
    refine lv_tableIn (off := 59) (tgt := 60) hx hb dX10_countOfRest_1 (by rw [c_6]; decide) (by rw [c_6]; decide) (by rw [c_6]; decide) (by decide) ?_
    refine lv_aload_n hx hb dX10_countOfRest_60 rfl (lv_at hl 0 rfl) ?_
    refine va_get (D := (dC, dI)) (ci := 9) (v := .ref (a 1)) (C := RX10) (T := TX10) (N := 9) hx hb hts inX10 hown hK hP 0 rfl rfl 0 (by decide) (hts _ q_fl_X10_10) (fun _ h9 => h9) rfl dX10_countOfRest_61 ?_
    refine z_cVi (As := []) (rest := []) X (c_X5_spare l dC dI cI cJ cS (fun i => a (1 + i)) u.1  _ hf) zc_X5_spare q_ml_X10_291 ⟨rfl, rfl⟩ ⟨Nat.le_of_ble_eq_true rfl, Nat.le_of_ble_eq_true rfl⟩ hP [1, 2, 3, 4, 5, 6, 7, 8, 9, 10, 11, 12, 13, 14, 15] rfl 4 rfl rfl hl.1 rfl rfl (Nat.le_of_ble_eq_true rfl) ⟨Nat.zero_le _, Nat.zero_le _⟩ dX10_countOfRest_64 (fun r_7 hf => ?_)
    exact z_retMi (Wf := (fun z => cl_X10 cI cJ cS a z)) (u := u) X hf hP hD hS dX10_countOfRest_67
  have hf := hf.2 c_6
  by_cases c_8 : x1 = (23 : Int32)
  · have hf := hf.1 c_8
    refine lv_tableIn (off := 67) (tgt := 68) hx hb dX10_countOfRest_1 (by rw [c_8]; decide) (by rw [c_8]; decide) (by rw [c_8]; decide) (by decide) ?_
    refine lv_aload_n hx hb dX10_countOfRest_68 rfl (lv_at hl 0 rfl) ?_
    refine va_get (D := (dC, dI)) (ci := 9) (v := .ref (a 1)) (C := RX10) (T := TX10) (N := 9) hx hb hts inX10 hown hK hP 0 rfl rfl 0 (by decide) (hts _ q_fl_X10_10) (fun _ h9 => h9) rfl dX10_countOfRest_69 ?_
    refine z_cVi (As := []) (rest := []) X (c_X5_poorest l dC dI cI cJ cS (fun i => a (1 + i)) u.1  _ hf) zc_X5_poorest q_ml_X10_308 ⟨rfl, rfl⟩ ⟨Nat.le_of_ble_eq_true rfl, Nat.le_of_ble_eq_true rfl⟩ hP [1, 2, 3, 4, 5, 6, 7, 8, 9, 10, 11, 12, 13, 14, 15] rfl 4 rfl rfl hl.1 rfl rfl (Nat.le_of_ble_eq_true rfl) ⟨Nat.zero_le _, Nat.zero_le _⟩ dX10_countOfRest_72 (fun r_9 hf => ?_)
    exact z_retMi (Wf := (fun z => cl_X10 cI cJ cS a z)) (u := u) X hf hP hD hS dX10_countOfRest_75
  have hf := hf.2 c_8
  by_cases c_10 : x1 = (24 : Int32)
  · have hf := hf.1 c_10
    refine lv_tableIn (off := 75) (tgt := 76) hx hb dX10_countOfRest_1 (by rw [c_10]; decide) (by rw [c_10]; decide) (by rw [c_10]; decide) (by decide) ?_
    refine lv_aload_n hx hb dX10_countOfRest_76 rfl (lv_at hl 0 rfl) ?_
    refine va_get (D := (dC, dI)) (ci := 9) (v := .ref (a 1)) (C := RX10) (T := TX10) (N := 9) hx hb hts inX10 hown hK hP 0 rfl rfl 0 (by decide) (hts _ q_fl_X10_10) (fun _ h9 => h9) rfl dX10_countOfRest_77 ?_
    refine z_cVi (As := []) (rest := []) X (c_X5_heaviest l dC dI cI cJ cS (fun i => a (1 + i)) u.1  _ hf) zc_X5_heaviest q_ml_X10_398 ⟨rfl, rfl⟩ ⟨Nat.le_of_ble_eq_true rfl, Nat.le_of_ble_eq_true rfl⟩ hP [1, 2, 3, 4, 5, 6, 7, 8, 9, 10, 11, 12, 13, 14, 15] rfl 4 rfl rfl hl.1 rfl rfl (Nat.le_of_ble_eq_true rfl) ⟨Nat.zero_le _, Nat.zero_le _⟩ dX10_countOfRest_80 (fun r_11 hf => ?_)
    exact z_retMi (Wf := (fun z => cl_X10 cI cJ cS a z)) (u := u) X hf hP hD hS dX10_countOfRest_83
  have hf := hf.2 c_10
  by_cases c_12 : x1 = (25 : Int32)
  · have hf := hf.1 c_12
    refine lv_tableIn (off := 83) (tgt := 84) hx hb dX10_countOfRest_1 (by rw [c_12]; decide) (by rw [c_12]; decide) (by rw [c_12]; decide) (by decide) ?_
    refine lv_aload_n hx hb dX10_countOfRest_84 rfl (lv_at hl 0 rfl) ?_
    refine va_get (D := (dC, dI)) (ci := 9) (v := .ref (a 50)) (C := RX10) (T := TX10) (N := 9) hx hb hts inX10 hown hK hP 0 rfl rfl 4 (by decide) (hts _ q_fl_X10_25) (fun _ h9 => h9) rfl dX10_countOfRest_85 ?_
    refine va_get (D := (dC, dI)) (ci := 2) (v := .int u.2.2.2.2.1.2.2) (C := RX3) (T := TX3) (N := 3) hx hb hts inX3 hown hK hP 50 rfl rfl 2 (by decide) (hts _ q_fl_X10_130) (fun _ h9 => h9) rfl dX10_countOfRest_88 ?_
    exact z_retMi (Wf := (fun z => cl_X10 cI cJ cS a z)) (u := u) X hf hP hD hS dX10_countOfRest_91
  have hf := hf.2 c_12
  by_cases c_13 : x1 = (26 : Int32)
  · have hf := hf.1 c_13
    refine lv_tableIn (off := 91) (tgt := 92) hx hb dX10_countOfRest_1 (by rw [c_13]; decide) (by rw [c_13]; decide) (by rw [c_13]; decide) (by decide) ?_
    refine lv_aload_n hx hb dX10_countOfRest_92 rfl (lv_at hl 0 rfl) ?_
    refine va_get (D := (dC, dI)) (ci := 9) (v := .ref (a 1)) (C := RX10) (T := TX10) (N := 9) hx hb hts inX10 hown hK hP 0 rfl rfl 0 (by decide) (hts _ q_fl_X10_10) (fun _ h9 => h9) rfl dX10_countOfRest_93 ?_
    refine va_get (D := (dC, dI)) (ci := 4) (v := .ref (a 14)) (C := RX5) (T := TX5) (N := 9) hx hb hts inX5 hown hK hP 1 rfl rfl 5 (by decide) (hts _ q_fl_X10_316) (fun _ h9 => h9) rfl dX10_countOfRest_96 ?_
    refine va_get (D := (dC, dI)) (ci := 1) (v := .int u.1.2.2.2.2.2.1.2) (C := RX2) (T := TX2) (N := 2) hx hb hts inX2 hown hK hP 14 rfl rfl 1 (by decide) (hts _ q_fl_X10_401) (fun _ h9 => h9) rfl dX10_countOfRest_99 ?_
    exact z_retMi (Wf := (fun z => cl_X10 cI cJ cS a z)) (u := u) X hf hP hD hS dX10_countOfRest_102
  have hf := hf.2 c_13
  refine lv_tableOut (tgt := 103) hx hb dX10_countOfRest_1 (by have q0 : ¬ x1.toInt = (20 : Int) := fun h => c_1 (Int32.toInt_inj.mp (show x1.toInt = (20 : Int32).toInt from h)); have q1 : ¬ x1.toInt = (21 : Int) := fun h => c_3 (Int32.toInt_inj.mp (show x1.toInt = (21 : Int32).toInt from h)); have q2 : ¬ x1.toInt = (22 : Int) := fun h => c_6 (Int32.toInt_inj.mp (show x1.toInt = (22 : Int32).toInt from h)); have q3 : ¬ x1.toInt = (23 : Int) := fun h => c_8 (Int32.toInt_inj.mp (show x1.toInt = (23 : Int32).toInt from h)); have q4 : ¬ x1.toInt = (24 : Int) := fun h => c_10 (Int32.toInt_inj.mp (show x1.toInt = (24 : Int32).toInt from h)); have q5 : ¬ x1.toInt = (25 : Int) := fun h => c_12 (Int32.toInt_inj.mp (show x1.toInt = (25 : Int32).toInt from h)); have q6 : ¬ x1.toInt = (26 : Int) := fun h => c_13 (Int32.toInt_inj.mp (show x1.toInt = (26 : Int32).toInt from h)); omega) (by decide) ?_
  refine lv_aload_n hx hb dX10_countOfRest_103 rfl (lv_at hl 0 rfl) ?_
  refine va_get (D := (dC, dI)) (ci := 9) (v := .ref (a 1)) (C := RX10) (T := TX10) (N := 9) hx hb hts inX10 hown hK hP 0 rfl rfl 0 (by decide) (hts _ q_fl_X10_10) (fun _ h9 => h9) rfl dX10_countOfRest_104 ?_
  refine z_cVi (As := []) (rest := []) X (c_X5_replayed l dC dI cI cJ cS (fun i => a (1 + i)) u.1  _ hf) zc_X5_replayed q_ml_X10_402 ⟨rfl, rfl⟩ ⟨Nat.le_of_ble_eq_true rfl, Nat.le_of_ble_eq_true rfl⟩ hP [1, 2, 3, 4, 5, 6, 7, 8, 9, 10, 11, 12, 13, 14, 15] rfl 4 rfl rfl hl.1 rfl rfl (Nat.le_of_ble_eq_true rfl) ⟨Nat.zero_le _, Nat.zero_le _⟩ dX10_countOfRest_107 (fun r_14 hf => ?_)
  exact z_retMi (Wf := (fun z => cl_X10 cI cJ cS a z)) (u := u) X hf hP hD hS dX10_countOfRest_110
theorem amp_eq {a d : Nat} (ha : 100 * a < 2 ^ 31) (hd : d < 2 ^ 31) (h0 : 0 < d) : ((100 : Int64) * (nI a).toInt64 / (nI d).toInt64).toInt32 = (100 : Int32) * nI a / nI d := by
  have hq : 100 * a / d ≤ 100 * a := Nat.div_le_self _ _
  rw [show (100 : Int32) * nI a = nI (100 * a) from n_mul 100 a, nI_quo ha hd h0]
  apply Int32.toInt_inj.mp
  rw [Int64.toInt_toInt32, Int64.toInt_div, Int64.toInt_mul, Int32.toInt_toInt64, Int32.toInt_toInt64, nI_toInt (by omega), nI_toInt hd, nI_toInt (by omega)]
  have e1 : ((100 : Int64).toInt * (a : Int)) = ((100 * a : Nat) : Int) := by
    rw [show (100 : Int64).toInt = 100 by decide]; omega
  rw [e1, Int.bmod_eq_of_le_mul_two (x := ((100 * a : Nat) : Int)) (y := 2 ^ 64) (by omega) (by omega), ← Int.ofNat_tdiv]
  generalize 100 * a / d = q at hq ⊢
  rw [Int.bmod_eq_of_le_mul_two (x := (q : Int)) (y := 2 ^ 64) (by omega) (by omega)]
  exact Int.bmod_eq_of_le_mul_two (by omega) (by omega)
theorem amp_of {B : Nat} {v : zState} {Q : Int32 → Prop} (hv : okB B v) (h : Q (uAmp v)) : s_X8_ample v.2.1 Q := by
  obtain ⟨ρ, β, mo, lm, L, S, M, hP⟩ := hv
  obtain ⟨a, d, e1, e2, h1, h2⟩ := hP.2.2.2.2.2.2.2.2.2.2.2
  have hB := hP.2.2.2.2.1.2.2.2.2.2.2
  unfold uAmp at h
  refine ⟨fun c => ?_, fun c => by rw [if_pos c] at h; exact h⟩
  rw [if_neg c] at h
  rw [e2] at c h ⊢
  rw [e1] at h ⊢
  have hd : 0 < d := by
    by_cases q : d = 0
    · exact absurd (by rw [q]; rfl) c
    · omega
  rw [amp_eq (by omega) (by omega) hd]
  refine ⟨fun q => c ?_, h⟩
  have q2 : (nI d).toInt64.toInt = (0 : Int64).toInt := by rw [q]
  rw [Int32.toInt_toInt64] at q2
  exact Int32.toInt_inj.mp (q2.trans (by decide))
def s_X10_countOfRest (u : zCls) (x1 : Int32) (Q : Int32 → zCls → Prop) : Prop := ∃ (B : Nat) (G : zG), okG B G ∧ cG G u ∧ inR x1 20 27 ∧ ∀ u' : zCls, cG G u' → Q (aCnt (gNow G) (gUnN G) x1) u'
theorem st_X10_countOfRest {u : zCls} {x1 : Int32} {Q : Int32 → zCls → Prop} (h : s_X10_countOfRest u x1 Q) : t_X10_countOfRest u x1 Q := by
  obtain ⟨B, G, hG, hc, i1, hQ⟩ := h
  obtain ⟨v, ev⟩ : ∃ v, v = gNow G := ⟨_, rfl⟩
  rw [← ev] at hQ
  have hv : okB B v := by rw [ev]; exact hG.1
  have ho := hv.ok
  have c1 : u.1 = v := by rw [ev]; exact hc.1
  obtain ⟨f, hf, m1, m2, m3⟩ := hc.2.1.2.2.1
  obtain ⟨n, h1, h2, rfl, -⟩ := inR_n (a := 20) (b := 27) (by decide) (by decide) i1
  rw [t_X10_countOfRest, c1]
  rcases (show n = 20 ∨ n = 21 ∨ n = 22 ∨ n = 23 ∨ n = 24 ∨ n = 25 ∨ n = 26 ∨ n = 27 by omega) with rfl | rfl | rfl | rfl | rfl | rfl | rfl | rfl
  · have hQ : ∀ u' : zCls, cG G u' → Q (uAmp v) u' := hQ
    exact ⟨fun _ => amp_of hv (hQ u hc), fun q => absurd (by decide) q⟩
  · have hQ : ∀ u' : zCls, cG G u' → Q (uDoom v) u' := hQ
    exact ⟨fun q => absurd q (by decide), fun _ => ⟨fun _ => ⟨B, G, hG, hc, by rw [← ev]; exact hQ⟩, fun q => absurd (by decide) q⟩⟩
  · have hQ : ∀ u' : zCls, cG G u' → Q (uSpare v) u' := hQ
    exact ⟨fun q => absurd q (by decide), fun _ => ⟨fun q => absurd q (by decide), fun _ => ⟨fun _ => ⟨ho, hQ u hc⟩, fun q => absurd (by decide) q⟩⟩⟩
  · have hQ : ∀ u' : zCls, cG G u' → Q ((uPoor v 12).1) u' := hQ
    exact ⟨fun q => absurd q (by decide), fun _ => ⟨fun q => absurd q (by decide), fun _ => ⟨fun q => absurd q (by decide), fun _ => ⟨fun _ => ⟨ho, hQ u hc⟩, fun q => absurd (by decide) q⟩⟩⟩⟩
  · have hQ : ∀ u' : zCls, cG G u' → Q ((uHvy v 64).1) u' := hQ
    exact ⟨fun q => absurd q (by decide), fun _ => ⟨fun q => absurd q (by decide), fun _ => ⟨fun q => absurd q (by decide), fun _ => ⟨fun q => absurd q (by decide), fun _ => ⟨fun _ => ⟨ho, hQ u hc⟩, fun q => absurd (by decide) q⟩⟩⟩⟩⟩
  · have hQ : ∀ u' : zCls, cG G u' → Q (nI (gUnN G)) u' := hQ
    exact ⟨fun q => absurd q (by decide), fun _ => ⟨fun q => absurd q (by decide), fun _ => ⟨fun q => absurd q (by decide), fun _ => ⟨fun q => absurd q (by decide), fun _ => ⟨fun q => absurd q (by decide), fun _ => ⟨fun _ => (by rw [m2]; exact hQ u hc), fun q => absurd (by decide) q⟩⟩⟩⟩⟩⟩
  · have hQ : ∀ u' : zCls, cG G u' → Q (v.2.2.2.2.2.1.2) u' := hQ
    exact ⟨fun q => absurd q (by decide), fun _ => ⟨fun q => absurd q (by decide), fun _ => ⟨fun q => absurd q (by decide), fun _ => ⟨fun q => absurd q (by decide), fun _ => ⟨fun q => absurd q (by decide), fun _ => ⟨fun q => absurd q (by decide), fun _ => ⟨fun _ => hQ u hc, fun q => absurd (by decide) q⟩⟩⟩⟩⟩⟩⟩
  · have hQ : ∀ u' : zCls, cG G u' → Q (nI (uRpN v 12)) u' := hQ
    exact ⟨fun q => absurd q (by decide), fun _ => ⟨fun q => absurd q (by decide), fun _ => ⟨fun q => absurd q (by decide), fun _ => ⟨fun q => absurd q (by decide), fun _ => ⟨fun q => absurd q (by decide), fun _ => ⟨fun q => absurd q (by decide), fun _ => ⟨fun q => absurd q (by decide), fun _ => ⟨ho, hQ u hc⟩⟩⟩⟩⟩⟩⟩⟩
theorem c_X10_countOfRest (l : Launch) (dC : Nat → ClassId) (dI : Nat → Nat → Nat) (cI cJ cS : ClassId) (a : Nat → Nat) (u : zCls) (x1 : Int32) (Q : Int32 → zCls → Prop) (hf : s_X10_countOfRest u x1 Q) : ∀ sz : Nat, Met l yX10_countOfRest (Cond.code yX10_countOfRest cX10_countOfRest 2 (some .int) :: zT) rm_X10_countOfRest (zPm dC dI cI cJ cS (cl_X10 cI cJ cS a u) [.ref (a 0), .int x1] sz) (va_Qi Q (zB dC dI cI cJ cS (va_A (cl_X10 cI cJ cS a u) sz) (fun z => cl_X10 cI cJ cS a z)) (va_A (cl_X10 cI cJ cS a u) sz)) 0 0 (va_A (cl_X10 cI cJ cS a u) sz) := L_X10_countOfRest l dC dI cI cJ cS a u x1 Q (st_X10_countOfRest hf)

def t_X10_count (u : zCls) (x1 : Int32) (Q : Int32 → zCls → Prop) : Prop := ((x1 < 0 → Q (-1 : Int32) u) ∧ (¬ x1 < 0 → ((x1 ≤ (27 : Int32) → (((10 : Int32) ≤ x1 → (((20 : Int32) ≤ x1 → s_X10_countOfRest u x1 (fun (r_5 : Int32) (u_6 : zCls) => Q r_5 u_6)) ∧ (¬ (20 : Int32) ≤ x1 → s_X10_countOfBytes u x1 (fun r_7 : Int32 => Q r_7 u)))) ∧ (¬ (10 : Int32) ≤ x1 → s_X10_countOfKeys u x1 (fun r_8 : Int32 => Q r_8 u)))) ∧ (¬ x1 ≤ (27 : Int32) → Q (-1 : Int32) u))))
theorem zc_X10_count : zCalV RX10 yX10_count cX10_count 2 (some .int) 1 := ⟨q_im_X10_count, q_se_X10_count, q_in_X10, q_cd_X10_count, ⟨by decide, by decide, by decide +kernel⟩, rfl⟩
abbrev rm_X10_count : Room := { frames := 6, cells := 0, slots := 0, locals := 136 }
set_option maxHeartbeats 4000000 in
set_option maxRecDepth 100000 in
theorem L_X10_count (l : Launch) (dC : Nat → ClassId) (dI : Nat → Nat → Nat) (cI cJ cS : ClassId) (a : Nat → Nat) (u : zCls) (x1 : Int32) (Q : Int32 → zCls → Prop) (hf : t_X10_count u x1 Q) : ∀ sz : Nat, Met l yX10_count (Cond.code yX10_count cX10_count 2 (some .int) :: zT) rm_X10_count (zPm dC dI cI cJ cS (cl_X10 cI cJ cS a u) [.ref (a 0), .int x1] sz) (va_Qi Q (zB dC dI cI cJ cS (va_A (cl_X10 cI cJ cS a u) sz) (fun z => cl_X10 cI cJ cS a z)) (va_A (cl_X10 cI cJ cS a u) sz)) 0 0 (va_A (cl_X10 cI cJ cS a u) sz) := by
  intro sz
  refine z_enterM (Qc := fun A => va_Qi Q (zB dC dI cI cJ cS A (fun z => cl_X10 cI cJ cS a z)) A) (cc := cX10_count) (maxL := 2) (ret := (some .int)) (by decide) (Nat.le_of_ble_eq_true rfl) ?_
  intro p e s m below meth c ls A X hP hD hS hA hl
  obtain ⟨⟨hx, hb, hml, hown, hts⟩, hr, hlk, hK⟩ := id X
  have hl : lv_has ls 2 [(0, .ref (a 0)), (1, .int x1)] := hl
  unfold t_X10_count at hf
  refine lv_iload_n hx hb dX10_count_0 rfl (lv_at hl 1 rfl) ?_
  refine lv_if_lt (tgt := 10) hx hb dX10_count_1 (by decide) (fun c_1 => ?_) (fun c_1 => ?_)
  · have hf := hf.1 c_1
    refine lv_iconst (v := (-1)) hx hb dX10_count_10 (by decide) ?_
    exact z_retMi (Wf := (fun z => cl_X10 cI cJ cS a z)) (u := u) X hf hP hD hS dX10_count_11
  · have hf := hf.2 c_1
    refine lv_iload_n hx hb dX10_count_4 rfl (lv_at hl 1 rfl) ?_
    refine lv_bipush (v := 27) hx hb dX10_count_5 (by decide) ?_
    refine lv_icmp_le (tgt := 12) hx hb dX10_count_7 (by decide) (fun c_2 => ?_) (fun c_2 => ?_)
    · have hf := hf.1 c_2
      refine lv_iload_n hx hb dX10_count_12 rfl (lv_at hl 1 rfl) ?_
      refine lv_bipush (v := 10) hx hb dX10_count_13 (by decide) ?_
      refine lv_icmp_ge (tgt := 26) hx hb dX10_count_15 (by decide) (fun c_3 => ?_) (fun c_3 => ?_)
      · have hf := hf.1 c_3
        refine lv_iload_n hx hb dX10_count_26 rfl (lv_at hl 1 rfl) ?_
        refine lv_bipush (v := 20) hx hb dX10_count_27 (by decide) ?_
        refine lv_icmp_ge (tgt := 40) hx hb dX10_count_29 (by decide) (fun c_4 => ?_) (fun c_4 => ?_)
        · have hf := hf.1 c_4
          refine lv_aload_n hx hb dX10_count_40 rfl (lv_at hl 0 rfl) ?_
          refine lv_iload_n hx hb dX10_count_41 rfl (lv_at hl 1 rfl) ?_
          refine z_pVi (Wn := (fun u_6 => cl_X10 cI cJ cS a u_6)) (As := [.int x1]) (rest := []) (wr := []) X (c_X10_countOfRest l dC dI cI cJ cS a u x1 _ hf _) zc_X10_countOfRest q_ml_X10_335 ⟨rfl, rfl⟩ ⟨Nat.le_of_ble_eq_true rfl, Nat.le_of_ble_eq_true rfl⟩ hP hD hS hA (List.Perm.refl _) (fun _ => List.Perm.refl _) 9 rfl rfl hl.1 rfl rfl (Nat.le_of_ble_eq_true rfl) ⟨Nat.zero_le _, Nat.zero_le _⟩ dX10_count_42 (fun r_5 u_6 H locs hf hP hD hS => ?_)
          exact z_retMi (Wf := (fun z => cl_X10 cI cJ cS a z)) (u := u_6) X hf hP hD hS dX10_count_45
        · have hf := hf.2 c_4
          refine lv_aload_n hx hb dX10_count_32 rfl (lv_at hl 0 rfl) ?_
          refine lv_iload_n hx hb dX10_count_33 rfl (lv_at hl 1 rfl) ?_
          refine z_wVi (As := [.int x1]) (rest := []) X (c_X10_countOfBytes l dC dI cI cJ cS a u x1 _ hf) zc_X10_countOfBytes q_ml_X10_332 ⟨rfl, rfl⟩ ⟨Nat.le_of_ble_eq_true rfl, Nat.le_of_ble_eq_true rfl⟩ hP 9 rfl rfl hl.1 rfl rfl (Nat.le_of_ble_eq_true rfl) ⟨Nat.zero_le _, Nat.zero_le _⟩ dX10_count_34 (fun r_7 hf => ?_)
          refine lv_goto (tgt := 45) hx hb dX10_count_37 (by decide) ?_
          exact z_retMi (Wf := (fun z => cl_X10 cI cJ cS a z)) (u := u) X hf hP hD hS dX10_count_45
      · have hf := hf.2 c_3
        refine lv_aload_n hx hb dX10_count_18 rfl (lv_at hl 0 rfl) ?_
        refine lv_iload_n hx hb dX10_count_19 rfl (lv_at hl 1 rfl) ?_
        refine z_wVi (As := [.int x1]) (rest := []) X (c_X10_countOfKeys l dC dI cI cJ cS a u x1 _ hf) zc_X10_countOfKeys q_ml_X10_329 ⟨rfl, rfl⟩ ⟨Nat.le_of_ble_eq_true rfl, Nat.le_of_ble_eq_true rfl⟩ hP 9 rfl rfl hl.1 rfl rfl (Nat.le_of_ble_eq_true rfl) ⟨Nat.zero_le _, Nat.zero_le _⟩ dX10_count_20 (fun r_8 hf => ?_)
        refine lv_goto (tgt := 45) hx hb dX10_count_23 (by decide) ?_
        exact z_retMi (Wf := (fun z => cl_X10 cI cJ cS a z)) (u := u) X hf hP hD hS dX10_count_45
    · have hf := hf.2 c_2
      refine lv_iconst (v := (-1)) hx hb dX10_count_10 (by decide) ?_
      exact z_retMi (Wf := (fun z => cl_X10 cI cJ cS a z)) (u := u) X hf hP hD hS dX10_count_11
def s_X10_count (u : zCls) (x1 : Int32) (Q : Int32 → zCls → Prop) : Prop := ∃ (B : Nat) (G : zG), okG B G ∧ cG G u ∧ ∀ u' : zCls, cG G u' → Q (aCnt (gNow G) (gUnN G) x1) u'
theorem aCnt_no {v : zState} {un : Nat} {x : Int32} (h : ¬ inR x 0 27) : aCnt v un x = -1 := by
  have hn : ∀ k : Nat, k ≤ 27 → ¬ x = nI k := fun k hk q => h (by rw [q]; exact ⟨nI_pos (by omega), nI_nlt (a := 27) (b := k) hk (by decide)⟩)
  unfold aCnt
  rw [if_neg (show ¬ x = (0 : Int32) from hn 0 (by decide)), if_neg (show ¬ x = (1 : Int32) from hn 1 (by decide)), if_neg (show ¬ x = (2 : Int32) from hn 2 (by decide)), if_neg (show ¬ x = (3 : Int32) from hn 3 (by decide)), if_neg (show ¬ x = (4 : Int32) from hn 4 (by decide)), if_neg (show ¬ x = (5 : Int32) from hn 5 (by decide)), if_neg (show ¬ x = (6 : Int32) from hn 6 (by decide)), if_neg (show ¬ x = (7 : Int32) from hn 7 (by decide)), if_neg (show ¬ x = (8 : Int32) from hn 8 (by decide)), if_neg (show ¬ x = (9 : Int32) from hn 9 (by decide)), if_neg (show ¬ x = (10 : Int32) from hn 10 (by decide)), if_neg (show ¬ x = (11 : Int32) from hn 11 (by decide)), if_neg (show ¬ x = (12 : Int32) from hn 12 (by decide)), if_neg (show ¬ x = (13 : Int32) from hn 13 (by decide)), if_neg (show ¬ x = (14 : Int32) from hn 14 (by decide)), if_neg (show ¬ x = (15 : Int32) from hn 15 (by decide)), if_neg (show ¬ x = (16 : Int32) from hn 16 (by decide)), if_neg (show ¬ x = (17 : Int32) from hn 17 (by decide)), if_neg (show ¬ x = (18 : Int32) from hn 18 (by decide)), if_neg (show ¬ x = (19 : Int32) from hn 19 (by decide)), if_neg (show ¬ x = (20 : Int32) from hn 20 (by decide)), if_neg (show ¬ x = (21 : Int32) from hn 21 (by decide)), if_neg (show ¬ x = (22 : Int32) from hn 22 (by decide)), if_neg (show ¬ x = (23 : Int32) from hn 23 (by decide)), if_neg (show ¬ x = (24 : Int32) from hn 24 (by decide)), if_neg (show ¬ x = (25 : Int32) from hn 25 (by decide)), if_neg (show ¬ x = (26 : Int32) from hn 26 (by decide)), if_neg (show ¬ x = (27 : Int32) from hn 27 (by decide))]
theorem st_X10_count {u : zCls} {x1 : Int32} {Q : Int32 → zCls → Prop} (h : s_X10_count u x1 Q) : t_X10_count u x1 Q := by
  obtain ⟨B, G, hG, hc, hQ⟩ := h
  have hv : okB B u.1 := by rw [hc.1]; exact hG.1
  have no : ¬ inR x1 0 27 → Q (-1) u := fun q => by
    have := hQ u hc
    rw [aCnt_no q] at this
    exact this
  have le : ∀ {a b : Int32}, a ≤ b → ¬ b < a := fun h q => by
    have h := Int32.le_iff_toInt_le.mp h
    rw [fa_lt] at q
    omega
  have nle : ∀ {a b : Int32}, ¬ a ≤ b → b < a := fun h => by
    rw [fa_lt]
    have : ¬ _ := fun q => h (Int32.le_iff_toInt_le.mpr q)
    omega
  refine ⟨fun d => no (fun q => q.1 d), fun d => ⟨fun d2 => ⟨fun d3 => ⟨fun d4 => ⟨B, G, hG, hc, ⟨le d4, le d2⟩, hQ⟩, fun d4 => ⟨B, gUnN G, hv, ⟨le d3, fun q => ?_⟩, ?_⟩⟩, fun d3 => ⟨B, gUnN G, hv, ⟨d, fun q => ?_⟩, ?_⟩⟩, fun d2 => no (fun q => q.2 (nle d2))⟩⟩
  · have d4 := nle d4
    rw [fa_lt] at q d4
    have e1 : (19 : Int32).toInt = 19 := by decide
    have e2 : (20 : Int32).toInt = 20 := by decide
    omega
  · rw [hc.1]; exact hQ u hc
  · have d3 := nle d3
    rw [fa_lt] at q d3
    have e1 : (9 : Int32).toInt = 9 := by decide
    have e2 : (10 : Int32).toInt = 10 := by decide
    omega
  · rw [hc.1]; exact hQ u hc
theorem c_X10_count (l : Launch) (dC : Nat → ClassId) (dI : Nat → Nat → Nat) (cI cJ cS : ClassId) (a : Nat → Nat) (u : zCls) (x1 : Int32) (Q : Int32 → zCls → Prop) (hf : s_X10_count u x1 Q) : ∀ sz : Nat, Met l yX10_count (Cond.code yX10_count cX10_count 2 (some .int) :: zT) rm_X10_count (zPm dC dI cI cJ cS (cl_X10 cI cJ cS a u) [.ref (a 0), .int x1] sz) (va_Qi Q (zB dC dI cI cJ cS (va_A (cl_X10 cI cJ cS a u) sz) (fun z => cl_X10 cI cJ cS a z)) (va_A (cl_X10 cI cJ cS a u) sz)) 0 0 (va_A (cl_X10 cI cJ cS a u) sz) := L_X10_count l dC dI cI cJ cS a u x1 Q (st_X10_count hf)
