def t_X10_elderThan_e (u : zCls) (x1 : Int32) (K14 : Int32 → Int32 → Int32 → Prop) (Q : Int32 → Prop) : Prop := K14 (0 : Int32) (64 : Int32) (0 : Int32)
def t_X10_elderThan_14 (u : zCls) (x1 : Int32) (y2 : Int32) (y4 : Int32) (y5 : Int32) (K14 : Int32 → Int32 → Int32 → Prop) (Q : Int32 → Prop) : Prop := ((y4 ≤ y5 → Q y2) ∧ (¬ y4 ≤ y5 → vp_in y5 64 ∧ ∀ x_3 : Int32, x_3 = (u.2.2.2.2.2.2.1 y5.toNatClampNeg) → ((x_3 = (-1 : Int32) → ∀ x_5 : Int32, x_5 = (y2 + (0 : Int32)) → ∀ x_6 : Int32, x_6 = y5 + (1 : Int32) → K14 x_5 y4 x_6) ∧ (¬ x_3 = (-1 : Int32) → ((x1 ≤ x_3 → ∀ x_9 : Int32, x_9 = (y2 + (0 : Int32)) → ∀ x_10 : Int32, x_10 = y5 + (1 : Int32) → K14 x_9 y4 x_10) ∧ (¬ x1 ≤ x_3 → ∀ x_12 : Int32, x_12 = (y2 + (1 : Int32)) → ∀ x_13 : Int32, x_13 = y5 + (1 : Int32) → K14 x_12 y4 x_13))))))
theorem zc_X10_elderThan : zCalV RX10 yX10_elderThan cX10_elderThan 7 (some .int) 1 := ⟨q_im_X10_elderThan, q_se_X10_elderThan, q_in_X10, q_cd_X10_elderThan, ⟨by decide, by decide, by decide +kernel⟩, rfl⟩
abbrev rm_X10_elderThan : Room := { frames := 0, cells := 0, slots := 0, locals := 0 }
def v_X10_elderThan (u : zCls) (x1 : Int32) (Q : Int32 → Prop) : Prop := ∃ I14 : Nat → Int32 → Int32 → Int32 → Prop, (∀ (n : Nat) (y2 : Int32) (y4 : Int32) (y5 : Int32), I14 n y2 y4 y5 → t_X10_elderThan_14 u x1 y2 y4 y5 (fun q0 q1 q2 => ∃ k : Nat, k < n ∧ I14 k q0 q1 q2) Q) ∧ t_X10_elderThan_e u x1 (fun q0 q1 q2 => ∃ k : Nat, I14 k q0 q1 q2) Q
set_option maxHeartbeats 4000000 in
set_option maxRecDepth 100000 in
theorem L_X10_elderThan (l : Launch) (dC : Nat → ClassId) (dI : Nat → Nat → Nat) (cI cJ cS : ClassId) (a : Nat → Nat) (u : zCls) (x1 : Int32) (Q : Int32 → Prop) (I14 : Nat → Int32 → Int32 → Int32 → Prop) (h14 : ∀ (n : Nat) (y2 : Int32) (y4 : Int32) (y5 : Int32), I14 n y2 y4 y5 → t_X10_elderThan_14 u x1 y2 y4 y5 (fun q0 q1 q2 => ∃ k : Nat, k < n ∧ I14 k q0 q1 q2) Q) (hf : t_X10_elderThan_e u x1 (fun q0 q1 q2 => ∃ k : Nat, I14 k q0 q1 q2) Q) : Met l yX10_elderThan (Cond.code yX10_elderThan cX10_elderThan 7 (some .int) :: zT) rm_X10_elderThan (zPp dC dI cI cJ cS (cl_X10 cI cJ cS a u) [.ref (a 0), .int x1]) (vp_Si Q) 0 0 (fun _ => False) := by
  refine z_enterP (cc := cX10_elderThan) (maxL := 7) (ret := (some .int)) (by decide) (Nat.le_of_ble_eq_true rfl) ?_
  intro p e s m below meth c ls X hP hl
  obtain ⟨⟨hx, hb, hml, hown, hts⟩, hr, hlk, hK⟩ := id X
  have hl : lv_has ls 7 [(0, .ref (a 0)), (1, .int x1)] := hl
  have LP : ∀ n : Nat, (∀ (y2 : Int32) (y4 : Int32) (y5 : Int32) (ls : Array Slot), I14 n y2 y4 y5 → lv_has ls 7 [(0, .ref (a 0)), (1, .int x1), (2, .int y2), (3, .ref (a 49)), (4, .int y4), (5, .int y5)] → W p l e rm_X10_elderThan s m [.ref (a 0), .int x1].toArray below meth c s.heap [] 0 0 (MQ below (vp_Si Q) [.ref (a 0), .int x1].toArray s 0 0 (fun _ => False)) (F0 m 14 ls [])) := by
    intro n
    induction n using Nat.strongRecOn with
    | _ n ih =>
      intro y2 y4 y5 ls hI hl
      have hf := h14 n y2 y4 y5 hI
      unfold t_X10_elderThan_14 at hf
      refine lv_iload hx hb dX10_elderThan_14 (lv_at hl 5 rfl) ?_
      refine lv_iload hx hb dX10_elderThan_16 (lv_at hl 4 rfl) ?_
      refine lv_icmp_ge (tgt := 53) hx hb dX10_elderThan_18 (by decide) (fun c_2 => ?_) (fun c_2 => ?_)
      · have hf := hf.1 c_2
        refine lv_iload_n hx hb dX10_elderThan_53 rfl (lv_at hl 2 rfl) ?_
        exact z_retPi X hf dX10_elderThan_54
      · have hf := hf.2 c_2
        refine lv_aload_n hx hb dX10_elderThan_21 rfl (lv_at hl 3 rfl) ?_
        refine lv_iload hx hb dX10_elderThan_22 (lv_at hl 5 rfl) ?_
        obtain ⟨hg, hf⟩ := hf
        refine va_iald hx hb hK hP 49 0 rfl rfl hg dX10_elderThan_24 ?_
        refine lv_topi (fun x_3 ex_3 => ?_)
        have hf := hf x_3 ex_3
        refine lv_istore (lv' := [(6, .int x_3), (0, .ref (a 0)), (1, .int x1), (2, .int y2), (3, .ref (a 49)), (4, .int y4), (5, .int y5)]) hx hb dX10_elderThan_25 hl (by decide) rfl (fun ls hl => ?_)
        refine lv_iload_n hx hb dX10_elderThan_27 rfl (lv_at hl 3 rfl) ?_
        refine lv_iload hx hb dX10_elderThan_28 (lv_at hl 0 rfl) ?_
        refine lv_iconst (v := (-1)) hx hb dX10_elderThan_30 (by decide) ?_
        refine lv_icmp_eq (tgt := 44) hx hb dX10_elderThan_31 (by decide) (fun c_4 => ?_) (fun c_4 => ?_)
        · have hf := hf.1 c_4
          refine lv_iconst (v := 0) hx hb dX10_elderThan_44 (by decide) ?_
          refine lv_iadd hx hb dX10_elderThan_45 ?_
          refine lv_topi (fun x_5 ex_5 => ?_)
          have hf := hf x_5 ex_5
          refine lv_istore_n (lv' := [(2, .int x_5), (6, .int x_3), (0, .ref (a 0)), (1, .int x1), (3, .ref (a 49)), (4, .int y4), (5, .int y5)]) hx hb dX10_elderThan_46 rfl hl (by decide) rfl (fun ls hl => ?_)
          obtain ⟨x_6, ex_6⟩ : ∃ y : Int32, y = y5 + (1 : Int32) := ⟨_, rfl⟩
          have hf := hf x_6 ex_6
          refine lv_iinc (v := x_6) (lv' := [(5, .int x_6), (2, .int x_5), (6, .int x_3), (0, .ref (a 0)), (1, .int x1), (3, .ref (a 49)), (4, .int y4)]) hx hb dX10_elderThan_47 hl (k := 6) rfl (by rw [ex_6]; rfl) (by decide) rfl (fun ls hl => ?_)
          refine lv_goto (tgt := 14) hx hb dX10_elderThan_50 (by decide) ?_
          obtain ⟨k_7, hk_7, hf⟩ := hf
          exact (ih k_7 hk_7) _ _ _ ls hf (lv_sub hl [3, 4, 1, 5, 6, 0] rfl)
        · have hf := hf.2 c_4
          refine lv_iload hx hb dX10_elderThan_34 (lv_at hl 0 rfl) ?_
          refine lv_iload_n hx hb dX10_elderThan_36 rfl (lv_at hl 2 rfl) ?_
          refine lv_icmp_ge (tgt := 44) hx hb dX10_elderThan_37 (by decide) (fun c_8 => ?_) (fun c_8 => ?_)
          · have hf := hf.1 c_8
            refine lv_iconst (v := 0) hx hb dX10_elderThan_44 (by decide) ?_
            refine lv_iadd hx hb dX10_elderThan_45 ?_
            refine lv_topi (fun x_9 ex_9 => ?_)
            have hf := hf x_9 ex_9
            refine lv_istore_n (lv' := [(2, .int x_9), (6, .int x_3), (0, .ref (a 0)), (1, .int x1), (3, .ref (a 49)), (4, .int y4), (5, .int y5)]) hx hb dX10_elderThan_46 rfl hl (by decide) rfl (fun ls hl => ?_)
            obtain ⟨x_10, ex_10⟩ : ∃ y : Int32, y = y5 + (1 : Int32) := ⟨_, rfl⟩
            have hf := hf x_10 ex_10
            refine lv_iinc (v := x_10) (lv' := [(5, .int x_10), (2, .int x_9), (6, .int x_3), (0, .ref (a 0)), (1, .int x1), (3, .ref (a 49)), (4, .int y4)]) hx hb dX10_elderThan_47 hl (k := 6) rfl (by rw [ex_10]; rfl) (by decide) rfl (fun ls hl => ?_)
            refine lv_goto (tgt := 14) hx hb dX10_elderThan_50 (by decide) ?_
            obtain ⟨k_11, hk_11, hf⟩ := hf
            exact (ih k_11 hk_11) _ _ _ ls hf (lv_sub hl [3, 4, 1, 5, 6, 0] rfl)
          · have hf := hf.2 c_8
            refine lv_iconst (v := 1) hx hb dX10_elderThan_40 (by decide) ?_
            refine lv_goto (tgt := 45) hx hb dX10_elderThan_41 (by decide) ?_
            refine lv_iadd hx hb dX10_elderThan_45 ?_
            refine lv_topi (fun x_12 ex_12 => ?_)
            have hf := hf x_12 ex_12
            refine lv_istore_n (lv' := [(2, .int x_12), (6, .int x_3), (0, .ref (a 0)), (1, .int x1), (3, .ref (a 49)), (4, .int y4), (5, .int y5)]) hx hb dX10_elderThan_46 rfl hl (by decide) rfl (fun ls hl => ?_)
            obtain ⟨x_13, ex_13⟩ : ∃ y : Int32, y = y5 + (1 : Int32) := ⟨_, rfl⟩
            have hf := hf x_13 ex_13
            refine lv_iinc (v := x_13) (lv' := [(5, .int x_13), (2, .int x_12), (6, .int x_3), (0, .ref (a 0)), (1, .int x1), (3, .ref (a 49)), (4, .int y4)]) hx hb dX10_elderThan_47 hl (k := 6) rfl (by rw [ex_13]; rfl) (by decide) rfl (fun ls hl => ?_)
            refine lv_goto (tgt := 14) hx hb dX10_elderThan_50 (by decide) ?_
            obtain ⟨k_14, hk_14, hf⟩ := hf
            exact (ih k_14 hk_14) _ _ _ ls hf (lv_sub hl [3, 4, 1, 5, 6, 0] rfl)
  unfold t_X10_elderThan_e at hf
  refine lv_iconst (v := 0) hx hb dX10_elderThan_0 (by decide) ?_
  refine lv_istore_n (lv' := [(2, .int (0 : Int32)), (0, .ref (a 0)), (1, .int x1)]) hx hb dX10_elderThan_1 rfl hl (by decide) rfl (fun ls hl => ?_)
  refine lv_aload_n hx hb dX10_elderThan_2 rfl (lv_at hl 1 rfl) ?_
  refine va_get (D := (dC, dI)) (ci := 9) (v := .ref (a 49)) (C := RX10) (T := TX10) (N := 9) hx hb hts inX10 hown hK hP 0 rfl rfl 6 (by decide) (hts _ q_fl_X10_36) (fun _ h9 => h9) rfl dX10_elderThan_3 ?_
  refine lv_astore_n (lv' := [(3, .ref (a 49)), (2, .int (0 : Int32)), (0, .ref (a 0)), (1, .int x1)]) hx hb dX10_elderThan_6 rfl hl (by decide) rfl (fun ls hl => ?_)
  refine lv_aload_n hx hb dX10_elderThan_7 rfl (lv_at hl 0 rfl) ?_
  refine va_alen (v := 64) hx hb hK hP 49 0 rfl (ty := .int) rfl rfl dX10_elderThan_8 ?_
  refine lv_istore (lv' := [(4, .int (64 : Int32)), (3, .ref (a 49)), (2, .int (0 : Int32)), (0, .ref (a 0)), (1, .int x1)]) hx hb dX10_elderThan_9 hl (by decide) rfl (fun ls hl => ?_)
  refine lv_iconst (v := 0) hx hb dX10_elderThan_11 (by decide) ?_
  refine lv_istore (lv' := [(5, .int (0 : Int32)), (4, .int (64 : Int32)), (3, .ref (a 49)), (2, .int (0 : Int32)), (0, .ref (a 0)), (1, .int x1)]) hx hb dX10_elderThan_12 hl (by decide) rfl (fun ls hl => ?_)
  obtain ⟨k_1, hf⟩ := hf
  exact (LP k_1) _ _ _ ls hf (lv_sub hl [4, 5, 3, 2, 1, 0] rfl)
def s_X10_elderThan (u : zCls) (x1 : Int32) (Q : Int32 → Prop) : Prop := Q (nI (fa_cnt (fun j => decide (¬ u.2.2.2.2.2.2.1 j = -1 ∧ u.2.2.2.2.2.2.1 j < x1)) 64))
theorem st_X10_elderThan {u : zCls} {x1 : Int32} {Q : Int32 → Prop} (h : s_X10_elderThan u x1 Q) : v_X10_elderThan u x1 Q := by
  unfold s_X10_elderThan at h
  generalize hp : (fun j => decide (¬ u.2.2.2.2.2.2.1 j = -1 ∧ u.2.2.2.2.2.2.1 j < x1)) = p at h
  have hpk : ∀ j, p j = decide (¬ u.2.2.2.2.2.2.1 j = -1 ∧ u.2.2.2.2.2.2.1 j < x1) := fun j => by rw [← hp]
  refine ⟨fun n y2 y4 y5 => ∃ j : Nat, j ≤ 64 ∧ n = 64 - j ∧ y2 = nI (fa_cnt p j) ∧ y4 = 64 ∧ y5 = nI j, ?_, ⟨64 - 0, 0, by omega, rfl, rfl, rfl, rfl⟩⟩
  rintro n y2 y4 y5 ⟨j, hj, rfl, rfl, rfl, rfl⟩
  refine ⟨fun c => ?_, fun c => ?_⟩
  · have : j = 64 := by
      have := (nI_leI (a := 64) (b := j) (by decide) (by omega)).mp c
      omega
    rw [this]; exact h
  · have hj : j < 64 := by
      have : ¬ 64 ≤ j := fun q => c (le64 q (by omega))
      omega
    rw [nI_clamp (by omega)]
    refine ⟨vp_in_nI hj (by decide), fun x ex => ⟨fun d y ey z ez => ?_, fun d => ⟨fun d2 y ey z ez => ?_, fun d2 y ey z ez => ?_⟩⟩⟩
    · rw [ex] at d
      have h0 : p j = false := by rw [hpk]; exact decide_eq_false (fun q => q.1 d)
      exact ⟨64 - (j + 1), by omega, j + 1, hj, rfl, by rw [ey, fa_cnt_no h0]; exact Int32.add_zero _, rfl, by rw [ez, nI_1]⟩
    · rw [ex] at d d2
      have h0 : p j = false := by
        rw [hpk]
        refine decide_eq_false (fun q => ?_)
        have q := q.2
        rw [fa_lt] at q
        have d2 := Int32.le_iff_toInt_le.mp d2
        omega
      exact ⟨64 - (j + 1), by omega, j + 1, hj, rfl, by rw [ey, fa_cnt_no h0]; exact Int32.add_zero _, rfl, by rw [ez, nI_1]⟩
    · rw [ex] at d d2
      have h1 : p j = true := by
        rw [hpk]
        refine decide_eq_true ⟨d, ?_⟩
        rw [fa_lt]
        have : ¬ x1.toInt ≤ (u.2.2.2.2.2.2.1 j).toInt := fun q => d2 (Int32.le_iff_toInt_le.mpr q)
        omega
      exact ⟨64 - (j + 1), by omega, j + 1, hj, rfl, by rw [ey, fa_cnt_yes h1, nI_1], rfl, by rw [ez, nI_1]⟩
theorem c_X10_elderThan (l : Launch) (dC : Nat → ClassId) (dI : Nat → Nat → Nat) (cI cJ cS : ClassId) (a : Nat → Nat) (u : zCls) (x1 : Int32) (Q : Int32 → Prop) (hf : s_X10_elderThan u x1 Q) : Met l yX10_elderThan (Cond.code yX10_elderThan cX10_elderThan 7 (some .int) :: zT) rm_X10_elderThan (zPp dC dI cI cJ cS (cl_X10 cI cJ cS a u) [.ref (a 0), .int x1]) (vp_Si Q) 0 0 (fun _ => False) := by
  obtain ⟨I14, h14, hf⟩ := st_X10_elderThan hf
  exact L_X10_elderThan l dC dI cI cJ cS a u x1 Q I14 h14 hf

def t_X10_old_e (u : zCls) (x1 : Int32) (K2 : Int32 → zCls → Prop) (K51 : Int32 → zCls → Prop) (Q : Int32 → zCls → Prop) : Prop := K2 (0 : Int32) u
def t_X10_old_2 (x1 : Int32) (y2 : Int32) (z : zCls) (K2 : Int32 → zCls → Prop) (K51 : Int32 → zCls → Prop) (Q : Int32 → zCls → Prop) : Prop := (((64 : Int32) ≤ y2 → K51 (0 : Int32) z) ∧ (¬ (64 : Int32) ≤ y2 → s_X5_hasValue z.1 y2 (fun r_4 : Int32 => ((r_4 = 0 → vp_in y2 64 ∧ ∀ f_6 : Nat → Int32, f_6 = upd z.2.2.2.2.2.2.1 y2.toNatClampNeg (-1 : Int32) → ∀ x_7 : Int32, x_7 = y2 + (1 : Int32) → K2 x_7 (z.1, z.2.1, z.2.2.1, z.2.2.2.1, z.2.2.2.2.1, z.2.2.2.2.2.1, f_6, z.2.2.2.2.2.2.2)) ∧ (¬ r_4 = 0 → s_X9_currentOf z.1.2.2.2.1 y2 (fun r_9 : Int64 => s_X0_numberOf r_9 (fun r_10 : Int32 => vp_in y2 64 ∧ ∀ f_11 : Nat → Int32, f_11 = upd z.2.2.2.2.2.2.1 y2.toNatClampNeg r_10 → ∀ x_12 : Int32, x_12 = y2 + (1 : Int32) → K2 x_12 (z.1, z.2.1, z.2.2.1, z.2.2.2.1, z.2.2.2.2.1, z.2.2.2.2.2.1, f_11, z.2.2.2.2.2.2.2))))))))
def t_X10_old_51 (x1 : Int32) (y2 : Int32) (z : zCls) (K2 : Int32 → zCls → Prop) (K51 : Int32 → zCls → Prop) (Q : Int32 → zCls → Prop) : Prop := (((64 : Int32) ≤ y2 → Q (-1 : Int32) z) ∧ (¬ (64 : Int32) ≤ y2 → vp_in y2 64 ∧ (((z.2.2.2.2.2.2.1 y2.toNatClampNeg) = (-1 : Int32) → ∀ x_16 : Int32, x_16 = y2 + (1 : Int32) → K51 x_16 z) ∧ (¬ (z.2.2.2.2.2.2.1 y2.toNatClampNeg) = (-1 : Int32) → vp_in y2 64 ∧ s_X10_elderThan z (z.2.2.2.2.2.2.1 y2.toNatClampNeg) (fun r_18 : Int32 => ((¬ r_18 = x1 → ∀ x_20 : Int32, x_20 = y2 + (1 : Int32) → K51 x_20 z) ∧ (r_18 = x1 → Q y2 z)))))))
theorem zc_X10_old : zCalV RX10 yX10_old cX10_old 3 (some .int) 1 := ⟨q_im_X10_old, q_se_X10_old, q_in_X10, q_cd_X10_old, ⟨by decide, by decide, by decide +kernel⟩, rfl⟩
abbrev rm_X10_old : Room := { frames := 3, cells := 0, slots := 0, locals := 65 }
def v_X10_old (u : zCls) (x1 : Int32) (Q : Int32 → zCls → Prop) : Prop := ∃ I2 : Nat → Int32 → zCls → Prop, ∃ I51 : Nat → Int32 → zCls → Prop, (∀ (n : Nat) (y2 : Int32) (z : zCls), I2 n y2 z → t_X10_old_2 x1 y2 z (fun q0 q1 => ∃ k : Nat, k < n ∧ I2 k q0 q1) (fun q0 q1 => ∃ k : Nat, k < n ∧ I51 k q0 q1) Q) ∧ (∀ (n : Nat) (y2 : Int32) (z : zCls), I51 n y2 z → t_X10_old_51 x1 y2 z (fun q0 q1 => ∃ k : Nat, k < n ∧ I2 k q0 q1) (fun q0 q1 => ∃ k : Nat, k < n ∧ I51 k q0 q1) Q) ∧ t_X10_old_e u x1 (fun q0 q1 => ∃ k : Nat, I2 k q0 q1) (fun q0 q1 => ∃ k : Nat, I51 k q0 q1) Q
set_option maxHeartbeats 4000000 in
set_option maxRecDepth 100000 in
theorem L_X10_old (l : Launch) (dC : Nat → ClassId) (dI : Nat → Nat → Nat) (cI cJ cS : ClassId) (a : Nat → Nat) (u : zCls) (x1 : Int32) (Q : Int32 → zCls → Prop) (I2 : Nat → Int32 → zCls → Prop) (I51 : Nat → Int32 → zCls → Prop) (h2 : ∀ (n : Nat) (y2 : Int32) (z : zCls), I2 n y2 z → t_X10_old_2 x1 y2 z (fun q0 q1 => ∃ k : Nat, k < n ∧ I2 k q0 q1) (fun q0 q1 => ∃ k : Nat, k < n ∧ I51 k q0 q1) Q) (h51 : ∀ (n : Nat) (y2 : Int32) (z : zCls), I51 n y2 z → t_X10_old_51 x1 y2 z (fun q0 q1 => ∃ k : Nat, k < n ∧ I2 k q0 q1) (fun q0 q1 => ∃ k : Nat, k < n ∧ I51 k q0 q1) Q) (hf : t_X10_old_e u x1 (fun q0 q1 => ∃ k : Nat, I2 k q0 q1) (fun q0 q1 => ∃ k : Nat, I51 k q0 q1) Q) : ∀ sz : Nat, Met l yX10_old (Cond.code yX10_old cX10_old 3 (some .int) :: zT) rm_X10_old (zPm dC dI cI cJ cS (cl_X10 cI cJ cS a u) [.ref (a 0), .int x1] sz) (va_Qi Q (zB dC dI cI cJ cS (va_A (cl_X10 cI cJ cS a u) sz) (fun z => cl_X10 cI cJ cS a z)) (va_A (cl_X10 cI cJ cS a u) sz)) 0 0 (va_A (cl_X10 cI cJ cS a u) sz) := by
  intro sz
  refine z_enterM (Qc := fun A => va_Qi Q (zB dC dI cI cJ cS A (fun z => cl_X10 cI cJ cS a z)) A) (cc := cX10_old) (maxL := 3) (ret := (some .int)) (by decide) (Nat.le_of_ble_eq_true rfl) ?_
  intro p e s m below meth c ls A X hP hD hS hA hl
  obtain ⟨⟨hx, hb, hml, hown, hts⟩, hr, hlk, hK⟩ := id X
  have hl : lv_has ls 3 [(0, .ref (a 0)), (1, .int x1)] := hl
  have LP : ∀ n : Nat, (∀ (y2 : Int32) (z : zCls) (H : Heap) (locs : List Loc) (ls : Array Slot), I2 n y2 z → va_P (dC, dI) vwCl (cl_X10 cI cJ cS a z) H → va_D A (cl_X10 cI cJ cS a z) → va_S A s.heap H locs → lv_has ls 3 [(0, .ref (a 0)), (1, .int x1), (2, .int y2)] → W p l e rm_X10_old s m [.ref (a 0), .int x1].toArray below meth c H locs 0 0 (MQ below (va_Qi Q (zB dC dI cI cJ cS A (fun z => cl_X10 cI cJ cS a z)) A) [.ref (a 0), .int x1].toArray s 0 0 A) (F0 m 2 ls [])) ∧ (∀ (y2 : Int32) (z : zCls) (H : Heap) (locs : List Loc) (ls : Array Slot), I51 n y2 z → va_P (dC, dI) vwCl (cl_X10 cI cJ cS a z) H → va_D A (cl_X10 cI cJ cS a z) → va_S A s.heap H locs → lv_has ls 3 [(0, .ref (a 0)), (1, .int x1), (2, .int y2)] → W p l e rm_X10_old s m [.ref (a 0), .int x1].toArray below meth c H locs 0 0 (MQ below (va_Qi Q (zB dC dI cI cJ cS A (fun z => cl_X10 cI cJ cS a z)) A) [.ref (a 0), .int x1].toArray s 0 0 A) (F0 m 51 ls [])) := by
    intro n
    induction n using Nat.strongRecOn with
    | _ n ih =>
      refine ⟨?_, ?_⟩
      · intro y2 z H locs ls hI hP hD hS hl
        have hf := h2 n y2 z hI
        unfold t_X10_old_2 at hf
        refine lv_iload_n hx hb dX10_old_2 rfl (lv_at hl 2 rfl) ?_
        refine lv_bipush (v := 64) hx hb dX10_old_3 (by decide) ?_
        refine lv_icmp_ge (tgt := 49) hx hb dX10_old_5 (by decide) (fun c_2 => ?_) (fun c_2 => ?_)
        · have hf := hf.1 c_2
          refine lv_iconst (v := 0) hx hb dX10_old_49 (by decide) ?_
          refine lv_istore_n (lv' := [(2, .int (0 : Int32)), (0, .ref (a 0)), (1, .int x1)]) hx hb dX10_old_50 rfl hl (by decide) rfl (fun ls hl => ?_)
          obtain ⟨k_3, hk_3, hf⟩ := hf
          exact (ih k_3 hk_3).2 _ z _ _ ls hf hP hD hS (lv_sub hl [1, 2, 0] rfl)
        · have hf := hf.2 c_2
          refine lv_aload_n hx hb dX10_old_8 rfl (lv_at hl 0 rfl) ?_
          refine va_get (D := (dC, dI)) (ci := 9) (v := .ref (a 49)) (C := RX10) (T := TX10) (N := 9) hx hb hts inX10 hown hK hP 0 rfl rfl 6 (by decide) (hts _ q_fl_X10_36) (fun _ h9 => h9) rfl dX10_old_9 ?_
          refine lv_iload_n hx hb dX10_old_12 rfl (lv_at hl 2 rfl) ?_
          refine lv_aload_n hx hb dX10_old_13 rfl (lv_at hl 0 rfl) ?_
          refine va_get (D := (dC, dI)) (ci := 9) (v := .ref (a 1)) (C := RX10) (T := TX10) (N := 9) hx hb hts inX10 hown hK hP 0 rfl rfl 0 (by decide) (hts _ q_fl_X10_10) (fun _ h9 => h9) rfl dX10_old_14 ?_
          refine lv_iload_n hx hb dX10_old_17 rfl (lv_at hl 2 rfl) ?_
          refine z_cVi (As := [.int y2]) (rest := [.int y2, .ref (a 49)]) X (c_X5_hasValue l dC dI cI cJ cS (fun i => a (1 + i)) z.1 y2 _ hf) zc_X5_hasValue q_ml_X10_166 ⟨rfl, rfl⟩ ⟨Nat.le_of_ble_eq_true rfl, Nat.le_of_ble_eq_true rfl⟩ hP [1, 2, 3, 4, 5, 6, 7, 8, 9, 10, 11, 12, 13, 14, 15] rfl 4 rfl rfl hl.1 rfl rfl (Nat.le_of_ble_eq_true rfl) ⟨Nat.zero_le _, Nat.zero_le _⟩ dX10_old_18 (fun r_4 hf => ?_)
          obtain ⟨hbr_4, hf⟩ := hf
          refine lv_if_eq (tgt := 41) hx hb dX10_old_21 (by decide) (fun c_5 => ?_) (fun c_5 => ?_)
          · have hf := hf.1 c_5
            refine lv_iconst (v := (-1)) hx hb dX10_old_41 (by decide) ?_
            obtain ⟨hg, hf⟩ := hf
            refine z_iast (Wn := fun f_6 => cl_X10 cI cJ cS a (z.1, z.2.1, z.2.2.1, z.2.2.2.1, z.2.2.2.2.1, z.2.2.2.2.2.1, f_6, z.2.2.2.2.2.2.2)) X hP hD hS 49 0 rfl rfl hg (fun _ => rfl) dX10_old_42 (fun f_6 H locs ef_6 hP hD hS => ?_)
            have hf := hf f_6 ef_6
            obtain ⟨x_7, ex_7⟩ : ∃ y : Int32, y = y2 + (1 : Int32) := ⟨_, rfl⟩
            have hf := hf x_7 ex_7
            refine lv_iinc (v := x_7) (lv' := [(2, .int x_7), (0, .ref (a 0)), (1, .int x1)]) hx hb dX10_old_43 hl (k := 2) rfl (by rw [ex_7]; rfl) (by decide) rfl (fun ls hl => ?_)
            refine lv_goto (tgt := 2) hx hb dX10_old_46 (by decide) ?_
            obtain ⟨k_8, hk_8, hf⟩ := hf
            exact (ih k_8 hk_8).1 _ (z.1, z.2.1, z.2.2.1, z.2.2.2.1, z.2.2.2.2.1, z.2.2.2.2.2.1, f_6, z.2.2.2.2.2.2.2) _ _ ls hf hP hD hS (lv_sub hl [1, 2, 0] rfl)
          · have hf := hf.2 c_5
            refine lv_aload_n hx hb dX10_old_24 rfl (lv_at hl 0 rfl) ?_
            refine va_get (D := (dC, dI)) (ci := 9) (v := .ref (a 1)) (C := RX10) (T := TX10) (N := 9) hx hb hts inX10 hown hK hP 0 rfl rfl 0 (by decide) (hts _ q_fl_X10_10) (fun _ h9 => h9) rfl dX10_old_25 ?_
            refine va_get (D := (dC, dI)) (ci := 4) (v := .ref (a 9)) (C := RX5) (T := TX5) (N := 9) hx hb hts inX5 hown hK hP 1 rfl rfl 3 (by decide) (hts _ q_fl_X10_148) (fun _ h9 => h9) rfl dX10_old_28 ?_
            refine lv_iload_n hx hb dX10_old_31 rfl (lv_at hl 2 rfl) ?_
            refine z_cVl (As := [.int y2]) (rest := [.int y2, .ref (a 49)]) X (c_X9_currentOf l dC dI cI cJ cS (fun i => a (9 + i)) z.1.2.2.2.1 y2 _ hf) zc_X9_currentOf q_ml_X10_152 ⟨rfl, rfl⟩ ⟨Nat.le_of_ble_eq_true rfl, Nat.le_of_ble_eq_true rfl⟩ hP [9, 10, 11] rfl 8 rfl rfl hl.1 rfl rfl (Nat.le_of_ble_eq_true rfl) ⟨Nat.zero_le _, Nat.zero_le _⟩ dX10_old_32 (fun r_9 hf => ?_)
            refine z_cSi (As := [.long r_9]) (rest := [.int y2, .ref (a 49)]) X (c_X0_numberOf l dC dI cI cJ cS   r_9 _ hf) zc_X0_numberOf q_ml_X10_174 ⟨rfl, rfl⟩ ⟨Nat.le_of_ble_eq_true rfl, Nat.le_of_ble_eq_true rfl⟩ hP [] rfl hl.1 rfl rfl (Nat.le_of_ble_eq_true rfl) ⟨Nat.zero_le _, Nat.zero_le _⟩ dX10_old_35 (fun r_10 hf => ?_)
            refine lv_goto (tgt := 42) hx hb dX10_old_38 (by decide) ?_
            obtain ⟨hg, hf⟩ := hf
            refine z_iast (Wn := fun f_11 => cl_X10 cI cJ cS a (z.1, z.2.1, z.2.2.1, z.2.2.2.1, z.2.2.2.2.1, z.2.2.2.2.2.1, f_11, z.2.2.2.2.2.2.2)) X hP hD hS 49 0 rfl rfl hg (fun _ => rfl) dX10_old_42 (fun f_11 H locs ef_11 hP hD hS => ?_)
            have hf := hf f_11 ef_11
            obtain ⟨x_12, ex_12⟩ : ∃ y : Int32, y = y2 + (1 : Int32) := ⟨_, rfl⟩
            have hf := hf x_12 ex_12
            refine lv_iinc (v := x_12) (lv' := [(2, .int x_12), (0, .ref (a 0)), (1, .int x1)]) hx hb dX10_old_43 hl (k := 2) rfl (by rw [ex_12]; rfl) (by decide) rfl (fun ls hl => ?_)
            refine lv_goto (tgt := 2) hx hb dX10_old_46 (by decide) ?_
            obtain ⟨k_13, hk_13, hf⟩ := hf
            exact (ih k_13 hk_13).1 _ (z.1, z.2.1, z.2.2.1, z.2.2.2.1, z.2.2.2.2.1, z.2.2.2.2.2.1, f_11, z.2.2.2.2.2.2.2) _ _ ls hf hP hD hS (lv_sub hl [1, 2, 0] rfl)
      · intro y2 z H locs ls hI hP hD hS hl
        have hf := h51 n y2 z hI
        unfold t_X10_old_51 at hf
        refine lv_iload_n hx hb dX10_old_51 rfl (lv_at hl 2 rfl) ?_
        refine lv_bipush (v := 64) hx hb dX10_old_52 (by decide) ?_
        refine lv_icmp_ge (tgt := 89) hx hb dX10_old_54 (by decide) (fun c_14 => ?_) (fun c_14 => ?_)
        · have hf := hf.1 c_14
          refine lv_iconst (v := (-1)) hx hb dX10_old_89 (by decide) ?_
          exact z_retMi (Wf := (fun z => cl_X10 cI cJ cS a z)) (u := z) X hf hP hD hS dX10_old_90
        · have hf := hf.2 c_14
          refine lv_aload_n hx hb dX10_old_57 rfl (lv_at hl 0 rfl) ?_
          refine va_get (D := (dC, dI)) (ci := 9) (v := .ref (a 49)) (C := RX10) (T := TX10) (N := 9) hx hb hts inX10 hown hK hP 0 rfl rfl 6 (by decide) (hts _ q_fl_X10_36) (fun _ h9 => h9) rfl dX10_old_58 ?_
          refine lv_iload_n hx hb dX10_old_61 rfl (lv_at hl 2 rfl) ?_
          obtain ⟨hg, hf⟩ := hf
          refine va_iald hx hb hK hP 49 0 rfl rfl hg dX10_old_62 ?_
          refine lv_iconst (v := (-1)) hx hb dX10_old_63 (by decide) ?_
          refine lv_icmp_eq (tgt := 83) hx hb dX10_old_64 (by decide) (fun c_15 => ?_) (fun c_15 => ?_)
          · have hf := hf.1 c_15
            obtain ⟨x_16, ex_16⟩ : ∃ y : Int32, y = y2 + (1 : Int32) := ⟨_, rfl⟩
            have hf := hf x_16 ex_16
            refine lv_iinc (v := x_16) (lv' := [(2, .int x_16), (0, .ref (a 0)), (1, .int x1)]) hx hb dX10_old_83 hl (k := 2) rfl (by rw [ex_16]; rfl) (by decide) rfl (fun ls hl => ?_)
            refine lv_goto (tgt := 51) hx hb dX10_old_86 (by decide) ?_
            obtain ⟨k_17, hk_17, hf⟩ := hf
            exact (ih k_17 hk_17).2 _ z _ _ ls hf hP hD hS (lv_sub hl [1, 2, 0] rfl)
          · have hf := hf.2 c_15
            refine lv_aload_n hx hb dX10_old_67 rfl (lv_at hl 0 rfl) ?_
            refine lv_aload_n hx hb dX10_old_68 rfl (lv_at hl 0 rfl) ?_
            refine va_get (D := (dC, dI)) (ci := 9) (v := .ref (a 49)) (C := RX10) (T := TX10) (N := 9) hx hb hts inX10 hown hK hP 0 rfl rfl 6 (by decide) (hts _ q_fl_X10_36) (fun _ h9 => h9) rfl dX10_old_69 ?_
            refine lv_iload_n hx hb dX10_old_72 rfl (lv_at hl 2 rfl) ?_
            obtain ⟨hg, hf⟩ := hf
            refine va_iald hx hb hK hP 49 0 rfl rfl hg dX10_old_73 ?_
            refine z_wVi (As := [.int (z.2.2.2.2.2.2.1 y2.toNatClampNeg)]) (rest := []) X (c_X10_elderThan l dC dI cI cJ cS a z (z.2.2.2.2.2.2.1 y2.toNatClampNeg) _ hf) zc_X10_elderThan q_ml_X10_262 ⟨rfl, rfl⟩ ⟨Nat.le_of_ble_eq_true rfl, Nat.le_of_ble_eq_true rfl⟩ hP 9 rfl rfl hl.1 rfl rfl (Nat.le_of_ble_eq_true rfl) ⟨Nat.zero_le _, Nat.zero_le _⟩ dX10_old_74 (fun r_18 hf => ?_)
            refine lv_iload_n hx hb dX10_old_77 rfl (lv_at hl 1 rfl) ?_
            refine lv_icmp_ne (tgt := 83) hx hb dX10_old_78 (by decide) (fun c_19 => ?_) (fun c_19 => ?_)
            · have hf := hf.1 c_19
              obtain ⟨x_20, ex_20⟩ : ∃ y : Int32, y = y2 + (1 : Int32) := ⟨_, rfl⟩
              have hf := hf x_20 ex_20
              refine lv_iinc (v := x_20) (lv' := [(2, .int x_20), (0, .ref (a 0)), (1, .int x1)]) hx hb dX10_old_83 hl (k := 2) rfl (by rw [ex_20]; rfl) (by decide) rfl (fun ls hl => ?_)
              refine lv_goto (tgt := 51) hx hb dX10_old_86 (by decide) ?_
              obtain ⟨k_21, hk_21, hf⟩ := hf
              exact (ih k_21 hk_21).2 _ z _ _ ls hf hP hD hS (lv_sub hl [1, 2, 0] rfl)
            · have hf := hf.2 c_19
              refine lv_iload_n hx hb dX10_old_81 rfl (lv_at hl 2 rfl) ?_
              exact z_retMi (Wf := (fun z => cl_X10 cI cJ cS a z)) (u := z) X hf hP hD hS dX10_old_82
  unfold t_X10_old_e at hf
  refine lv_iconst (v := 0) hx hb dX10_old_0 (by decide) ?_
  refine lv_istore_n (lv' := [(2, .int (0 : Int32)), (0, .ref (a 0)), (1, .int x1)]) hx hb dX10_old_1 rfl hl (by decide) rfl (fun ls hl => ?_)
  obtain ⟨k_1, hf⟩ := hf
  exact (LP k_1).1 _ u _ _ ls hf hP hD hS (lv_sub hl [1, 2, 0] rfl)
theorem okB.cur {B : Nat} {v : zState} (h : okB B v) {k : Nat} (hk : k < 64) (h0 : ¬ uCur v k = 0) : ∃ n : Nat, n ≤ 400000 ∧ cNum (uCur v k) = nI n := by
  obtain ⟨ρ, β, mo, lm, L, S, M, hP⟩ := h
  have hT := hP.2.2.2.2.2.2.1
  have hL := hP.2.2.2.2.1
  have hle := fa_first_le (fun l => zHas v.2.2.2.1.1 l k) (rN v + 1)
  unfold uCur zCur at h0 ⊢
  by_cases c : fa_first (fun l => zHas v.2.2.2.1.1 l k) (rN v + 1) < rN v + 1
  · rw [if_pos c] at h0 ⊢
    generalize fa_first (fun l => zHas v.2.2.2.1.1 l k) (rN v + 1) = l at c h0 ⊢
    by_cases l0 : l = 0
    · rw [l0, show 64 * 0 + k = k by omega] at h0 ⊢
      have := (hT.2.1 k hk).resolve_left h0
      exact ⟨_, by have := this.2.2.2.1; omega, this.2.1⟩
    · have := (hT.2.2.1 l k (by omega) (by have : rN v = tR v.2.2.2.1 := rfl; omega) hk).resolve_left h0
      exact ⟨_, by have := this.2.2.2.1; omega, this.2.1⟩
  · rw [if_neg c] at h0; exact absurd rfl h0
def agF (v : zState) (j : Nat) : Int32 := if uVal v j then cNum (uCur v j) else -1
def s_X10_old (u : zCls) (x1 : Int32) (Q : Int32 → zCls → Prop) : Prop := ∃ (B : Nat) (G : zG), okG B G ∧ cG G u ∧ ∀ u' : zCls, cG G u' → Q (fOld (gNow G) x1) u'
theorem st_X10_old {u : zCls} {x1 : Int32} {Q : Int32 → zCls → Prop} (h : s_X10_old u x1 Q) : v_X10_old u x1 Q := by
  obtain ⟨B, G, hG, hc, hQ⟩ := h
  obtain ⟨v, ev⟩ : ∃ v, v = gNow G := ⟨_, rfl⟩
  rw [← ev] at hQ
  have hv : okB B v := by rw [ev]; exact hG.1
  have ho := hv.ok
  have c1 : u.1 = v := by rw [ev]; exact hc.1
  unfold fOld at hQ
  generalize hp : (fun j => uVal v j && decide (nI (uElder v j 64) = x1)) = p at hQ
  have hpk : ∀ j, p j = (uVal v j && decide (nI (uElder v j 64) = x1)) := fun j => by rw [← hp]
  have nn : ∀ j, j < 64 → uVal v j = true → ¬ cNum (uCur v j) = -1 := fun j hj hq => by
    obtain ⟨n, hn, e⟩ := hv.cur hj (val_ne hq).1
    rw [e]; exact n_neg (by omega)
  have eld : ∀ (f : Nat → Int32), (∀ i, i < 64 → f i = agF v i) → ∀ j, j < 64 → uVal v j = true → fa_cnt (fun o => decide (¬ f o = -1 ∧ f o < f j)) 64 = uElder v j 64 := fun f hf j hj hq => by
    unfold uElder
    refine fa_cnt_cong (fun o ho' => ?_)
    rw [hf o ho', hf j hj]
    unfold agF
    rw [if_pos hq]
    cases q : uVal v o with
    | true =>
      rw [if_pos rfl, Bool.true_and]
      exact decide_eq_decide.mpr ⟨fun z => z.2, fun z => ⟨nn o ho' q, z⟩⟩
    | false =>
      rw [if_neg (by decide), Bool.false_and]
      exact decide_eq_false (fun z => z.1 rfl)
  have hc' : ∀ f : Nat → Int32, cG G (u.1, u.2.1, u.2.2.1, u.2.2.2.1, u.2.2.2.2.1, u.2.2.2.2.2.1, f, u.2.2.2.2.2.2.2) := fun f => hc
  refine ⟨fun n y2 z => ∃ (j : Nat) (f : Nat → Int32), j ≤ 64 ∧ n = 100 + (64 - j) ∧ y2 = nI j ∧ (∀ i, i < j → f i = agF v i) ∧ z = (u.1, u.2.1, u.2.2.1, u.2.2.2.1, u.2.2.2.2.1, u.2.2.2.2.2.1, f, u.2.2.2.2.2.2.2),
    fun n y2 z => ∃ (j : Nat) (f : Nat → Int32), j ≤ 64 ∧ n = 64 - j ∧ y2 = nI j ∧ (∀ i, i < 64 → f i = agF v i) ∧ (∀ i, i < j → p i = false) ∧ z = (u.1, u.2.1, u.2.2.1, u.2.2.2.1, u.2.2.2.2.1, u.2.2.2.2.2.1, f, u.2.2.2.2.2.2.2), ?_, ?_, ?_⟩
  · rintro n y2 z ⟨j, f, hj, rfl, rfl, hf, rfl⟩
    refine ⟨fun c => ?_, fun c => ?_⟩
    · have : j = 64 := by
        have := (nI_leI (a := 64) (b := j) (by decide) (by omega)).mp c
        omega
      subst this
      exact ⟨64 - 0, by omega, 0, f, by omega, rfl, rfl, hf, fun i hi => absurd hi (Nat.not_lt_zero i), rfl⟩
    · have hj : j < 64 := by
        have : ¬ 64 ≤ j := fun q => c (le64 q (by omega))
        omega
      show s_X5_hasValue u.1 (nI j) _
      rw [c1]
      refine ⟨ho, j, hj, rfl, fun hq => ⟨fun q => absurd q (by decide), fun _ => ⟨j, rN v, hj, ho.2.1.2, rfl, ho.r, vp_in_nI hj (by decide), fun g eg x ex => ?_⟩⟩, fun hq => ⟨fun _ => ⟨vp_in_nI hj (by decide), fun g eg x ex => ?_⟩, fun q => absurd rfl q⟩⟩
      · have eg : g = upd f (nI j).toNatClampNeg (cNum (uCur v j)) := eg
        rw [nI_clamp (by omega)] at eg
        refine ⟨100 + (64 - (j + 1)), by omega, j + 1, g, hj, rfl, by rw [ex, nI_1], fun i hi => ?_, rfl⟩
        rw [eg]
        by_cases z : i = j
        · rw [z, up_eq rfl]; exact (if_pos hq).symm
        · rw [up_ne z]; exact hf i (by omega)
      · have eg : g = upd f (nI j).toNatClampNeg (-1) := eg
        rw [nI_clamp (by omega)] at eg
        refine ⟨100 + (64 - (j + 1)), by omega, j + 1, g, hj, rfl, by rw [ex, nI_1], fun i hi => ?_, rfl⟩
        rw [eg]
        by_cases z : i = j
        · rw [z, up_eq rfl]; exact (if_neg (by rw [hq]; decide)).symm
        · rw [up_ne z]; exact hf i (by omega)
  · rintro n y2 z ⟨j, f, hj, rfl, rfl, hf, hno, rfl⟩
    refine ⟨fun c => ?_, fun c => ?_⟩
    · have : j = 64 := by
        have := (nI_leI (a := 64) (b := j) (by decide) (by omega)).mp c
        omega
      subst this
      rw [zFst_no (by rw [first_none hno]; omega)] at hQ
      exact hQ _ (hc' f)
    · have hj : j < 64 := by
        have : ¬ 64 ≤ j := fun q => c (le64 q (by omega))
        omega
      have ej : f (nI j).toNatClampNeg = agF v j := by rw [nI_clamp (by omega)]; exact hf j hj
      have nx : p j = false → ∀ x : Int32, x = nI j + 1 → ∃ k : Nat, k < 64 - j ∧ ∃ (j' : Nat) (f' : Nat → Int32), j' ≤ 64 ∧ k = 64 - j' ∧ x = nI j' ∧ (∀ i, i < 64 → f' i = agF v i) ∧ (∀ i, i < j' → p i = false) ∧ (u.1, u.2.1, u.2.2.1, u.2.2.2.1, u.2.2.2.2.1, u.2.2.2.2.2.1, f, u.2.2.2.2.2.2.2) = (u.1, u.2.1, u.2.2.1, u.2.2.2.1, u.2.2.2.2.1, u.2.2.2.2.2.1, f', u.2.2.2.2.2.2.2) := fun h0 x ex =>
        ⟨64 - (j + 1), by omega, j + 1, f, hj, rfl, by rw [ex, nI_1], hf, fun i hi => by
          by_cases z : i = j
          · rw [z]; exact h0
          · exact hno i (by omega), rfl⟩
      show vp_in (nI j) 64 ∧ ((f (nI j).toNatClampNeg = (-1 : Int32) → _) ∧ (¬ f (nI j).toNatClampNeg = (-1 : Int32) → vp_in (nI j) 64 ∧ s_X10_elderThan _ (f (nI j).toNatClampNeg) _))
      rw [ej]
      cases hq : uVal v j with
      | false =>
        have e1 : agF v j = -1 := if_neg (by rw [hq]; decide)
        refine ⟨vp_in_nI hj (by decide), fun _ => nx (by rw [hpk, hq]; rfl), fun q => absurd e1 q⟩
      | true =>
        have e1 : agF v j = cNum (uCur v j) := if_pos hq
        refine ⟨vp_in_nI hj (by decide), fun q => absurd (e1.symm.trans q) (nn j hj hq), fun _ => ⟨vp_in_nI hj (by decide), ?_⟩⟩
        have ee := eld f hf j hj hq
        rw [hf j hj] at ee
        unfold s_X10_elderThan
        dsimp only
        rw [ee]
        refine ⟨fun d => nx (by rw [hpk, hq, Bool.true_and]; exact decide_eq_false d), fun d => ?_⟩
        have hy : p j = true := by rw [hpk, hq, Bool.true_and]; exact decide_eq_true d
        have ef : fa_first p 64 = j := first_at hno hy hj
        rw [zFst_yes (by rw [ef]; exact hj), ef] at hQ
        exact hQ _ (hc' f)
  · exact ⟨100 + (64 - 0), 0, u.2.2.2.2.2.2.1, by omega, rfl, rfl, fun i hi => absurd hi (Nat.not_lt_zero i), rfl⟩
theorem c_X10_old (l : Launch) (dC : Nat → ClassId) (dI : Nat → Nat → Nat) (cI cJ cS : ClassId) (a : Nat → Nat) (u : zCls) (x1 : Int32) (Q : Int32 → zCls → Prop) (hf : s_X10_old u x1 Q) : ∀ sz : Nat, Met l yX10_old (Cond.code yX10_old cX10_old 3 (some .int) :: zT) rm_X10_old (zPm dC dI cI cJ cS (cl_X10 cI cJ cS a u) [.ref (a 0), .int x1] sz) (va_Qi Q (zB dC dI cI cJ cS (va_A (cl_X10 cI cJ cS a u) sz) (fun z => cl_X10 cI cJ cS a z)) (va_A (cl_X10 cI cJ cS a u) sz)) 0 0 (va_A (cl_X10 cI cJ cS a u) sz) := by
  obtain ⟨I2, I51, h2, h51, hf⟩ := st_X10_old hf
  exact L_X10_old l dC dI cI cJ cS a u x1 Q I2 I51 h2 h51 hf

def t_X10_holds (u : zCls) (x1 : Int32) (Q : Int32 → zCls → Prop) (QX : String → zCls → Prop) : Prop := (∃ k_1 i_2 : Nat, (1 : Int32) = nI k_1 ∧ (1 : Int32) = nI i_2 ∧ k_1 < 10 ∧ i_2 < 4 ∧ ((¬ (if inR x1 (nLo k_1 i_2) (nHi k_1 i_2) then (1 : Int32) else 0) = 0 → s_X5_fitting u.1 ((4 : Int32) + x1) (fun r_4 : Int32 => Q (if r_4 < (99 : Int32) then r_4 else (99 : Int32)) u)) ∧ ((if inR x1 (nLo k_1 i_2) (nHi k_1 i_2) then (1 : Int32) else 0) = 0 → QX "java/lang/IllegalArgumentException" u)))
theorem zc_X10_holds : zCalV RX10 yX10_holds cX10_holds 2 (some .int) 1 := ⟨q_im_X10_holds, q_se_X10_holds, q_in_X10, q_cd_X10_holds, ⟨by decide, by decide, by decide +kernel⟩, rfl⟩
abbrev rm_X10_holds : Room := { frames := 6, cells := 1, slots := 6, locals := 90 }
set_option maxHeartbeats 4000000 in
set_option maxRecDepth 100000 in
theorem L_X10_holds (l : Launch) (hlt : l.stackTraces = false) (dC : Nat → ClassId) (dI : Nat → Nat → Nat) (cI cJ cS : ClassId) (a : Nat → Nat) (u : zCls) (x1 : Int32) (Q : Int32 → zCls → Prop) (QX : String → zCls → Prop) (hf : t_X10_holds u x1 Q QX) : ∀ sz : Nat, vx_Met l yX10_holds (Cond.code yX10_holds cX10_holds 2 (some .int) :: zT) rm_X10_holds (zPmF zFy dC dI cI cJ cS (cl_X10 cI cJ cS a u) [.ref (a 0), .int x1] sz) (va_Qi Q (zB dC dI cI cJ cS (va_A (cl_X10 cI cJ cS a u) sz) (fun z => cl_X10 cI cJ cS a z)) (va_A (cl_X10 cI cJ cS a u) sz)) (zXc QX dC dI cI cJ cS (va_A (cl_X10 cI cJ cS a u) sz) (fun z => cl_X10 cI cJ cS a z)) 1 6 (va_A (cl_X10 cI cJ cS a u) sz) := by
  intro sz
  refine z_enterX (Qc := fun A => va_Qi Q (zB dC dI cI cJ cS A (fun z => cl_X10 cI cJ cS a z)) A) (XC := fun A => zXc QX dC dI cI cJ cS A (fun z => cl_X10 cI cJ cS a z)) (cc := cX10_holds) (maxL := 2) (ret := (some .int)) (by decide) (Nat.le_of_ble_eq_true rfl) ?_
  intro p e s m below meth c ls A X htb hP hD hS hA hF hl
  obtain ⟨⟨hx, hb, hml, hown, hts⟩, hr, hlk, hK⟩ := id X
  have hl : lv_has ls 2 [(0, .ref (a 0)), (1, .int x1)] := hl
  unfold t_X10_holds at hf
  refine lv_iconst (v := 1) hx hb dX10_holds_0 (by decide) ?_
  refine lv_iconst (v := 1) hx hb dX10_holds_1 (by decide) ?_
  refine lv_iload_n hx hb dX10_holds_2 rfl (lv_at hl 1 rfl) ?_
  obtain ⟨k_1, i_2, ek_1, ei_2, lk_1, li_2, hf⟩ := hf
  refine z_jS (A := A) (F := zBd) (As := [.int (nI k_1), .int (nI i_2), .int x1]) (rest := []) X.1 fro_Bd ⟨hF.1.2.2.2.2.1, hF.1.2.2.2.2.2⟩ hS (c_X10_mayBe l k_1 i_2 lk_1 li_2 x1) zc_X10_mayBe q_ml_X10_99 ⟨rfl, rfl⟩ ⟨Nat.le_of_ble_eq_true rfl, Nat.le_of_ble_eq_true rfl⟩ hl.1 rfl (z_st3 ek_1 ei_2) (Nat.le_of_ble_eq_true rfl) ⟨Nat.le_of_ble_eq_true rfl, Nat.le_of_ble_eq_true rfl⟩ dX10_holds_3 ?_
  refine lv_if_ne (tgt := 20) hx hb dX10_holds_6 (by decide) (fun c_3 => ?_) (fun c_3 => ?_)
  · have hf := hf.1 c_3
    refine lv_bipush (v := 99) hx hb dX10_holds_20 (by decide) ?_
    refine lv_aload_n hx hb dX10_holds_22 rfl (lv_at hl 0 rfl) ?_
    refine va_get (D := (dC, dI)) (ci := 9) (v := .ref (a 1)) (C := RX10) (T := TX10) (N := 9) hx hb hts inX10 hown hK hP 0 rfl rfl 0 (by decide) (hts _ q_fl_X10_10) (fun _ h9 => h9) rfl dX10_holds_23 ?_
    refine lv_iconst (v := 4) hx hb dX10_holds_26 (by decide) ?_
    refine lv_iload_n hx hb dX10_holds_27 rfl (lv_at hl 1 rfl) ?_
    refine lv_iadd hx hb dX10_holds_28 ?_
    refine z_cVi (As := [.int ((4 : Int32) + x1)]) (rest := [.int (99 : Int32)]) X (c_X5_fitting l dC dI cI cJ cS (fun i => a (1 + i)) u.1 ((4 : Int32) + x1) _ hf) zc_X5_fitting q_ml_X10_267 ⟨rfl, rfl⟩ ⟨Nat.le_of_ble_eq_true rfl, Nat.le_of_ble_eq_true rfl⟩ hP [1, 2, 3, 4, 5, 6, 7, 8, 9, 10, 11, 12, 13, 14, 15] rfl 4 rfl rfl hl.1 rfl rfl (Nat.le_of_ble_eq_true rfl) ⟨Nat.le_of_ble_eq_true rfl, Nat.le_of_ble_eq_true rfl⟩ dX10_holds_29 (fun r_4 hf => ?_)
    refine va_mmin hx hb (hml.trans hl.1.symm) hown (hts _ q_ml_X10_270) (hts _ q_st_Mmin) (hts _ q_in_Math) (hts _ q_cd_Mmin) (Nat.le_of_ble_eq_true rfl) (Nat.le_of_ble_eq_true rfl) (Nat.le_of_ble_eq_true rfl) (Nat.le_of_ble_eq_true rfl) dX10_holds_32 ?_
    exact vx_ret (W.widen (k := 1) (n := 6) (Nat.le_of_ble_eq_true rfl) (Nat.le_of_ble_eq_true rfl) (z_retMi (Wf := (fun z => cl_X10 cI cJ cS a z)) (u := u) X hf hP hD hS dX10_holds_35))
  · have hf := hf.2 c_3
    exact z_thrW (Wf := (fun z => cl_X10 cI cJ cS a z)) (u := u) 0 (by decide) 7 X hlt hF.2.2.2 htb hf hP hD hS hl.1 dX10_holds_9 dX10_holds_12 dX10_holds_13 dX10_holds_16 dX10_holds_19 ⟨Nat.le_of_ble_eq_true rfl, Nat.le_of_ble_eq_true rfl⟩ ⟨Nat.le_of_ble_eq_true rfl, Nat.le_of_ble_eq_true rfl⟩ ⟨Nat.le_of_ble_eq_true rfl, Nat.le_of_ble_eq_true rfl⟩
theorem nI_quo {a b : Nat} (ha : a < 2 ^ 31) (hb : b < 2 ^ 31) (h0 : 0 < b) : nI a / nI b = nI (a / b) := by
  have hq : a / b ≤ a := Nat.div_le_self a b
  apply Int32.toInt_inj.mp
  rw [Int32.toInt_div, nI_toInt ha, nI_toInt hb, nI_toInt (by omega), ← Int.ofNat_tdiv]
  generalize a / b = q at hq ⊢
  exact Int.bmod_eq_of_le_mul_two (by omega) (by omega)
def s_X10_holds (u : zCls) (x1 : Int32) (Q : Int32 → zCls → Prop) (QX : String → zCls → Prop) : Prop := cAsk u (fun v => fHolds v x1) (exO 0 0 0) Q QX
theorem st_X10_holds {u : zCls} {x1 : Int32} {Q : Int32 → zCls → Prop} {QX : String → zCls → Prop} (h : s_X10_holds u x1 Q QX) : t_X10_holds u x1 Q QX := by
  obtain ⟨B, G, hG, hB, hc, hQ⟩ := h
  obtain ⟨v, ev⟩ : ∃ v, v = gNow G := ⟨_, rfl⟩
  rw [← ev] at hQ
  have hv : okB B v := by rw [ev]; exact hG.1
  have ho := hv.ok
  have c1 : u.1 = v := by rw [ev]; exact hc.1
  dsimp only at hQ
  unfold fHolds at hQ
  have yes : inR x1 1 40 → s_X5_fitting u.1 ((4 : Int32) + x1) (fun r_4 : Int32 => Q (if r_4 < (99 : Int32) then r_4 else (99 : Int32)) u) := fun i1 => by
    rw [if_pos i1] at hQ
    have hQ := (hQ u hc).1 rfl
    dsimp only at hQ
    obtain ⟨n, h1, h2, rfl, en⟩ := inR_n (a := 1) (b := 40) (by decide) (by decide) i1
    rw [en] at hQ
    obtain ⟨ρ, β, mo, lm, L, S, M, hP⟩ := id hv
    obtain ⟨e1, r1, r2⟩ := hP.1
    have hg := hP.2.2.2.2.2.1
    have hO : oN v < 12 := ho.1.2
    obtain ⟨t1, t2⟩ := hg.2.2.2.1 (oN v) hO
    generalize hT : gB v.2.2.1 (oN v) (gN v.2.2.1 (oN v)) = T at t1 t2
    have el : uLeft v = nI (ρ - T) := by
      unfold uLeft
      rw [e1, t1, lN_subI t2]
    have hfr : uFree v ≤ 12 := fa_cnt_le _ _
    have ed1 : nI (ρ - T) / nI (4 + n) = nI ((ρ - T) / (4 + n)) := nI_quo (by omega) (by omega) (by omega)
    have ed2 : nI ρ / nI (4 + n) = nI (ρ / (4 + n)) := nI_quo (by omega) (by omega) (by omega)
    have b1 : (ρ - T) / (4 + n) ≤ 200 := Nat.le_trans (Nat.div_le_self _ _) (by omega)
    have b2 : ρ / (4 + n) ≤ 200 := Nat.le_trans (Nat.div_le_self _ _) (by omega)
    have b3 : uFree v * (ρ / (4 + n)) ≤ 12 * 200 := Nat.mul_le_mul hfr b2
    have eF : uF v (4 + n) = (ρ - T) / (4 + n) + uFree v * (ρ / (4 + n)) := by
      unfold uF
      rw [el, e1, nI_clamp (by omega), nI_clamp (by omega)]
    rw [eF] at hQ
    rw [z4n, c1]
    refine ⟨ho, nI_lt (a := 0) (by omega) (by omega), ?_⟩
    rw [el, e1, ed1, ed2, n_mul, nI_add]
    have hX : (ρ - T) / (4 + n) + uFree v * (ρ / (4 + n)) ≤ 2600 := by omega
    generalize (ρ - T) / (4 + n) + uFree v * (ρ / (4 + n)) = X at hQ hX ⊢
    show Q (if nI X < nI 99 then nI X else nI 99) u
    by_cases hx : X < 99
    · rw [if_pos (nI_lt (a := X) (b := 99) hx (by decide))]
      rw [show min 99 X = X by omega] at hQ
      exact hQ
    · rw [if_neg (nI_nlt (a := X) (b := 99) (by omega) (by omega))]
      rw [show min 99 X = 99 by omega] at hQ
      exact hQ
  have no : ¬ inR x1 1 40 → QX "java/lang/IllegalArgumentException" u := fun i1 => by
    rw [if_neg i1] at hQ
    exact (hQ u hc).2 (show ¬ (1 : Int32) = 0 by decide)
  exact ⟨1, 1, rfl, rfl, by decide, by decide, mb_ofr yes no⟩
theorem c_X10_holds (l : Launch) (hlt : l.stackTraces = false) (dC : Nat → ClassId) (dI : Nat → Nat → Nat) (cI cJ cS : ClassId) (a : Nat → Nat) (u : zCls) (x1 : Int32) (Q : Int32 → zCls → Prop) (QX : String → zCls → Prop) (hf : s_X10_holds u x1 Q QX) : ∀ sz : Nat, vx_Met l yX10_holds (Cond.code yX10_holds cX10_holds 2 (some .int) :: zT) rm_X10_holds (zPmF zFy dC dI cI cJ cS (cl_X10 cI cJ cS a u) [.ref (a 0), .int x1] sz) (va_Qi Q (zB dC dI cI cJ cS (va_A (cl_X10 cI cJ cS a u) sz) (fun z => cl_X10 cI cJ cS a z)) (va_A (cl_X10 cI cJ cS a u) sz)) (zXc QX dC dI cI cJ cS (va_A (cl_X10 cI cJ cS a u) sz) (fun z => cl_X10 cI cJ cS a z)) 1 6 (va_A (cl_X10 cI cJ cS a u) sz) := L_X10_holds l hlt dC dI cI cJ cS a u x1 Q QX (st_X10_holds hf)

def t_X10_would (u : zCls) (x1 : Int32) (x2 : Int32) (Q : Int32 → zCls → Prop) (QX : String → zCls → Prop) : Prop := s_X10_lookAtSegment x1 (fun (u_2 : Unit) => s_X10_lookAtWhat x2 (2 : Int32) (fun (u_4 : Unit) => s_X5_refusalOf u.1 (6 : Int32) x1 (0 : Int32) (fun r_5 : Int32 => ((r_5 = 0 → s_X5_copyFrom u.2.1 u.1 (fun (u_8 : zState × zState) => s_X5_noteLive u_8.1 x1 (fun (r_9 : Int32) (u_10 : zState) => s_X5_collectAll u_10 (fun (r_11 : Int32) (u_12 : zState) => ((¬ r_11 = 0 → ((x2 = (0 : Int32) → Q (u_12.2.1.2.2.2.1 - u_8.2.2.1.2.2.2.1) (u_8.2, u_12, u.2.2)) ∧ (¬ x2 = (0 : Int32) → ((x2 = (1 : Int32) → s_X5_spare u_12 (fun r_16 : Int32 => s_X5_spare u_8.2 (fun r_17 : Int32 => Q (r_16 - r_17) (u_8.2, u_12, u.2.2)))) ∧ (¬ x2 = (1 : Int32) → Q (u_12.2.1.2.2.1 - u_8.2.2.1.2.2.1) (u_8.2, u_12, u.2.2)))))) ∧ (r_11 = 0 → Q (-1000 : Int32) (u_8.2, u_12, u.2.2))))))) ∧ (¬ r_5 = 0 → Q (-1000 : Int32) u)))) (fun (E : String) (u_4 : Unit) => QX E u)) (fun (E : String) (u_2 : Unit) => QX E u)
theorem zc_X10_would : zCalV RX10 yX10_would cX10_would 3 (some .int) 2 := ⟨q_im_X10_would, q_se_X10_would, q_in_X10, q_cd_X10_would, ⟨by decide, by decide, by decide +kernel⟩, rfl⟩
abbrev rm_X10_would : Room := { frames := 7, cells := 2, slots := 12, locals := 186 }
set_option maxHeartbeats 4000000 in
set_option maxRecDepth 100000 in
theorem L_X10_would (l : Launch) (hlt : l.stackTraces = false) (dC : Nat → ClassId) (dI : Nat → Nat → Nat) (cI cJ cS : ClassId) (a : Nat → Nat) (u : zCls) (x1 : Int32) (x2 : Int32) (Q : Int32 → zCls → Prop) (QX : String → zCls → Prop) (hf : t_X10_would u x1 x2 Q QX) : ∀ sz : Nat, vx_Met l yX10_would (Cond.code yX10_would cX10_would 3 (some .int) :: zT) rm_X10_would (zPmF zFy dC dI cI cJ cS (cl_X10 cI cJ cS a u) [.ref (a 0), .int x1, .int x2] sz) (va_Qi Q (zB dC dI cI cJ cS (va_A (cl_X10 cI cJ cS a u) sz) (fun z => cl_X10 cI cJ cS a z)) (va_A (cl_X10 cI cJ cS a u) sz)) (zXc QX dC dI cI cJ cS (va_A (cl_X10 cI cJ cS a u) sz) (fun z => cl_X10 cI cJ cS a z)) 2 12 (va_A (cl_X10 cI cJ cS a u) sz) := by
  intro sz
  refine z_enterX (Qc := fun A => va_Qi Q (zB dC dI cI cJ cS A (fun z => cl_X10 cI cJ cS a z)) A) (XC := fun A => zXc QX dC dI cI cJ cS A (fun z => cl_X10 cI cJ cS a z)) (cc := cX10_would) (maxL := 3) (ret := (some .int)) (by decide) (Nat.le_of_ble_eq_true rfl) ?_
  intro p e s m below meth c ls A X htb hP hD hS hA hF hl
  obtain ⟨⟨hx, hb, hml, hown, hts⟩, hr, hlk, hK⟩ := id X
  have hl : lv_has ls 3 [(0, .ref (a 0)), (1, .int x1), (2, .int x2)] := hl
  unfold t_X10_would at hf
  refine lv_iload_n hx hb dX10_would_0 rfl (lv_at hl 1 rfl) ?_
  refine z_xSvO (Wn := (fun u_2 => cl_X10 cI cJ cS a u)) (As := [.int x1]) (rest := []) (wr := cl_X10 cI cJ cS a u) X fro_Fy hF (c_X10_lookAtSegment l hlt dC dI cI cJ cS   x1 _ _ hf _) zc_X10_lookAtSegment q_ml_X10_116 ⟨rfl, rfl⟩ ⟨Nat.le_of_ble_eq_true rfl, Nat.le_of_ble_eq_true rfl⟩ hP hD hS hA (pm_0 _) (fun _ => pm_0 _) (Wo := (fun z => cl_X10 cI cJ cS a z)) (fun u_2 => u) (fun _ => rfl) htb (fun _ _ h => h) ⟨Nat.le_of_ble_eq_true rfl, Nat.le_of_ble_eq_true rfl⟩ hl.1 rfl rfl (Nat.le_of_ble_eq_true rfl) ⟨Nat.le_of_ble_eq_true rfl, Nat.le_of_ble_eq_true rfl⟩ dX10_would_1 (fun u_2 H locs hf hP hD hS => ?_)
  refine lv_iload_n hx hb dX10_would_4 rfl (lv_at hl 2 rfl) ?_
  refine lv_iconst (v := 2) hx hb dX10_would_5 (by decide) ?_
  refine z_xSvO (Wn := (fun u_4 => cl_X10 cI cJ cS a u)) (As := [.int x2, .int (2 : Int32)]) (rest := []) (wr := cl_X10 cI cJ cS a u) X fro_Fy hF (c_X10_lookAtWhat l hlt dC dI cI cJ cS   x2 (2 : Int32) _ _ hf _) zc_X10_lookAtWhat q_ml_X10_136 ⟨rfl, rfl⟩ ⟨Nat.le_of_ble_eq_true rfl, Nat.le_of_ble_eq_true rfl⟩ hP hD hS hA (pm_0 _) (fun _ => pm_0 _) (Wo := (fun z => cl_X10 cI cJ cS a z)) (fun u_4 => u) (fun _ => rfl) htb (fun _ _ h => h) ⟨Nat.le_of_ble_eq_true rfl, Nat.le_of_ble_eq_true rfl⟩ hl.1 rfl rfl (Nat.le_of_ble_eq_true rfl) ⟨Nat.le_of_ble_eq_true rfl, Nat.le_of_ble_eq_true rfl⟩ dX10_would_6 (fun u_4 H locs hf hP hD hS => ?_)
  refine lv_aload_n hx hb dX10_would_9 rfl (lv_at hl 0 rfl) ?_
  refine va_get (D := (dC, dI)) (ci := 9) (v := .ref (a 1)) (C := RX10) (T := TX10) (N := 9) hx hb hts inX10 hown hK hP 0 rfl rfl 0 (by decide) (hts _ q_fl_X10_10) (fun _ h9 => h9) rfl dX10_would_10 ?_
  refine lv_bipush (v := 6) hx hb dX10_would_13 (by decide) ?_
  refine lv_iload_n hx hb dX10_would_15 rfl (lv_at hl 1 rfl) ?_
  refine lv_iconst (v := 0) hx hb dX10_would_16 (by decide) ?_
  refine z_cVi (As := [.int (6 : Int32), .int x1, .int (0 : Int32)]) (rest := []) X (c_X5_refusalOf l dC dI cI cJ cS (fun i => a (1 + i)) u.1 (6 : Int32) x1 (0 : Int32) _ hf) zc_X5_refusalOf q_ml_X10_72 ⟨rfl, rfl⟩ ⟨Nat.le_of_ble_eq_true rfl, Nat.le_of_ble_eq_true rfl⟩ hP [1, 2, 3, 4, 5, 6, 7, 8, 9, 10, 11, 12, 13, 14, 15] rfl 4 rfl rfl hl.1 rfl rfl (Nat.le_of_ble_eq_true rfl) ⟨Nat.le_of_ble_eq_true rfl, Nat.le_of_ble_eq_true rfl⟩ dX10_would_17 (fun r_5 hf => ?_)
  refine lv_if_eq (tgt := 27) hx hb dX10_would_20 (by decide) (fun c_6 => ?_) (fun c_6 => ?_)
  · have hf := hf.1 c_6
    refine lv_aload_n hx hb dX10_would_27 rfl (lv_at hl 0 rfl) ?_
    refine va_get (D := (dC, dI)) (ci := 9) (v := .ref (a 16)) (C := RX10) (T := TX10) (N := 9) hx hb hts inX10 hown hK hP 0 rfl rfl 1 (by decide) (hts _ q_fl_X10_16) (fun _ h9 => h9) rfl dX10_would_28 ?_
    refine lv_aload_n hx hb dX10_would_31 rfl (lv_at hl 0 rfl) ?_
    refine va_get (D := (dC, dI)) (ci := 9) (v := .ref (a 1)) (C := RX10) (T := TX10) (N := 9) hx hb hts inX10 hown hK hP 0 rfl rfl 0 (by decide) (hts _ q_fl_X10_10) (fun _ h9 => h9) rfl dX10_would_32 ?_
    refine z_pVv (Wn := (fun u_8 => cl_X10 cI cJ cS a (u_8.2, u_8.1, u.2.2))) (As := [.ref (a 1)]) (rest := []) (wr := rr_X10_pn cI cJ cS a u) X (c_X5_copyFrom l dC dI cI cJ cS (fun i => a (16 + i)) (fun i => a (1 + i)) u.2.1 u.1  _ hf _) zc_X5_copyFrom q_ml_X10_55 ⟨rfl, rfl⟩ ⟨Nat.le_of_ble_eq_true rfl, Nat.le_of_ble_eq_true rfl⟩ hP hD hS hA (pm_X10_pn cI cJ cS a u) (fun u_8 => pm_X10_pn cI cJ cS a (u_8.2, u_8.1, u.2.2)) 4 rfl rfl hl.1 rfl rfl (Nat.le_of_ble_eq_true rfl) ⟨Nat.le_of_ble_eq_true rfl, Nat.le_of_ble_eq_true rfl⟩ dX10_would_35 (fun u_8 H locs hf hP hD hS => ?_)
    refine lv_aload_n hx hb dX10_would_38 rfl (lv_at hl 0 rfl) ?_
    refine va_get (D := (dC, dI)) (ci := 9) (v := .ref (a 16)) (C := RX10) (T := TX10) (N := 9) hx hb hts inX10 hown hK hP 0 rfl rfl 1 (by decide) (hts _ q_fl_X10_16) (fun _ h9 => h9) rfl dX10_would_39 ?_
    refine lv_iload_n hx hb dX10_would_42 rfl (lv_at hl 1 rfl) ?_
    refine z_pVi (Wn := (fun u_10 => cl_X10 cI cJ cS a (u_8.2, u_10, u.2.2))) (As := [.int x1]) (rest := []) (wr := rr_X10_p cI cJ cS a (u_8.2, u_8.1, u.2.2)) X (c_X5_noteLive l dC dI cI cJ cS (fun i => a (16 + i)) u_8.1 x1 _ hf _) zc_X5_noteLive q_ml_X10_275 ⟨rfl, rfl⟩ ⟨Nat.le_of_ble_eq_true rfl, Nat.le_of_ble_eq_true rfl⟩ hP hD hS hA (pm_X10_p cI cJ cS a (u_8.2, u_8.1, u.2.2)) (fun u_10 => pm_X10_p cI cJ cS a (u_8.2, u_10, u.2.2)) 4 rfl rfl hl.1 rfl rfl (Nat.le_of_ble_eq_true rfl) ⟨Nat.le_of_ble_eq_true rfl, Nat.le_of_ble_eq_true rfl⟩ dX10_would_43 (fun r_9 u_10 H locs hf hP hD hS => ?_)
    refine lv_pop hx hb dX10_would_46 rfl ?_
    refine lv_aload_n hx hb dX10_would_47 rfl (lv_at hl 0 rfl) ?_
    refine va_get (D := (dC, dI)) (ci := 9) (v := .ref (a 16)) (C := RX10) (T := TX10) (N := 9) hx hb hts inX10 hown hK hP 0 rfl rfl 1 (by decide) (hts _ q_fl_X10_16) (fun _ h9 => h9) rfl dX10_would_48 ?_
    refine z_pVi (Wn := (fun u_12 => cl_X10 cI cJ cS a (u_8.2, u_12, u.2.2))) (As := []) (rest := []) (wr := rr_X10_p cI cJ cS a (u_8.2, u_10, u.2.2)) X (c_X5_collectAll l dC dI cI cJ cS (fun i => a (16 + i)) u_10  _ hf _) zc_X5_collectAll q_ml_X10_278 ⟨rfl, rfl⟩ ⟨Nat.le_of_ble_eq_true rfl, Nat.le_of_ble_eq_true rfl⟩ hP hD hS hA (pm_X10_p cI cJ cS a (u_8.2, u_10, u.2.2)) (fun u_12 => pm_X10_p cI cJ cS a (u_8.2, u_12, u.2.2)) 4 rfl rfl hl.1 rfl rfl (Nat.le_of_ble_eq_true rfl) ⟨Nat.le_of_ble_eq_true rfl, Nat.le_of_ble_eq_true rfl⟩ dX10_would_51 (fun r_11 u_12 H locs hf hP hD hS => ?_)
    obtain ⟨hbr_11, hf⟩ := hf
    refine lv_if_ne (tgt := 61) hx hb dX10_would_54 (by decide) (fun c_13 => ?_) (fun c_13 => ?_)
    · have hf := hf.1 c_13
      refine lv_iload_n hx hb dX10_would_61 rfl (lv_at hl 2 rfl) ?_
      by_cases c_14 : x2 = (0 : Int32)
      · have hf := hf.1 c_14
        refine lv_lookup (off := 26) (tgt := 88) hx hb dX10_would_62 (by decide) (by rw [c_14]; decide) (by decide) ?_
        refine lv_aload_n hx hb dX10_would_88 rfl (lv_at hl 0 rfl) ?_
        refine va_get (D := (dC, dI)) (ci := 9) (v := .ref (a 16)) (C := RX10) (T := TX10) (N := 9) hx hb hts inX10 hown hK hP 0 rfl rfl 1 (by decide) (hts _ q_fl_X10_16) (fun _ h9 => h9) rfl dX10_would_89 ?_
        refine va_get (D := (dC, dI)) (ci := 4) (v := .ref (a 18)) (C := RX5) (T := TX5) (N := 9) hx hb hts inX5 hown hK hP 16 rfl rfl 1 (by decide) (hts _ q_fl_X10_282) (fun _ h9 => h9) rfl dX10_would_92 ?_
        refine va_get (D := (dC, dI)) (ci := 7) (v := .int u_12.2.1.2.2.2.1) (C := RX8) (T := TX8) (N := 5) hx hb hts inX8 hown hK hP 18 rfl rfl 3 (by decide) (hts _ q_fl_X10_286) (fun _ h9 => h9) rfl dX10_would_95 ?_
        refine lv_aload_n hx hb dX10_would_98 rfl (lv_at hl 0 rfl) ?_
        refine va_get (D := (dC, dI)) (ci := 9) (v := .ref (a 1)) (C := RX10) (T := TX10) (N := 9) hx hb hts inX10 hown hK hP 0 rfl rfl 0 (by decide) (hts _ q_fl_X10_10) (fun _ h9 => h9) rfl dX10_would_99 ?_
        refine va_get (D := (dC, dI)) (ci := 4) (v := .ref (a 3)) (C := RX5) (T := TX5) (N := 9) hx hb hts inX5 hown hK hP 1 rfl rfl 1 (by decide) (hts _ q_fl_X10_282) (fun _ h9 => h9) rfl dX10_would_102 ?_
        refine va_get (D := (dC, dI)) (ci := 7) (v := .int u_8.2.2.1.2.2.2.1) (C := RX8) (T := TX8) (N := 5) hx hb hts inX8 hown hK hP 3 rfl rfl 3 (by decide) (hts _ q_fl_X10_286) (fun _ h9 => h9) rfl dX10_would_105 ?_
        refine lv_isub hx hb dX10_would_108 ?_
        exact vx_ret (W.widen (k := 2) (n := 12) (Nat.le_of_ble_eq_true rfl) (Nat.le_of_ble_eq_true rfl) (z_retMi (Wf := (fun z => cl_X10 cI cJ cS a z)) (u := (u_8.2, u_12, u.2.2)) X hf hP hD hS dX10_would_109))
      have hf := hf.2 c_14
      by_cases c_15 : x2 = (1 : Int32)
      · have hf := hf.1 c_15
        refine lv_lookup (off := 48) (tgt := 110) hx hb dX10_would_62 (by decide) (by rw [c_15]; decide) (by decide) ?_
        refine lv_aload_n hx hb dX10_would_110 rfl (lv_at hl 0 rfl) ?_
        refine va_get (D := (dC, dI)) (ci := 9) (v := .ref (a 16)) (C := RX10) (T := TX10) (N := 9) hx hb hts inX10 hown hK hP 0 rfl rfl 1 (by decide) (hts _ q_fl_X10_16) (fun _ h9 => h9) rfl dX10_would_111 ?_
        refine z_cVi (As := []) (rest := []) X (c_X5_spare l dC dI cI cJ cS (fun i => a (16 + i)) u_12  _ hf) zc_X5_spare q_ml_X10_291 ⟨rfl, rfl⟩ ⟨Nat.le_of_ble_eq_true rfl, Nat.le_of_ble_eq_true rfl⟩ hP [16, 17, 18, 19, 20, 21, 22, 23, 24, 25, 26, 27, 28, 29, 30] rfl 4 rfl rfl hl.1 rfl rfl (Nat.le_of_ble_eq_true rfl) ⟨Nat.le_of_ble_eq_true rfl, Nat.le_of_ble_eq_true rfl⟩ dX10_would_114 (fun r_16 hf => ?_)
        refine lv_aload_n hx hb dX10_would_117 rfl (lv_at hl 0 rfl) ?_
        refine va_get (D := (dC, dI)) (ci := 9) (v := .ref (a 1)) (C := RX10) (T := TX10) (N := 9) hx hb hts inX10 hown hK hP 0 rfl rfl 0 (by decide) (hts _ q_fl_X10_10) (fun _ h9 => h9) rfl dX10_would_118 ?_
        refine z_cVi (As := []) (rest := [.int r_16]) X (c_X5_spare l dC dI cI cJ cS (fun i => a (1 + i)) u_8.2  _ hf) zc_X5_spare q_ml_X10_291 ⟨rfl, rfl⟩ ⟨Nat.le_of_ble_eq_true rfl, Nat.le_of_ble_eq_true rfl⟩ hP [1, 2, 3, 4, 5, 6, 7, 8, 9, 10, 11, 12, 13, 14, 15] rfl 4 rfl rfl hl.1 rfl rfl (Nat.le_of_ble_eq_true rfl) ⟨Nat.le_of_ble_eq_true rfl, Nat.le_of_ble_eq_true rfl⟩ dX10_would_121 (fun r_17 hf => ?_)
        refine lv_isub hx hb dX10_would_124 ?_
        exact vx_ret (W.widen (k := 2) (n := 12) (Nat.le_of_ble_eq_true rfl) (Nat.le_of_ble_eq_true rfl) (z_retMi (Wf := (fun z => cl_X10 cI cJ cS a z)) (u := (u_8.2, u_12, u.2.2)) X hf hP hD hS dX10_would_125))
      have hf := hf.2 c_15
      refine lv_lookup (off := 64) (tgt := 126) hx hb dX10_would_62 (by decide) (z_look2 (fun h => c_14 (Int32.toInt_inj.mp (show x2.toInt = (0 : Int32).toInt from h))) (fun h => c_15 (Int32.toInt_inj.mp (show x2.toInt = (1 : Int32).toInt from h)))) (by decide) ?_
      refine lv_aload_n hx hb dX10_would_126 rfl (lv_at hl 0 rfl) ?_
      refine va_get (D := (dC, dI)) (ci := 9) (v := .ref (a 16)) (C := RX10) (T := TX10) (N := 9) hx hb hts inX10 hown hK hP 0 rfl rfl 1 (by decide) (hts _ q_fl_X10_16) (fun _ h9 => h9) rfl dX10_would_127 ?_
      refine va_get (D := (dC, dI)) (ci := 4) (v := .ref (a 18)) (C := RX5) (T := TX5) (N := 9) hx hb hts inX5 hown hK hP 16 rfl rfl 1 (by decide) (hts _ q_fl_X10_282) (fun _ h9 => h9) rfl dX10_would_130 ?_
      refine va_get (D := (dC, dI)) (ci := 7) (v := .int u_12.2.1.2.2.1) (C := RX8) (T := TX8) (N := 5) hx hb hts inX8 hown hK hP 18 rfl rfl 2 (by decide) (hts _ q_fl_X10_294) (fun _ h9 => h9) rfl dX10_would_133 ?_
      refine lv_aload_n hx hb dX10_would_136 rfl (lv_at hl 0 rfl) ?_
      refine va_get (D := (dC, dI)) (ci := 9) (v := .ref (a 1)) (C := RX10) (T := TX10) (N := 9) hx hb hts inX10 hown hK hP 0 rfl rfl 0 (by decide) (hts _ q_fl_X10_10) (fun _ h9 => h9) rfl dX10_would_137 ?_
      refine va_get (D := (dC, dI)) (ci := 4) (v := .ref (a 3)) (C := RX5) (T := TX5) (N := 9) hx hb hts inX5 hown hK hP 1 rfl rfl 1 (by decide) (hts _ q_fl_X10_282) (fun _ h9 => h9) rfl dX10_would_140 ?_
      refine va_get (D := (dC, dI)) (ci := 7) (v := .int u_8.2.2.1.2.2.1) (C := RX8) (T := TX8) (N := 5) hx hb hts inX8 hown hK hP 3 rfl rfl 2 (by decide) (hts _ q_fl_X10_294) (fun _ h9 => h9) rfl dX10_would_143 ?_
      refine lv_isub hx hb dX10_would_146 ?_
      exact vx_ret (W.widen (k := 2) (n := 12) (Nat.le_of_ble_eq_true rfl) (Nat.le_of_ble_eq_true rfl) (z_retMi (Wf := (fun z => cl_X10 cI cJ cS a z)) (u := (u_8.2, u_12, u.2.2)) X hf hP hD hS dX10_would_147))
    · have hf := hf.2 c_13
      refine lv_sipush (v := (-1000)) hx hb dX10_would_57 (by decide) ?_
      exact vx_ret (W.widen (k := 2) (n := 12) (Nat.le_of_ble_eq_true rfl) (Nat.le_of_ble_eq_true rfl) (z_retMi (Wf := (fun z => cl_X10 cI cJ cS a z)) (u := (u_8.2, u_12, u.2.2)) X hf hP hD hS dX10_would_60))
  · have hf := hf.2 c_6
    refine lv_sipush (v := (-1000)) hx hb dX10_would_23 (by decide) ?_
    exact vx_ret (W.widen (k := 2) (n := 12) (Nat.le_of_ble_eq_true rfl) (Nat.le_of_ble_eq_true rfl) (z_retMi (Wf := (fun z => cl_X10 cI cJ cS a z)) (u := u) X hf hP hD hS dX10_would_26))
def s_X10_would (u : zCls) (x1 : Int32) (x2 : Int32) (Q : Int32 → zCls → Prop) (QX : String → zCls → Prop) : Prop := cAsk u (fun v => fWould v x1 x2) (exO 2 3 3) Q QX
theorem st_X10_would {u : zCls} {x1 x2 : Int32} {Q : Int32 → zCls → Prop} {QX : String → zCls → Prop} (h : s_X10_would u x1 x2 Q QX) : t_X10_would u x1 x2 Q QX := by
  obtain ⟨B, G, hG, hB, hc, hQ⟩ := h
  obtain ⟨v, ev⟩ : ∃ v, v = gNow G := ⟨_, rfl⟩
  rw [← ev] at hQ
  have hv : okB B v := by rw [ev]; exact hG.1
  have ho := hv.ok
  have c1 : u.1 = v := by rw [ev]; exact hc.1
  dsimp only at hQ
  unfold fWould at hQ
  refine lookSeg_of (fun i1 => lookWhat_of (fun i2 => ?_) (fun i2 => ?_)) (fun i1 => ?_)
  · rw [if_pos i1, if_pos i2] at hQ
    obtain ⟨s, hs, rfl, es⟩ := seg_n i1
    rw [es] at hQ
    have hQ : ∀ u' : zCls, cG G u' → Q (if uRp v (nI s) = 0 then (if (uGo v s).2.2.2.2.1.2.1 = -1 then uWouldA v (uGo v s) x2 else -1000) else -1000) u' := fun u' h' => (hQ u' h').1 rfl
    have hcp : ∀ w : zState, cG G (v, w, u.2.2) := fun w => ⟨ev, hc.2⟩
    have e6 : (doA v 6 (nI s) 0 0 0).1 = uRp v (nI s) := by
      rw [doAe_6, uSel_n v hs]
      by_cases c0 : uRp v (nI s) = 0
      · rw [if_pos c0]; exact c0.symm
      · rw [if_neg c0]
    show s_X5_refusalOf u.1 (nI 6) (nI s) (0 : Int32) _
    rw [c1]
    refine ref_of (c := 0) (d := 0) hv (by decide) (Or.inr i1) ?_
    rw [e6]
    refine ⟨fun c0 => ?_, fun c0 => ?_⟩
    · rw [if_pos c0] at hQ
      obtain ⟨k1, k2⟩ := uRp_0 hs c0
      obtain ⟨ρ, β, mo, lm, L, S, M, hP⟩ := id hv
      have hgo := hv.go (by omega) hs k2
      have hogo := hgo.ok
      refine ⟨ho, s, hs, rfl, ρ, β, mo, lm, L, S, M, B, zPr.note hP hs k2, by omega, fun d => ⟨fun _ => ?_, fun q => absurd q (by decide)⟩, fun d => ⟨fun q => absurd rfl q, fun _ => ?_⟩⟩
      · have d : (uGo v s).2.2.2.2.1.2.1 = -1 := d
        rw [if_pos d] at hQ
        have hQ := hQ _ (hcp (uGo v s))
        unfold uWouldA at hQ
        refine ⟨fun z => by rw [if_pos z] at hQ; exact hQ, fun z => ?_⟩
        rw [if_neg z] at hQ
        exact ⟨fun z => ⟨hogo, ho, by rw [if_pos z] at hQ; exact hQ⟩, fun z => by rw [if_neg z] at hQ; exact hQ⟩
      · have d : ¬ (uGo v s).2.2.2.2.1.2.1 = -1 := d
        rw [if_neg d] at hQ
        exact hQ _ (hcp (uGo v s))
    · rw [if_neg c0] at hQ
      exact hQ u hc
  · rw [if_pos i1, if_neg i2] at hQ
    exact (hQ u hc).2 (show ¬ (2 : Int32) = 0 by decide)
  · rw [if_neg i1] at hQ
    exact (hQ u hc).2 (show ¬ (1 : Int32) = 0 by decide)
theorem c_X10_would (l : Launch) (hlt : l.stackTraces = false) (dC : Nat → ClassId) (dI : Nat → Nat → Nat) (cI cJ cS : ClassId) (a : Nat → Nat) (u : zCls) (x1 : Int32) (x2 : Int32) (Q : Int32 → zCls → Prop) (QX : String → zCls → Prop) (hf : s_X10_would u x1 x2 Q QX) : ∀ sz : Nat, vx_Met l yX10_would (Cond.code yX10_would cX10_would 3 (some .int) :: zT) rm_X10_would (zPmF zFy dC dI cI cJ cS (cl_X10 cI cJ cS a u) [.ref (a 0), .int x1, .int x2] sz) (va_Qi Q (zB dC dI cI cJ cS (va_A (cl_X10 cI cJ cS a u) sz) (fun z => cl_X10 cI cJ cS a z)) (va_A (cl_X10 cI cJ cS a u) sz)) (zXc QX dC dI cI cJ cS (va_A (cl_X10 cI cJ cS a u) sz) (fun z => cl_X10 cI cJ cS a z)) 2 12 (va_A (cl_X10 cI cJ cS a u) sz) := L_X10_would l hlt dC dI cI cJ cS a u x1 x2 Q QX (st_X10_would hf)

def t_X10_sweep_e (u : zCls) (x1 : Int32) (x2 : Int32) (K46 : Int32 → Int32 → Int32 → zCls → Prop) (Q : Int32 → zCls → Prop) (QX : String → zCls → Prop) : Prop := ((x1 < (1 : Int32) → QX "java/lang/IllegalArgumentException" u) ∧ (¬ x1 < (1 : Int32) → ((x1 ≤ (6 : Int32) → s_X10_lookAtWhat x2 (2 : Int32) (fun (u_4 : Unit) => s_X5_copyFrom u.2.1 u.1 (fun (u_6 : zState × zState) => K46 (0 : Int32) (1 : Int32) (0 : Int32) (u_6.2, u_6.1, u.2.2))) (fun (E : String) (u_4 : Unit) => QX E u)) ∧ (¬ x1 ≤ (6 : Int32) → QX "java/lang/IllegalArgumentException" u))))
def t_X10_sweep_46 (x1 : Int32) (x2 : Int32) (y3 : Int32) (y4 : Int32) (y5 : Int32) (z : zCls) (K46 : Int32 → Int32 → Int32 → zCls → Prop) (Q : Int32 → zCls → Prop) (QX : String → zCls → Prop) : Prop := ((x1 ≤ y5 → ((x2 = (0 : Int32) → Q y3 z) ∧ (¬ x2 = (0 : Int32) → ((x2 = (1 : Int32) → s_X5_spare z.2.1 (fun r_11 : Int32 => Q r_11 z)) ∧ (¬ x2 = (1 : Int32) → s_X5_liveInHundredths z.2.1 (fun r_12 : Int32 => Q r_12 z)))))) ∧ (¬ x1 ≤ y5 → ((y4 = 0 → ((x2 = (0 : Int32) → Q y3 z) ∧ (¬ x2 = (0 : Int32) → ((x2 = (1 : Int32) → s_X5_spare z.2.1 (fun r_16 : Int32 => Q r_16 z)) ∧ (¬ x2 = (1 : Int32) → s_X5_liveInHundredths z.2.1 (fun r_17 : Int32 => Q r_17 z)))))) ∧ (¬ y4 = 0 → s_X1_stop z.2.1.2.2.2.2.1 (fun (u_19 : zColl) => s_X5_poorest (z.2.1.1, z.2.1.2.1, z.2.1.2.2.1, z.2.1.2.2.2.1, u_19, z.2.1.2.2.2.2.2.1, z.2.1.2.2.2.2.2.2.1, z.2.1.2.2.2.2.2.2.2.1, z.2.1.2.2.2.2.2.2.2.2) (fun r_20 : Int32 => ((r_20 = (-1 : Int32) → (((0 : Int32) = 0 → ∀ x_23 : Int32, x_23 = y5 + (1 : Int32) → K46 y3 (0 : Int32) x_23 (z.1, (z.2.1.1, z.2.1.2.1, z.2.1.2.2.1, z.2.1.2.2.2.1, u_19, z.2.1.2.2.2.2.2.1, z.2.1.2.2.2.2.2.2.1, z.2.1.2.2.2.2.2.2.2.1, z.2.1.2.2.2.2.2.2.2.2), z.2.2)) ∧ (¬ (0 : Int32) = 0 → s_X5_noteLive (z.2.1.1, z.2.1.2.1, z.2.1.2.2.1, z.2.1.2.2.2.1, u_19, z.2.1.2.2.2.2.2.1, z.2.1.2.2.2.2.2.2.1, z.2.1.2.2.2.2.2.2.2.1, z.2.1.2.2.2.2.2.2.2.2) r_20 (fun (r_25 : Int32) (u_26 : zState) => s_X5_collectAll u_26 (fun (r_27 : Int32) (u_28 : zState) => ((r_27 = 0 → ∀ x_30 : Int32, x_30 = (y3 + (0 : Int32)) → ∀ x_31 : Int32, x_31 = y5 + (1 : Int32) → K46 x_30 r_27 x_31 (z.1, u_28, z.2.2)) ∧ (¬ r_27 = 0 → ∀ x_33 : Int32, x_33 = (y3 + (1 : Int32)) → ∀ x_34 : Int32, x_34 = y5 + (1 : Int32) → K46 x_33 r_27 x_34 (z.1, u_28, z.2.2)))))))) ∧ (¬ r_20 = (-1 : Int32) → (((1 : Int32) = 0 → ∀ x_37 : Int32, x_37 = y5 + (1 : Int32) → K46 y3 (1 : Int32) x_37 (z.1, (z.2.1.1, z.2.1.2.1, z.2.1.2.2.1, z.2.1.2.2.2.1, u_19, z.2.1.2.2.2.2.2.1, z.2.1.2.2.2.2.2.2.1, z.2.1.2.2.2.2.2.2.2.1, z.2.1.2.2.2.2.2.2.2.2), z.2.2)) ∧ (¬ (1 : Int32) = 0 → s_X5_noteLive (z.2.1.1, z.2.1.2.1, z.2.1.2.2.1, z.2.1.2.2.2.1, u_19, z.2.1.2.2.2.2.2.1, z.2.1.2.2.2.2.2.2.1, z.2.1.2.2.2.2.2.2.2.1, z.2.1.2.2.2.2.2.2.2.2) r_20 (fun (r_39 : Int32) (u_40 : zState) => s_X5_collectAll u_40 (fun (r_41 : Int32) (u_42 : zState) => ((r_41 = 0 → ∀ x_44 : Int32, x_44 = (y3 + (0 : Int32)) → ∀ x_45 : Int32, x_45 = y5 + (1 : Int32) → K46 x_44 r_41 x_45 (z.1, u_42, z.2.2)) ∧ (¬ r_41 = 0 → ∀ x_47 : Int32, x_47 = (y3 + (1 : Int32)) → ∀ x_48 : Int32, x_48 = y5 + (1 : Int32) → K46 x_47 r_41 x_48 (z.1, u_42, z.2.2)))))))))))))))
theorem zc_X10_sweep : zCalV RX10 yX10_sweep cX10_sweep 7 (some .int) 2 := ⟨q_im_X10_sweep, q_se_X10_sweep, q_in_X10, q_cd_X10_sweep, ⟨by decide, by decide, by decide +kernel⟩, rfl⟩
abbrev rm_X10_sweep : Room := { frames := 7, cells := 1, slots := 6, locals := 186 }
def v_X10_sweep (u : zCls) (x1 : Int32) (x2 : Int32) (Q : Int32 → zCls → Prop) (QX : String → zCls → Prop) : Prop := ∃ I46 : Nat → Int32 → Int32 → Int32 → zCls → Prop, (∀ (n : Nat) (y3 : Int32) (y4 : Int32) (y5 : Int32) (z : zCls), I46 n y3 y4 y5 z → t_X10_sweep_46 x1 x2 y3 y4 y5 z (fun q0 q1 q2 q3 => ∃ k : Nat, k < n ∧ I46 k q0 q1 q2 q3) Q QX) ∧ t_X10_sweep_e u x1 x2 (fun q0 q1 q2 q3 => ∃ k : Nat, I46 k q0 q1 q2 q3) Q QX
set_option maxHeartbeats 4000000 in
set_option maxRecDepth 100000 in
theorem L_X10_sweep (l : Launch) (hlt : l.stackTraces = false) (dC : Nat → ClassId) (dI : Nat → Nat → Nat) (cI cJ cS : ClassId) (a : Nat → Nat) (u : zCls) (x1 : Int32) (x2 : Int32) (Q : Int32 → zCls → Prop) (QX : String → zCls → Prop) (I46 : Nat → Int32 → Int32 → Int32 → zCls → Prop) (h46 : ∀ (n : Nat) (y3 : Int32) (y4 : Int32) (y5 : Int32) (z : zCls), I46 n y3 y4 y5 z → t_X10_sweep_46 x1 x2 y3 y4 y5 z (fun q0 q1 q2 q3 => ∃ k : Nat, k < n ∧ I46 k q0 q1 q2 q3) Q QX) (hf : t_X10_sweep_e u x1 x2 (fun q0 q1 q2 q3 => ∃ k : Nat, I46 k q0 q1 q2 q3) Q QX) : ∀ sz : Nat, vx_Met l yX10_sweep (Cond.code yX10_sweep cX10_sweep 7 (some .int) :: zT) rm_X10_sweep (zPmF zFy dC dI cI cJ cS (cl_X10 cI cJ cS a u) [.ref (a 0), .int x1, .int x2] sz) (va_Qi Q (zB dC dI cI cJ cS (va_A (cl_X10 cI cJ cS a u) sz) (fun z => cl_X10 cI cJ cS a z)) (va_A (cl_X10 cI cJ cS a u) sz)) (zXc QX dC dI cI cJ cS (va_A (cl_X10 cI cJ cS a u) sz) (fun z => cl_X10 cI cJ cS a z)) 1 6 (va_A (cl_X10 cI cJ cS a u) sz) := by
  intro sz
  refine z_enterX (Qc := fun A => va_Qi Q (zB dC dI cI cJ cS A (fun z => cl_X10 cI cJ cS a z)) A) (XC := fun A => zXc QX dC dI cI cJ cS A (fun z => cl_X10 cI cJ cS a z)) (cc := cX10_sweep) (maxL := 7) (ret := (some .int)) (by decide) (Nat.le_of_ble_eq_true rfl) ?_
  intro p e s m below meth c ls A X htb hP hD hS hA hF hl
  obtain ⟨⟨hx, hb, hml, hown, hts⟩, hr, hlk, hK⟩ := id X
  have hl : lv_has ls 7 [(0, .ref (a 0)), (1, .int x1), (2, .int x2)] := hl
  have LP : ∀ n : Nat, (∀ (y3 : Int32) (y4 : Int32) (y5 : Int32) (z : zCls) (H : Heap) (locs : List Loc) (ls : Array Slot), I46 n y3 y4 y5 z → va_P (dC, dI) vwCl (cl_X10 cI cJ cS a z) H → va_D A (cl_X10 cI cJ cS a z) → va_S A s.heap H locs → lv_has ls 7 [(0, .ref (a 0)), (1, .int x1), (2, .int x2), (3, .int y3), (4, .int y4), (5, .int y5)] → W p l e rm_X10_sweep s m [.ref (a 0), .int x1, .int x2].toArray below meth c H locs 1 6 (vx_MQ below (va_Qi Q (zB dC dI cI cJ cS A (fun z => cl_X10 cI cJ cS a z)) A) (zXc QX dC dI cI cJ cS A (fun z => cl_X10 cI cJ cS a z)) [.ref (a 0), .int x1, .int x2].toArray s 1 6 A) (F0 m 46 ls [])) := by
    intro n
    induction n using Nat.strongRecOn with
    | _ n ih =>
      intro y3 y4 y5 z H locs ls hI hP hD hS hl
      have hf := h46 n y3 y4 y5 z hI
      unfold t_X10_sweep_46 at hf
      refine lv_iload hx hb dX10_sweep_46 (lv_at hl 5 rfl) ?_
      refine lv_iload_n hx hb dX10_sweep_48 rfl (lv_at hl 1 rfl) ?_
      refine lv_icmp_ge (tgt := 132) hx hb dX10_sweep_49 (by decide) (fun c_8 => ?_) (fun c_8 => ?_)
      · have hf := hf.1 c_8
        refine lv_iload_n hx hb dX10_sweep_132 rfl (lv_at hl 2 rfl) ?_
        by_cases c_9 : x2 = (0 : Int32)
        · have hf := hf.1 c_9
          refine lv_lookup (off := 27) (tgt := 160) hx hb dX10_sweep_133 (by decide) (by rw [c_9]; decide) (by decide) ?_
          refine lv_iload_n hx hb dX10_sweep_160 rfl (lv_at hl 3 rfl) ?_
          exact vx_ret (W.widen (k := 1) (n := 6) (Nat.le_of_ble_eq_true rfl) (Nat.le_of_ble_eq_true rfl) (z_retMi (Wf := (fun z => cl_X10 cI cJ cS a z)) (u := z) X hf hP hD hS dX10_sweep_161))
        have hf := hf.2 c_9
        by_cases c_10 : x2 = (1 : Int32)
        · have hf := hf.1 c_10
          refine lv_lookup (off := 29) (tgt := 162) hx hb dX10_sweep_133 (by decide) (by rw [c_10]; decide) (by decide) ?_
          refine lv_aload_n hx hb dX10_sweep_162 rfl (lv_at hl 0 rfl) ?_
          refine va_get (D := (dC, dI)) (ci := 9) (v := .ref (a 16)) (C := RX10) (T := TX10) (N := 9) hx hb hts inX10 hown hK hP 0 rfl rfl 1 (by decide) (hts _ q_fl_X10_16) (fun _ h9 => h9) rfl dX10_sweep_163 ?_
          refine z_cVi (As := []) (rest := []) X (c_X5_spare l dC dI cI cJ cS (fun i => a (16 + i)) z.2.1  _ hf) zc_X5_spare q_ml_X10_291 ⟨rfl, rfl⟩ ⟨Nat.le_of_ble_eq_true rfl, Nat.le_of_ble_eq_true rfl⟩ hP [16, 17, 18, 19, 20, 21, 22, 23, 24, 25, 26, 27, 28, 29, 30] rfl 4 rfl rfl hl.1 rfl rfl (Nat.le_of_ble_eq_true rfl) ⟨Nat.le_of_ble_eq_true rfl, Nat.le_of_ble_eq_true rfl⟩ dX10_sweep_166 (fun r_11 hf => ?_)
          exact vx_ret (W.widen (k := 1) (n := 6) (Nat.le_of_ble_eq_true rfl) (Nat.le_of_ble_eq_true rfl) (z_retMi (Wf := (fun z => cl_X10 cI cJ cS a z)) (u := z) X hf hP hD hS dX10_sweep_169))
        have hf := hf.2 c_10
        refine lv_lookup (off := 37) (tgt := 170) hx hb dX10_sweep_133 (by decide) (z_look2 (fun h => c_9 (Int32.toInt_inj.mp (show x2.toInt = (0 : Int32).toInt from h))) (fun h => c_10 (Int32.toInt_inj.mp (show x2.toInt = (1 : Int32).toInt from h)))) (by decide) ?_
        refine lv_aload_n hx hb dX10_sweep_170 rfl (lv_at hl 0 rfl) ?_
        refine va_get (D := (dC, dI)) (ci := 9) (v := .ref (a 16)) (C := RX10) (T := TX10) (N := 9) hx hb hts inX10 hown hK hP 0 rfl rfl 1 (by decide) (hts _ q_fl_X10_16) (fun _ h9 => h9) rfl dX10_sweep_171 ?_
        refine z_cVi (As := []) (rest := []) X (c_X5_liveInHundredths l dC dI cI cJ cS (fun i => a (16 + i)) z.2.1  _ hf) zc_X5_liveInHundredths q_ml_X10_311 ⟨rfl, rfl⟩ ⟨Nat.le_of_ble_eq_true rfl, Nat.le_of_ble_eq_true rfl⟩ hP [16, 17, 18, 19, 20, 21, 22, 23, 24, 25, 26, 27, 28, 29, 30] rfl 4 rfl rfl hl.1 rfl rfl (Nat.le_of_ble_eq_true rfl) ⟨Nat.le_of_ble_eq_true rfl, Nat.le_of_ble_eq_true rfl⟩ dX10_sweep_174 (fun r_12 hf => ?_)
        exact vx_ret (W.widen (k := 1) (n := 6) (Nat.le_of_ble_eq_true rfl) (Nat.le_of_ble_eq_true rfl) (z_retMi (Wf := (fun z => cl_X10 cI cJ cS a z)) (u := z) X hf hP hD hS dX10_sweep_177))
      · have hf := hf.2 c_8
        refine lv_iload hx hb dX10_sweep_52 (lv_at hl 4 rfl) ?_
        refine lv_if_eq (tgt := 132) hx hb dX10_sweep_54 (by decide) (fun c_13 => ?_) (fun c_13 => ?_)
        · have hf := hf.1 c_13
          refine lv_iload_n hx hb dX10_sweep_132 rfl (lv_at hl 2 rfl) ?_
          by_cases c_14 : x2 = (0 : Int32)
          · have hf := hf.1 c_14
            refine lv_lookup (off := 27) (tgt := 160) hx hb dX10_sweep_133 (by decide) (by rw [c_14]; decide) (by decide) ?_
            refine lv_iload_n hx hb dX10_sweep_160 rfl (lv_at hl 3 rfl) ?_
            exact vx_ret (W.widen (k := 1) (n := 6) (Nat.le_of_ble_eq_true rfl) (Nat.le_of_ble_eq_true rfl) (z_retMi (Wf := (fun z => cl_X10 cI cJ cS a z)) (u := z) X hf hP hD hS dX10_sweep_161))
          have hf := hf.2 c_14
          by_cases c_15 : x2 = (1 : Int32)
          · have hf := hf.1 c_15
            refine lv_lookup (off := 29) (tgt := 162) hx hb dX10_sweep_133 (by decide) (by rw [c_15]; decide) (by decide) ?_
            refine lv_aload_n hx hb dX10_sweep_162 rfl (lv_at hl 0 rfl) ?_
            refine va_get (D := (dC, dI)) (ci := 9) (v := .ref (a 16)) (C := RX10) (T := TX10) (N := 9) hx hb hts inX10 hown hK hP 0 rfl rfl 1 (by decide) (hts _ q_fl_X10_16) (fun _ h9 => h9) rfl dX10_sweep_163 ?_
            refine z_cVi (As := []) (rest := []) X (c_X5_spare l dC dI cI cJ cS (fun i => a (16 + i)) z.2.1  _ hf) zc_X5_spare q_ml_X10_291 ⟨rfl, rfl⟩ ⟨Nat.le_of_ble_eq_true rfl, Nat.le_of_ble_eq_true rfl⟩ hP [16, 17, 18, 19, 20, 21, 22, 23, 24, 25, 26, 27, 28, 29, 30] rfl 4 rfl rfl hl.1 rfl rfl (Nat.le_of_ble_eq_true rfl) ⟨Nat.le_of_ble_eq_true rfl, Nat.le_of_ble_eq_true rfl⟩ dX10_sweep_166 (fun r_16 hf => ?_)
            exact vx_ret (W.widen (k := 1) (n := 6) (Nat.le_of_ble_eq_true rfl) (Nat.le_of_ble_eq_true rfl) (z_retMi (Wf := (fun z => cl_X10 cI cJ cS a z)) (u := z) X hf hP hD hS dX10_sweep_169))
          have hf := hf.2 c_15
          refine lv_lookup (off := 37) (tgt := 170) hx hb dX10_sweep_133 (by decide) (z_look2 (fun h => c_14 (Int32.toInt_inj.mp (show x2.toInt = (0 : Int32).toInt from h))) (fun h => c_15 (Int32.toInt_inj.mp (show x2.toInt = (1 : Int32).toInt from h)))) (by decide) ?_
          refine lv_aload_n hx hb dX10_sweep_170 rfl (lv_at hl 0 rfl) ?_
          refine va_get (D := (dC, dI)) (ci := 9) (v := .ref (a 16)) (C := RX10) (T := TX10) (N := 9) hx hb hts inX10 hown hK hP 0 rfl rfl 1 (by decide) (hts _ q_fl_X10_16) (fun _ h9 => h9) rfl dX10_sweep_171 ?_
          refine z_cVi (As := []) (rest := []) X (c_X5_liveInHundredths l dC dI cI cJ cS (fun i => a (16 + i)) z.2.1  _ hf) zc_X5_liveInHundredths q_ml_X10_311 ⟨rfl, rfl⟩ ⟨Nat.le_of_ble_eq_true rfl, Nat.le_of_ble_eq_true rfl⟩ hP [16, 17, 18, 19, 20, 21, 22, 23, 24, 25, 26, 27, 28, 29, 30] rfl 4 rfl rfl hl.1 rfl rfl (Nat.le_of_ble_eq_true rfl) ⟨Nat.le_of_ble_eq_true rfl, Nat.le_of_ble_eq_true rfl⟩ dX10_sweep_174 (fun r_17 hf => ?_)
          exact vx_ret (W.widen (k := 1) (n := 6) (Nat.le_of_ble_eq_true rfl) (Nat.le_of_ble_eq_true rfl) (z_retMi (Wf := (fun z => cl_X10 cI cJ cS a z)) (u := z) X hf hP hD hS dX10_sweep_177))
        · have hf := hf.2 c_13
          refine lv_aload_n hx hb dX10_sweep_57 rfl (lv_at hl 0 rfl) ?_
          refine va_get (D := (dC, dI)) (ci := 9) (v := .ref (a 16)) (C := RX10) (T := TX10) (N := 9) hx hb hts inX10 hown hK hP 0 rfl rfl 1 (by decide) (hts _ q_fl_X10_16) (fun _ h9 => h9) rfl dX10_sweep_58 ?_
          refine va_get (D := (dC, dI)) (ci := 4) (v := .ref (a 27)) (C := RX5) (T := TX5) (N := 9) hx hb hts inX5 hown hK hP 16 rfl rfl 4 (by decide) (hts _ q_fl_X10_299) (fun _ h9 => h9) rfl dX10_sweep_61 ?_
          refine z_pVv (Wn := (fun u_19 => cl_X10 cI cJ cS a (z.1, (z.2.1.1, z.2.1.2.1, z.2.1.2.2.1, z.2.1.2.2.2.1, u_19, z.2.1.2.2.2.2.2.1, z.2.1.2.2.2.2.2.2.1, z.2.1.2.2.2.2.2.2.2.1, z.2.1.2.2.2.2.2.2.2.2), z.2.2))) (As := []) (rest := []) (wr := rr_X10_c cI cJ cS a z) X (c_X1_stop l dC dI cI cJ cS (fun i => a (27 + i)) z.2.1.2.2.2.2.1  _ hf _) zc_X1_stop q_ml_X10_303 ⟨rfl, rfl⟩ ⟨Nat.le_of_ble_eq_true rfl, Nat.le_of_ble_eq_true rfl⟩ hP hD hS hA (pm_X10_c cI cJ cS a z) (fun u_19 => pm_X10_c cI cJ cS a (z.1, (z.2.1.1, z.2.1.2.1, z.2.1.2.2.1, z.2.1.2.2.2.1, u_19, z.2.1.2.2.2.2.2.1, z.2.1.2.2.2.2.2.2.1, z.2.1.2.2.2.2.2.2.2.1, z.2.1.2.2.2.2.2.2.2.2), z.2.2)) 0 rfl rfl hl.1 rfl rfl (Nat.le_of_ble_eq_true rfl) ⟨Nat.le_of_ble_eq_true rfl, Nat.le_of_ble_eq_true rfl⟩ dX10_sweep_64 (fun u_19 H locs hf hP hD hS => ?_)
          refine lv_aload_n hx hb dX10_sweep_67 rfl (lv_at hl 0 rfl) ?_
          refine va_get (D := (dC, dI)) (ci := 9) (v := .ref (a 16)) (C := RX10) (T := TX10) (N := 9) hx hb hts inX10 hown hK hP 0 rfl rfl 1 (by decide) (hts _ q_fl_X10_16) (fun _ h9 => h9) rfl dX10_sweep_68 ?_
          refine z_cVi (As := []) (rest := []) X (c_X5_poorest l dC dI cI cJ cS (fun i => a (16 + i)) (z.2.1.1, z.2.1.2.1, z.2.1.2.2.1, z.2.1.2.2.2.1, u_19, z.2.1.2.2.2.2.2.1, z.2.1.2.2.2.2.2.2.1, z.2.1.2.2.2.2.2.2.2.1, z.2.1.2.2.2.2.2.2.2.2)  _ hf) zc_X5_poorest q_ml_X10_308 ⟨rfl, rfl⟩ ⟨Nat.le_of_ble_eq_true rfl, Nat.le_of_ble_eq_true rfl⟩ hP [16, 17, 18, 19, 20, 21, 22, 23, 24, 25, 26, 27, 28, 29, 30] rfl 4 rfl rfl hl.1 rfl rfl (Nat.le_of_ble_eq_true rfl) ⟨Nat.le_of_ble_eq_true rfl, Nat.le_of_ble_eq_true rfl⟩ dX10_sweep_71 (fun r_20 hf => ?_)
          refine lv_istore (lv' := [(6, .int r_20), (0, .ref (a 0)), (1, .int x1), (2, .int x2), (3, .int y3), (4, .int y4), (5, .int y5)]) hx hb dX10_sweep_74 hl (by decide) rfl (fun ls hl => ?_)
          refine lv_iload hx hb dX10_sweep_76 (lv_at hl 0 rfl) ?_
          refine lv_iconst (v := (-1)) hx hb dX10_sweep_78 (by decide) ?_
          refine lv_icmp_eq (tgt := 86) hx hb dX10_sweep_79 (by decide) (fun c_21 => ?_) (fun c_21 => ?_)
          · have hf := hf.1 c_21
            refine lv_iconst (v := 0) hx hb dX10_sweep_86 (by decide) ?_
            refine lv_istore (lv' := [(4, .int (0 : Int32)), (6, .int r_20), (0, .ref (a 0)), (1, .int x1), (2, .int x2), (3, .int y3), (5, .int y5)]) hx hb dX10_sweep_87 hl (by decide) rfl (fun ls hl => ?_)
            refine lv_iload hx hb dX10_sweep_89 (lv_at hl 0 rfl) ?_
            refine lv_if_eq (tgt := 126) hx hb dX10_sweep_91 (by decide) (fun c_22 => ?_) (fun c_22 => ?_)
            · have hf := hf.1 c_22
              obtain ⟨x_23, ex_23⟩ : ∃ y : Int32, y = y5 + (1 : Int32) := ⟨_, rfl⟩
              have hf := hf x_23 ex_23
              refine lv_iinc (v := x_23) (lv' := [(5, .int x_23), (4, .int (0 : Int32)), (6, .int r_20), (0, .ref (a 0)), (1, .int x1), (2, .int x2), (3, .int y3)]) hx hb dX10_sweep_126 hl (k := 6) rfl (by rw [ex_23]; rfl) (by decide) rfl (fun ls hl => ?_)
              refine lv_goto (tgt := 46) hx hb dX10_sweep_129 (by decide) ?_
              obtain ⟨k_24, hk_24, hf⟩ := hf
              exact (ih k_24 hk_24) _ _ _ (z.1, (z.2.1.1, z.2.1.2.1, z.2.1.2.2.1, z.2.1.2.2.2.1, u_19, z.2.1.2.2.2.2.2.1, z.2.1.2.2.2.2.2.2.1, z.2.1.2.2.2.2.2.2.2.1, z.2.1.2.2.2.2.2.2.2.2), z.2.2) _ _ ls hf hP hD hS (lv_sub hl [3, 4, 5, 6, 1, 0] rfl)
            · have hf := hf.2 c_22
              refine lv_aload_n hx hb dX10_sweep_94 rfl (lv_at hl 2 rfl) ?_
              refine va_get (D := (dC, dI)) (ci := 9) (v := .ref (a 16)) (C := RX10) (T := TX10) (N := 9) hx hb hts inX10 hown hK hP 0 rfl rfl 1 (by decide) (hts _ q_fl_X10_16) (fun _ h9 => h9) rfl dX10_sweep_95 ?_
              refine lv_iload hx hb dX10_sweep_98 (lv_at hl 1 rfl) ?_
              refine z_pVi (Wn := (fun u_26 => cl_X10 cI cJ cS a (z.1, u_26, z.2.2))) (As := [.int r_20]) (rest := []) (wr := rr_X10_p cI cJ cS a (z.1, (z.2.1.1, z.2.1.2.1, z.2.1.2.2.1, z.2.1.2.2.2.1, u_19, z.2.1.2.2.2.2.2.1, z.2.1.2.2.2.2.2.2.1, z.2.1.2.2.2.2.2.2.2.1, z.2.1.2.2.2.2.2.2.2.2), z.2.2)) X (c_X5_noteLive l dC dI cI cJ cS (fun i => a (16 + i)) (z.2.1.1, z.2.1.2.1, z.2.1.2.2.1, z.2.1.2.2.2.1, u_19, z.2.1.2.2.2.2.2.1, z.2.1.2.2.2.2.2.2.1, z.2.1.2.2.2.2.2.2.2.1, z.2.1.2.2.2.2.2.2.2.2) r_20 _ hf _) zc_X5_noteLive q_ml_X10_275 ⟨rfl, rfl⟩ ⟨Nat.le_of_ble_eq_true rfl, Nat.le_of_ble_eq_true rfl⟩ hP hD hS hA (pm_X10_p cI cJ cS a (z.1, (z.2.1.1, z.2.1.2.1, z.2.1.2.2.1, z.2.1.2.2.2.1, u_19, z.2.1.2.2.2.2.2.1, z.2.1.2.2.2.2.2.2.1, z.2.1.2.2.2.2.2.2.2.1, z.2.1.2.2.2.2.2.2.2.2), z.2.2)) (fun u_26 => pm_X10_p cI cJ cS a (z.1, u_26, z.2.2)) 4 rfl rfl hl.1 rfl rfl (Nat.le_of_ble_eq_true rfl) ⟨Nat.le_of_ble_eq_true rfl, Nat.le_of_ble_eq_true rfl⟩ dX10_sweep_100 (fun r_25 u_26 H locs hf hP hD hS => ?_)
              refine lv_pop hx hb dX10_sweep_103 rfl ?_
              refine lv_aload_n hx hb dX10_sweep_104 rfl (lv_at hl 2 rfl) ?_
              refine va_get (D := (dC, dI)) (ci := 9) (v := .ref (a 16)) (C := RX10) (T := TX10) (N := 9) hx hb hts inX10 hown hK hP 0 rfl rfl 1 (by decide) (hts _ q_fl_X10_16) (fun _ h9 => h9) rfl dX10_sweep_105 ?_
              refine z_pVi (Wn := (fun u_28 => cl_X10 cI cJ cS a (z.1, u_28, z.2.2))) (As := []) (rest := []) (wr := rr_X10_p cI cJ cS a (z.1, u_26, z.2.2)) X (c_X5_collectAll l dC dI cI cJ cS (fun i => a (16 + i)) u_26  _ hf _) zc_X5_collectAll q_ml_X10_278 ⟨rfl, rfl⟩ ⟨Nat.le_of_ble_eq_true rfl, Nat.le_of_ble_eq_true rfl⟩ hP hD hS hA (pm_X10_p cI cJ cS a (z.1, u_26, z.2.2)) (fun u_28 => pm_X10_p cI cJ cS a (z.1, u_28, z.2.2)) 4 rfl rfl hl.1 rfl rfl (Nat.le_of_ble_eq_true rfl) ⟨Nat.le_of_ble_eq_true rfl, Nat.le_of_ble_eq_true rfl⟩ dX10_sweep_108 (fun r_27 u_28 H locs hf hP hD hS => ?_)
              obtain ⟨hbr_27, hf⟩ := hf
              refine lv_istore (lv' := [(4, .int r_27), (6, .int r_20), (0, .ref (a 0)), (1, .int x1), (2, .int x2), (3, .int y3), (5, .int y5)]) hx hb dX10_sweep_111 hl (by decide) rfl (fun ls hl => ?_)
              refine lv_iload_n hx hb dX10_sweep_113 rfl (lv_at hl 5 rfl) ?_
              refine lv_iload hx hb dX10_sweep_114 (lv_at hl 0 rfl) ?_
              refine lv_if_eq (tgt := 123) hx hb dX10_sweep_116 (by decide) (fun c_29 => ?_) (fun c_29 => ?_)
              · have hf := hf.1 c_29
                refine lv_iconst (v := 0) hx hb dX10_sweep_123 (by decide) ?_
                refine lv_iadd hx hb dX10_sweep_124 ?_
                refine lv_topi (fun x_30 ex_30 => ?_)
                have hf := hf x_30 ex_30
                refine lv_istore_n (lv' := [(3, .int x_30), (4, .int r_27), (6, .int r_20), (0, .ref (a 0)), (1, .int x1), (2, .int x2), (5, .int y5)]) hx hb dX10_sweep_125 rfl hl (by decide) rfl (fun ls hl => ?_)
                obtain ⟨x_31, ex_31⟩ : ∃ y : Int32, y = y5 + (1 : Int32) := ⟨_, rfl⟩
                have hf := hf x_31 ex_31
                refine lv_iinc (v := x_31) (lv' := [(5, .int x_31), (3, .int x_30), (4, .int r_27), (6, .int r_20), (0, .ref (a 0)), (1, .int x1), (2, .int x2)]) hx hb dX10_sweep_126 hl (k := 6) rfl (by rw [ex_31]; rfl) (by decide) rfl (fun ls hl => ?_)
                refine lv_goto (tgt := 46) hx hb dX10_sweep_129 (by decide) ?_
                obtain ⟨k_32, hk_32, hf⟩ := hf
                exact (ih k_32 hk_32) _ _ _ (z.1, u_28, z.2.2) _ _ ls hf hP hD hS (lv_sub hl [4, 5, 6, 1, 2, 0] rfl)
              · have hf := hf.2 c_29
                refine lv_iconst (v := 1) hx hb dX10_sweep_119 (by decide) ?_
                refine lv_goto (tgt := 124) hx hb dX10_sweep_120 (by decide) ?_
                refine lv_iadd hx hb dX10_sweep_124 ?_
                refine lv_topi (fun x_33 ex_33 => ?_)
                have hf := hf x_33 ex_33
                refine lv_istore_n (lv' := [(3, .int x_33), (4, .int r_27), (6, .int r_20), (0, .ref (a 0)), (1, .int x1), (2, .int x2), (5, .int y5)]) hx hb dX10_sweep_125 rfl hl (by decide) rfl (fun ls hl => ?_)
                obtain ⟨x_34, ex_34⟩ : ∃ y : Int32, y = y5 + (1 : Int32) := ⟨_, rfl⟩
                have hf := hf x_34 ex_34
                refine lv_iinc (v := x_34) (lv' := [(5, .int x_34), (3, .int x_33), (4, .int r_27), (6, .int r_20), (0, .ref (a 0)), (1, .int x1), (2, .int x2)]) hx hb dX10_sweep_126 hl (k := 6) rfl (by rw [ex_34]; rfl) (by decide) rfl (fun ls hl => ?_)
                refine lv_goto (tgt := 46) hx hb dX10_sweep_129 (by decide) ?_
                obtain ⟨k_35, hk_35, hf⟩ := hf
                exact (ih k_35 hk_35) _ _ _ (z.1, u_28, z.2.2) _ _ ls hf hP hD hS (lv_sub hl [4, 5, 6, 1, 2, 0] rfl)
          · have hf := hf.2 c_21
            refine lv_iconst (v := 1) hx hb dX10_sweep_82 (by decide) ?_
            refine lv_goto (tgt := 87) hx hb dX10_sweep_83 (by decide) ?_
            refine lv_istore (lv' := [(4, .int (1 : Int32)), (6, .int r_20), (0, .ref (a 0)), (1, .int x1), (2, .int x2), (3, .int y3), (5, .int y5)]) hx hb dX10_sweep_87 hl (by decide) rfl (fun ls hl => ?_)
            refine lv_iload hx hb dX10_sweep_89 (lv_at hl 0 rfl) ?_
            refine lv_if_eq (tgt := 126) hx hb dX10_sweep_91 (by decide) (fun c_36 => ?_) (fun c_36 => ?_)
            · have hf := hf.1 c_36
              obtain ⟨x_37, ex_37⟩ : ∃ y : Int32, y = y5 + (1 : Int32) := ⟨_, rfl⟩
              have hf := hf x_37 ex_37
              refine lv_iinc (v := x_37) (lv' := [(5, .int x_37), (4, .int (1 : Int32)), (6, .int r_20), (0, .ref (a 0)), (1, .int x1), (2, .int x2), (3, .int y3)]) hx hb dX10_sweep_126 hl (k := 6) rfl (by rw [ex_37]; rfl) (by decide) rfl (fun ls hl => ?_)
              refine lv_goto (tgt := 46) hx hb dX10_sweep_129 (by decide) ?_
              obtain ⟨k_38, hk_38, hf⟩ := hf
              exact (ih k_38 hk_38) _ _ _ (z.1, (z.2.1.1, z.2.1.2.1, z.2.1.2.2.1, z.2.1.2.2.2.1, u_19, z.2.1.2.2.2.2.2.1, z.2.1.2.2.2.2.2.2.1, z.2.1.2.2.2.2.2.2.2.1, z.2.1.2.2.2.2.2.2.2.2), z.2.2) _ _ ls hf hP hD hS (lv_sub hl [3, 4, 5, 6, 1, 0] rfl)
            · have hf := hf.2 c_36
              refine lv_aload_n hx hb dX10_sweep_94 rfl (lv_at hl 2 rfl) ?_
              refine va_get (D := (dC, dI)) (ci := 9) (v := .ref (a 16)) (C := RX10) (T := TX10) (N := 9) hx hb hts inX10 hown hK hP 0 rfl rfl 1 (by decide) (hts _ q_fl_X10_16) (fun _ h9 => h9) rfl dX10_sweep_95 ?_
              refine lv_iload hx hb dX10_sweep_98 (lv_at hl 1 rfl) ?_
              refine z_pVi (Wn := (fun u_40 => cl_X10 cI cJ cS a (z.1, u_40, z.2.2))) (As := [.int r_20]) (rest := []) (wr := rr_X10_p cI cJ cS a (z.1, (z.2.1.1, z.2.1.2.1, z.2.1.2.2.1, z.2.1.2.2.2.1, u_19, z.2.1.2.2.2.2.2.1, z.2.1.2.2.2.2.2.2.1, z.2.1.2.2.2.2.2.2.2.1, z.2.1.2.2.2.2.2.2.2.2), z.2.2)) X (c_X5_noteLive l dC dI cI cJ cS (fun i => a (16 + i)) (z.2.1.1, z.2.1.2.1, z.2.1.2.2.1, z.2.1.2.2.2.1, u_19, z.2.1.2.2.2.2.2.1, z.2.1.2.2.2.2.2.2.1, z.2.1.2.2.2.2.2.2.2.1, z.2.1.2.2.2.2.2.2.2.2) r_20 _ hf _) zc_X5_noteLive q_ml_X10_275 ⟨rfl, rfl⟩ ⟨Nat.le_of_ble_eq_true rfl, Nat.le_of_ble_eq_true rfl⟩ hP hD hS hA (pm_X10_p cI cJ cS a (z.1, (z.2.1.1, z.2.1.2.1, z.2.1.2.2.1, z.2.1.2.2.2.1, u_19, z.2.1.2.2.2.2.2.1, z.2.1.2.2.2.2.2.2.1, z.2.1.2.2.2.2.2.2.2.1, z.2.1.2.2.2.2.2.2.2.2), z.2.2)) (fun u_40 => pm_X10_p cI cJ cS a (z.1, u_40, z.2.2)) 4 rfl rfl hl.1 rfl rfl (Nat.le_of_ble_eq_true rfl) ⟨Nat.le_of_ble_eq_true rfl, Nat.le_of_ble_eq_true rfl⟩ dX10_sweep_100 (fun r_39 u_40 H locs hf hP hD hS => ?_)
              refine lv_pop hx hb dX10_sweep_103 rfl ?_
              refine lv_aload_n hx hb dX10_sweep_104 rfl (lv_at hl 2 rfl) ?_
              refine va_get (D := (dC, dI)) (ci := 9) (v := .ref (a 16)) (C := RX10) (T := TX10) (N := 9) hx hb hts inX10 hown hK hP 0 rfl rfl 1 (by decide) (hts _ q_fl_X10_16) (fun _ h9 => h9) rfl dX10_sweep_105 ?_
              refine z_pVi (Wn := (fun u_42 => cl_X10 cI cJ cS a (z.1, u_42, z.2.2))) (As := []) (rest := []) (wr := rr_X10_p cI cJ cS a (z.1, u_40, z.2.2)) X (c_X5_collectAll l dC dI cI cJ cS (fun i => a (16 + i)) u_40  _ hf _) zc_X5_collectAll q_ml_X10_278 ⟨rfl, rfl⟩ ⟨Nat.le_of_ble_eq_true rfl, Nat.le_of_ble_eq_true rfl⟩ hP hD hS hA (pm_X10_p cI cJ cS a (z.1, u_40, z.2.2)) (fun u_42 => pm_X10_p cI cJ cS a (z.1, u_42, z.2.2)) 4 rfl rfl hl.1 rfl rfl (Nat.le_of_ble_eq_true rfl) ⟨Nat.le_of_ble_eq_true rfl, Nat.le_of_ble_eq_true rfl⟩ dX10_sweep_108 (fun r_41 u_42 H locs hf hP hD hS => ?_)
              obtain ⟨hbr_41, hf⟩ := hf
              refine lv_istore (lv' := [(4, .int r_41), (6, .int r_20), (0, .ref (a 0)), (1, .int x1), (2, .int x2), (3, .int y3), (5, .int y5)]) hx hb dX10_sweep_111 hl (by decide) rfl (fun ls hl => ?_)
              refine lv_iload_n hx hb dX10_sweep_113 rfl (lv_at hl 5 rfl) ?_
              refine lv_iload hx hb dX10_sweep_114 (lv_at hl 0 rfl) ?_
              refine lv_if_eq (tgt := 123) hx hb dX10_sweep_116 (by decide) (fun c_43 => ?_) (fun c_43 => ?_)
              · have hf := hf.1 c_43
                refine lv_iconst (v := 0) hx hb dX10_sweep_123 (by decide) ?_
                refine lv_iadd hx hb dX10_sweep_124 ?_
                refine lv_topi (fun x_44 ex_44 => ?_)
                have hf := hf x_44 ex_44
                refine lv_istore_n (lv' := [(3, .int x_44), (4, .int r_41), (6, .int r_20), (0, .ref (a 0)), (1, .int x1), (2, .int x2), (5, .int y5)]) hx hb dX10_sweep_125 rfl hl (by decide) rfl (fun ls hl => ?_)
                obtain ⟨x_45, ex_45⟩ : ∃ y : Int32, y = y5 + (1 : Int32) := ⟨_, rfl⟩
                have hf := hf x_45 ex_45
                refine lv_iinc (v := x_45) (lv' := [(5, .int x_45), (3, .int x_44), (4, .int r_41), (6, .int r_20), (0, .ref (a 0)), (1, .int x1), (2, .int x2)]) hx hb dX10_sweep_126 hl (k := 6) rfl (by rw [ex_45]; rfl) (by decide) rfl (fun ls hl => ?_)
                refine lv_goto (tgt := 46) hx hb dX10_sweep_129 (by decide) ?_
                obtain ⟨k_46, hk_46, hf⟩ := hf
                exact (ih k_46 hk_46) _ _ _ (z.1, u_42, z.2.2) _ _ ls hf hP hD hS (lv_sub hl [4, 5, 6, 1, 2, 0] rfl)
              · have hf := hf.2 c_43
                refine lv_iconst (v := 1) hx hb dX10_sweep_119 (by decide) ?_
                refine lv_goto (tgt := 124) hx hb dX10_sweep_120 (by decide) ?_
                refine lv_iadd hx hb dX10_sweep_124 ?_
                refine lv_topi (fun x_47 ex_47 => ?_)
                have hf := hf x_47 ex_47
                refine lv_istore_n (lv' := [(3, .int x_47), (4, .int r_41), (6, .int r_20), (0, .ref (a 0)), (1, .int x1), (2, .int x2), (5, .int y5)]) hx hb dX10_sweep_125 rfl hl (by decide) rfl (fun ls hl => ?_)
                obtain ⟨x_48, ex_48⟩ : ∃ y : Int32, y = y5 + (1 : Int32) := ⟨_, rfl⟩
                have hf := hf x_48 ex_48
                refine lv_iinc (v := x_48) (lv' := [(5, .int x_48), (3, .int x_47), (4, .int r_41), (6, .int r_20), (0, .ref (a 0)), (1, .int x1), (2, .int x2)]) hx hb dX10_sweep_126 hl (k := 6) rfl (by rw [ex_48]; rfl) (by decide) rfl (fun ls hl => ?_)
                refine lv_goto (tgt := 46) hx hb dX10_sweep_129 (by decide) ?_
                obtain ⟨k_49, hk_49, hf⟩ := hf
                exact (ih k_49 hk_49) _ _ _ (z.1, u_42, z.2.2) _ _ ls hf hP hD hS (lv_sub hl [4, 5, 6, 1, 2, 0] rfl)
  unfold t_X10_sweep_e at hf
  refine lv_iload_n hx hb dX10_sweep_0 rfl (lv_at hl 1 rfl) ?_
  refine lv_iconst (v := 1) hx hb dX10_sweep_1 (by decide) ?_
  refine lv_icmp_lt (tgt := 11) hx hb dX10_sweep_2 (by decide) (fun c_1 => ?_) (fun c_1 => ?_)
  · have hf := hf.1 c_1
    exact z_thrW (Wf := (fun z => cl_X10 cI cJ cS a z)) (u := u) 0 (by decide) 8 X hlt hF.2.2.2 htb hf hP hD hS hl.1 dX10_sweep_11 dX10_sweep_14 dX10_sweep_15 dX10_sweep_18 dX10_sweep_21 ⟨Nat.le_of_ble_eq_true rfl, Nat.le_of_ble_eq_true rfl⟩ ⟨Nat.le_of_ble_eq_true rfl, Nat.le_of_ble_eq_true rfl⟩ ⟨Nat.le_of_ble_eq_true rfl, Nat.le_of_ble_eq_true rfl⟩
  · have hf := hf.2 c_1
    refine lv_iload_n hx hb dX10_sweep_5 rfl (lv_at hl 1 rfl) ?_
    refine lv_bipush (v := 6) hx hb dX10_sweep_6 (by decide) ?_
    refine lv_icmp_le (tgt := 22) hx hb dX10_sweep_8 (by decide) (fun c_2 => ?_) (fun c_2 => ?_)
    · have hf := hf.1 c_2
      refine lv_iload_n hx hb dX10_sweep_22 rfl (lv_at hl 2 rfl) ?_
      refine lv_iconst (v := 2) hx hb dX10_sweep_23 (by decide) ?_
      refine z_xSvO (Wn := (fun u_4 => cl_X10 cI cJ cS a u)) (As := [.int x2, .int (2 : Int32)]) (rest := []) (wr := cl_X10 cI cJ cS a u) X fro_Fy hF (c_X10_lookAtWhat l hlt dC dI cI cJ cS   x2 (2 : Int32) _ _ hf _) zc_X10_lookAtWhat q_ml_X10_136 ⟨rfl, rfl⟩ ⟨Nat.le_of_ble_eq_true rfl, Nat.le_of_ble_eq_true rfl⟩ hP hD hS hA (pm_0 _) (fun _ => pm_0 _) (Wo := (fun z => cl_X10 cI cJ cS a z)) (fun u_4 => u) (fun _ => rfl) htb (fun _ _ h => h) ⟨Nat.le_of_ble_eq_true rfl, Nat.le_of_ble_eq_true rfl⟩ hl.1 rfl rfl (Nat.le_of_ble_eq_true rfl) ⟨Nat.le_of_ble_eq_true rfl, Nat.le_of_ble_eq_true rfl⟩ dX10_sweep_24 (fun u_4 H locs hf hP hD hS => ?_)
      refine lv_iconst (v := 0) hx hb dX10_sweep_27 (by decide) ?_
      refine lv_istore_n (lv' := [(3, .int (0 : Int32)), (0, .ref (a 0)), (1, .int x1), (2, .int x2)]) hx hb dX10_sweep_28 rfl hl (by decide) rfl (fun ls hl => ?_)
      refine lv_iconst (v := 1) hx hb dX10_sweep_29 (by decide) ?_
      refine lv_istore (lv' := [(4, .int (1 : Int32)), (3, .int (0 : Int32)), (0, .ref (a 0)), (1, .int x1), (2, .int x2)]) hx hb dX10_sweep_30 hl (by decide) rfl (fun ls hl => ?_)
      refine lv_aload_n hx hb dX10_sweep_32 rfl (lv_at hl 2 rfl) ?_
      refine va_get (D := (dC, dI)) (ci := 9) (v := .ref (a 16)) (C := RX10) (T := TX10) (N := 9) hx hb hts inX10 hown hK hP 0 rfl rfl 1 (by decide) (hts _ q_fl_X10_16) (fun _ h9 => h9) rfl dX10_sweep_33 ?_
      refine lv_aload_n hx hb dX10_sweep_36 rfl (lv_at hl 2 rfl) ?_
      refine va_get (D := (dC, dI)) (ci := 9) (v := .ref (a 1)) (C := RX10) (T := TX10) (N := 9) hx hb hts inX10 hown hK hP 0 rfl rfl 0 (by decide) (hts _ q_fl_X10_10) (fun _ h9 => h9) rfl dX10_sweep_37 ?_
      refine z_pVv (Wn := (fun u_6 => cl_X10 cI cJ cS a (u_6.2, u_6.1, u.2.2))) (As := [.ref (a 1)]) (rest := []) (wr := rr_X10_pn cI cJ cS a u) X (c_X5_copyFrom l dC dI cI cJ cS (fun i => a (16 + i)) (fun i => a (1 + i)) u.2.1 u.1  _ hf _) zc_X5_copyFrom q_ml_X10_55 ⟨rfl, rfl⟩ ⟨Nat.le_of_ble_eq_true rfl, Nat.le_of_ble_eq_true rfl⟩ hP hD hS hA (pm_X10_pn cI cJ cS a u) (fun u_6 => pm_X10_pn cI cJ cS a (u_6.2, u_6.1, u.2.2)) 4 rfl rfl hl.1 rfl rfl (Nat.le_of_ble_eq_true rfl) ⟨Nat.le_of_ble_eq_true rfl, Nat.le_of_ble_eq_true rfl⟩ dX10_sweep_40 (fun u_6 H locs hf hP hD hS => ?_)
      refine lv_iconst (v := 0) hx hb dX10_sweep_43 (by decide) ?_
      refine lv_istore (lv' := [(5, .int (0 : Int32)), (4, .int (1 : Int32)), (3, .int (0 : Int32)), (0, .ref (a 0)), (1, .int x1), (2, .int x2)]) hx hb dX10_sweep_44 hl (by decide) rfl (fun ls hl => ?_)
      obtain ⟨k_7, hf⟩ := hf
      exact (LP k_7) _ _ _ (u_6.2, u_6.1, u.2.2) _ _ ls hf hP hD hS (lv_sub hl [3, 4, 5, 2, 1, 0] rfl)
    · have hf := hf.2 c_2
      exact z_thrW (Wf := (fun z => cl_X10 cI cJ cS a z)) (u := u) 0 (by decide) 8 X hlt hF.2.2.2 htb hf hP hD hS hl.1 dX10_sweep_11 dX10_sweep_14 dX10_sweep_15 dX10_sweep_18 dX10_sweep_21 ⟨Nat.le_of_ble_eq_true rfl, Nat.le_of_ble_eq_true rfl⟩ ⟨Nat.le_of_ble_eq_true rfl, Nat.le_of_ble_eq_true rfl⟩ ⟨Nat.le_of_ble_eq_true rfl, Nat.le_of_ble_eq_true rfl⟩
theorem noteAll_of {B s : Nat} {w g : zState} {Q : Int32 → zState → Prop} (hw : okB B w) (hB : B + 51 ≤ 400000) (hs : s < 12) (hk : w.2.2.1.2.2.2.1 s = 2) (eg : uAllN 51 (uNote w s) = g) (h1 : g.2.2.2.2.1.2.1 = -1 → Q 1 g) (h0 : ¬ g.2.2.2.2.1.2.1 = -1 → Q 0 g) : s_X5_noteLive w (nI s) (fun _ u => s_X5_collectAll u Q) := by
  have ho := hw.ok
  obtain ⟨ρ, β, mo, lm, L, S, M, hP⟩ := hw
  subst eg
  exact ⟨ho, s, hs, rfl, ρ, β, mo, lm, L, S, M, B, zPr.note hP hs hk, hB, h1, h0⟩
theorem poor_of {w : zState} {x : Int32} {Q : Int32 → Prop} (ho : zOk w) (e : (uPoor w 12).1 = x) (h : Q x) : s_X5_poorest w Q := ⟨ho, by rw [e]; exact h⟩
def s_X10_sweep (u : zCls) (x1 : Int32) (x2 : Int32) (Q : Int32 → zCls → Prop) (QX : String → zCls → Prop) : Prop := cAsk u (fun v => fSweep v x1 x2) (exO 0 3 3) Q QX
theorem st_X10_sweep {u : zCls} {x1 x2 : Int32} {Q : Int32 → zCls → Prop} {QX : String → zCls → Prop} (h : s_X10_sweep u x1 x2 Q QX) : v_X10_sweep u x1 x2 Q QX := by
  obtain ⟨B, G, hG, hB, hc, hQ⟩ := h
  obtain ⟨v, ev⟩ : ∃ v, v = gNow G := ⟨_, rfl⟩
  rw [← ev] at hQ
  have hv : okB B v := by rw [ev]; exact hG.1
  have ho := hv.ok
  have c1 : u.1 = v := by rw [ev]; exact hc.1
  dsimp only at hQ
  unfold fSweep at hQ
  by_cases i1 : inR x1 1 6
  · by_cases i2 : inR x2 0 2
    · rw [if_pos i1, if_pos i2] at hQ
      obtain ⟨n, hn1, hn2, rfl, en⟩ := inR_n (a := 1) (b := 6) (by decide) (by decide) i1
      rw [en] at hQ
      have hQ : ∀ u' : zCls, cG G u' → Q (uSwA (swN n 0 v) x2) u' := fun u' h' => (hQ u' h').1 rfl
      have hcp : ∀ w : zState, cG G (v, w, u.2.2) := fun w => ⟨ev, hc.2⟩
      -- what is answered at the end
      have fin : ∀ (B' : Nat) (w w' : zState) (c : Nat), okB B' w' → (w' = w ∨ w' = uQuit w) → (c, w) = swN n 0 v → ((x2 = (0 : Int32) → Q (nI c) (v, w', u.2.2)) ∧ (¬ x2 = (0 : Int32) → ((x2 = (1 : Int32) → s_X5_spare w' (fun r_11 : Int32 => Q r_11 (v, w', u.2.2))) ∧ (¬ x2 = (1 : Int32) → s_X5_liveInHundredths w' (fun r_12 : Int32 => Q r_12 (v, w', u.2.2)))))) := by
        intro B' w w' c hw' hww hsw
        rw [← hsw] at hQ
        have hQ := hQ _ (hcp w')
        have e1 : uSpare w' = uSpare w := by rcases hww with q | q <;> rw [q] <;> rfl
        have e2 : l_sum (uLive w') 12 = l_sum (uLive w) 12 := by rcases hww with q | q <;> rw [q] <;> rfl
        have e3 : uAll w' = uAll w := by rcases hww with q | q <;> rw [q] <;> rfl
        obtain ⟨ρ, β, mo, lm, L, S, M, hP⟩ := id hw'
        unfold uSwA at hQ
        refine ⟨fun d => by rw [if_pos d] at hQ; exact hQ, fun d => ?_⟩
        rw [if_neg d] at hQ
        refine ⟨fun d => ⟨hw'.ok, by rw [if_pos d] at hQ; rw [e1]; exact hQ⟩, fun d => ⟨hw'.ok, all_pos hP, ?_⟩⟩
        rw [if_neg d] at hQ
        have e4 : uSpare w' + l_sum w'.2.2.1.2.2.1 12 = uAll w := e3
        rw [e4, e2]; exact hQ
      refine ⟨fun k y3 y4 y5 z => ∃ (i c B' : Nat) (w w' : zState), i ≤ n ∧ k = n - i ∧ y3 = nI c ∧ y5 = nI i ∧ okB B' w' ∧ B' + 51 * (n - i) ≤ 400000 ∧ z = (v, w', u.2.2) ∧ ((y4 = 1 ∧ w' = w ∧ swN (n - i) c w = swN n 0 v) ∨ (y4 = 0 ∧ (w' = w ∨ w' = uQuit w) ∧ (c, w) = swN n 0 v)), ?_, ?_⟩
      · rintro k y3 y4 y5 z ⟨i, c, B', w, w', hi, rfl, rfl, rfl, hw', hB', rfl, hsw⟩
        refine ⟨fun d => ?_, fun d => ⟨fun d2 => ?_, fun d2 => ?_⟩⟩
        · have hin : i = n := by
            have := (nI_leI (by omega) (by omega)).mp d
            omega
          rcases hsw with ⟨-, h2, h3⟩ | ⟨-, h2, h3⟩
          · rw [show n - i = 0 by omega] at h3
            exact fin B' w w' c hw' (Or.inl h2) h3
          · exact fin B' w w' c hw' h2 h3
        · rcases hsw with ⟨h1, -, -⟩ | ⟨-, h2, h3⟩
          · rw [h1] at d2; exact absurd d2 (by decide)
          · exact fin B' w w' c hw' h2 h3
        · have hin : i < n := by
            have : ¬ n ≤ i := fun q => d (nI_le q (by omega))
            omega
          rcases hsw with ⟨rfl, rfl, h3⟩ | ⟨h1, -, -⟩
          · obtain ⟨m, em⟩ : ∃ m, n - i = m + 1 := ⟨n - i - 1, by omega⟩
            rw [em] at h3 hB'
            have h3 : (if (uPoor w' 12).1 = -1 then (c, w') else if (uGo w' (uPoor w' 12).1.toNatClampNeg).2.2.2.2.1.2.1 = -1 then swN m (c + 1) (uGo w' (uPoor w' 12).1.toNatClampNeg) else (c, uGo w' (uPoor w' 12).1.toNatClampNeg)) = swN n 0 v := h3
            have hq : okB B' (uQuit w') := hw'.quit
            have epq : (uPoor (uQuit w') 12).1 = (uPoor w' 12).1 := by rw [uPoor_quit]
            unfold s_X1_stop s_X1_start
            refine poor_of (w := uQuit w') hq.ok epq ?_
            refine ⟨fun d3 => ⟨fun _ x ex => ?_, fun q => absurd rfl q⟩, fun d3 => ⟨fun q => absurd q (by decide), fun _ => ?_⟩⟩
            · rw [if_pos d3] at h3
              exact ⟨n - (i + 1), by omega, i + 1, c, B', w', uQuit w', hin, rfl, rfl, by rw [ex, nI_1], hq, by omega, rfl, Or.inr ⟨rfl, Or.inr rfl, h3⟩⟩
            · obtain ⟨s, hs, e1, -⟩ := (uPoor_ok w' 12 (Nat.le_refl _)).resolve_left d3
              have hseal := uPoor_seal w' 12 (Nat.le_refl _) s hs e1
              rw [if_neg d3, e1, nI_clamp (by omega)] at h3
              rw [e1]
              have hgo := hw'.go (by omega) hs hseal
              have eg : uAllN 51 (uNote (uQuit w') s) = uGo w' s := uGo_quit w' s
              refine noteAll_of (w := uQuit w') hq (by omega) hs hseal eg (fun d4 => ?_) (fun d4 => ?_)
              · rw [if_pos d4] at h3
                exact ⟨fun q => absurd q (by decide), fun _ x ex y ey => ⟨n - (i + 1), by omega, i + 1, c + 1, B' + 51, uGo w' s, uGo w' s, hin, rfl, by rw [ex, nI_1], by rw [ey, nI_1], hgo, by omega, rfl, Or.inl ⟨rfl, rfl, by rw [show n - (i + 1) = m by omega]; exact h3⟩⟩⟩
              · rw [if_neg d4] at h3
                exact ⟨fun _ x ex y ey => ⟨n - (i + 1), by omega, i + 1, c, B' + 51, uGo w' s, uGo w' s, hin, rfl, by rw [ex]; exact Int32.add_zero _, by rw [ey, nI_1], hgo, by omega, rfl, Or.inr ⟨rfl, Or.inl rfl, h3⟩⟩, fun q => absurd rfl q⟩
          · rw [h1] at d2; exact absurd rfl d2
      · refine ⟨fun d => absurd d i1.1, fun _ => ⟨fun _ => lookWhat_of (fun _ => ?_) (fun q => absurd i2 q), fun d => absurd (nI_le (a := n) (b := 6) hn2 (by decide)) d⟩⟩
        refine ⟨n - 0, 0, 0, B, v, v, by omega, rfl, rfl, rfl, hv, by omega, ?_, Or.inl ⟨rfl, rfl, rfl⟩⟩
        show (u.1, u.1, u.2.2) = _
        rw [c1]
    · rw [if_pos i1, if_neg i2] at hQ
      refine ⟨fun _ _ _ _ _ => False, fun _ _ _ _ _ q => q.elim, fun d => absurd d i1.1, fun _ => ⟨fun _ => lookWhat_of (fun q => absurd q i2) (fun _ => (hQ u hc).2 (show ¬ (2 : Int32) = 0 by decide)), fun d => ?_⟩⟩
      obtain ⟨n, hn1, hn2, rfl, en⟩ := inR_n (a := 1) (b := 6) (by decide) (by decide) i1
      exact absurd (nI_le (a := n) (b := 6) hn2 (by decide)) d
  · rw [if_neg i1] at hQ
    have no := (hQ u hc).2 (show ¬ (1 : Int32) = 0 by decide)
    refine ⟨fun _ _ _ _ _ => False, fun _ _ _ _ _ q => q.elim, fun _ => no, fun d => ⟨fun d2 => ?_, fun _ => no⟩⟩
    refine absurd ⟨d, fun q => ?_⟩ i1
    rw [fa_lt] at q
    have d2 := Int32.le_iff_toInt_le.mp d2
    omega
theorem c_X10_sweep (l : Launch) (hlt : l.stackTraces = false) (dC : Nat → ClassId) (dI : Nat → Nat → Nat) (cI cJ cS : ClassId) (a : Nat → Nat) (u : zCls) (x1 : Int32) (x2 : Int32) (Q : Int32 → zCls → Prop) (QX : String → zCls → Prop) (hf : s_X10_sweep u x1 x2 Q QX) : ∀ sz : Nat, vx_Met l yX10_sweep (Cond.code yX10_sweep cX10_sweep 7 (some .int) :: zT) rm_X10_sweep (zPmF zFy dC dI cI cJ cS (cl_X10 cI cJ cS a u) [.ref (a 0), .int x1, .int x2] sz) (va_Qi Q (zB dC dI cI cJ cS (va_A (cl_X10 cI cJ cS a u) sz) (fun z => cl_X10 cI cJ cS a z)) (va_A (cl_X10 cI cJ cS a u) sz)) (zXc QX dC dI cI cJ cS (va_A (cl_X10 cI cJ cS a u) sz) (fun z => cl_X10 cI cJ cS a z)) 1 6 (va_A (cl_X10 cI cJ cS a u) sz) := by
  obtain ⟨I46, h46, hf⟩ := st_X10_sweep hf
  exact L_X10_sweep l hlt dC dI cI cJ cS a u x1 x2 Q QX I46 h46 hf

def t_X10_traces_e (u : zCls) (x1 : Int32) (x2 : Int32) (K29 : Int32 → Int32 → Int32 → Int32 → zCls → Prop) (K39 : Int32 → Int32 → Int32 → Int32 → Int32 → zCls → Prop) (Q : Int32 → zCls → Prop) (QX : String → zCls → Prop) : Prop := s_X10_lookAtKey x1 (fun (u_2 : Unit) => s_X10_lookAtWhat x2 (2 : Int32) (fun (u_4 : Unit) => K29 (0 : Int32) (0 : Int32) (0 : Int32) (0 : Int32) u) (fun (E : String) (u_4 : Unit) => QX E u)) (fun (E : String) (u_2 : Unit) => QX E u)
def t_X10_traces_29 (x1 : Int32) (x2 : Int32) (y4 : Int32) (y5 : Int32) (y6 : Int32) (y7 : Int32) (z : zCls) (K29 : Int32 → Int32 → Int32 → Int32 → zCls → Prop) (K39 : Int32 → Int32 → Int32 → Int32 → Int32 → zCls → Prop) (Q : Int32 → zCls → Prop) (QX : String → zCls → Prop) : Prop := (((12 : Int32) ≤ y7 → ((¬ x2 = 0 → ((¬ x2 = (1 : Int32) → Q y6 z) ∧ (x2 = (1 : Int32) → Q y5 z))) ∧ (x2 = 0 → Q y4 z))) ∧ (¬ (12 : Int32) ≤ y7 → K39 y4 y5 y6 y7 (0 : Int32) z))
def t_X10_traces_39 (x1 : Int32) (x2 : Int32) (y4 : Int32) (y5 : Int32) (y6 : Int32) (y7 : Int32) (y8 : Int32) (z : zCls) (K29 : Int32 → Int32 → Int32 → Int32 → zCls → Prop) (K39 : Int32 → Int32 → Int32 → Int32 → Int32 → zCls → Prop) (Q : Int32 → zCls → Prop) (QX : String → zCls → Prop) : Prop := s_X4_countOf z.1.2.2.1 y7 (fun r_10 : Int32 => ((r_10 ≤ y8 → ∀ x_12 : Int32, x_12 = y7 + (1 : Int32) → K29 y4 y5 y6 x_12 z) ∧ (¬ r_10 ≤ y8 → s_X4_cardAt z.1.2.2.1 y7 y8 (fun r_14 : Int64 => s_X0_keyOf r_14 (fun r_15 : Int32 => ((¬ r_15 = x1 → ∀ x_17 : Int32, x_17 = y8 + (1 : Int32) → K39 y4 y5 y6 y7 x_17 z) ∧ (r_15 = x1 → ∀ x_19 : Int32, x_19 = y4 + (1 : Int32) → s_X0_sizeOf r_14 (fun r_20 : Int32 => ∀ x_21 : Int32, x_21 = (y5 + r_20) → ∀ x_22 : Int32, x_22 = (y6 ||| ((1 : Int32) <<< (y7 &&& 31))) → ∀ x_23 : Int32, x_23 = y8 + (1 : Int32) → K39 x_19 x_21 x_22 y7 x_23 z))))))))
theorem zc_X10_traces : zCalV RX10 yX10_traces cX10_traces 11 (some .int) 2 := ⟨q_im_X10_traces, q_se_X10_traces, q_in_X10, q_cd_X10_traces, ⟨by decide, by decide, by decide +kernel⟩, rfl⟩
abbrev rm_X10_traces : Room := { frames := 7, cells := 2, slots := 12, locals := 111 }
def v_X10_traces (u : zCls) (x1 : Int32) (x2 : Int32) (Q : Int32 → zCls → Prop) (QX : String → zCls → Prop) : Prop := ∃ I29 : Nat → Int32 → Int32 → Int32 → Int32 → zCls → Prop, ∃ I39 : Nat → Int32 → Int32 → Int32 → Int32 → Int32 → zCls → Prop, (∀ (n : Nat) (y4 : Int32) (y5 : Int32) (y6 : Int32) (y7 : Int32) (z : zCls), I29 n y4 y5 y6 y7 z → t_X10_traces_29 x1 x2 y4 y5 y6 y7 z (fun q0 q1 q2 q3 q4 => ∃ k : Nat, k < n ∧ I29 k q0 q1 q2 q3 q4) (fun q0 q1 q2 q3 q4 q5 => ∃ k : Nat, k < n ∧ I39 k q0 q1 q2 q3 q4 q5) Q QX) ∧ (∀ (n : Nat) (y4 : Int32) (y5 : Int32) (y6 : Int32) (y7 : Int32) (y8 : Int32) (z : zCls), I39 n y4 y5 y6 y7 y8 z → t_X10_traces_39 x1 x2 y4 y5 y6 y7 y8 z (fun q0 q1 q2 q3 q4 => ∃ k : Nat, k < n ∧ I29 k q0 q1 q2 q3 q4) (fun q0 q1 q2 q3 q4 q5 => ∃ k : Nat, k < n ∧ I39 k q0 q1 q2 q3 q4 q5) Q QX) ∧ t_X10_traces_e u x1 x2 (fun q0 q1 q2 q3 q4 => ∃ k : Nat, I29 k q0 q1 q2 q3 q4) (fun q0 q1 q2 q3 q4 q5 => ∃ k : Nat, I39 k q0 q1 q2 q3 q4 q5) Q QX
set_option maxHeartbeats 4000000 in
set_option maxRecDepth 100000 in
theorem L_X10_traces (l : Launch) (hlt : l.stackTraces = false) (dC : Nat → ClassId) (dI : Nat → Nat → Nat) (cI cJ cS : ClassId) (a : Nat → Nat) (u : zCls) (x1 : Int32) (x2 : Int32) (Q : Int32 → zCls → Prop) (QX : String → zCls → Prop) (I29 : Nat → Int32 → Int32 → Int32 → Int32 → zCls → Prop) (I39 : Nat → Int32 → Int32 → Int32 → Int32 → Int32 → zCls → Prop) (h29 : ∀ (n : Nat) (y4 : Int32) (y5 : Int32) (y6 : Int32) (y7 : Int32) (z : zCls), I29 n y4 y5 y6 y7 z → t_X10_traces_29 x1 x2 y4 y5 y6 y7 z (fun q0 q1 q2 q3 q4 => ∃ k : Nat, k < n ∧ I29 k q0 q1 q2 q3 q4) (fun q0 q1 q2 q3 q4 q5 => ∃ k : Nat, k < n ∧ I39 k q0 q1 q2 q3 q4 q5) Q QX) (h39 : ∀ (n : Nat) (y4 : Int32) (y5 : Int32) (y6 : Int32) (y7 : Int32) (y8 : Int32) (z : zCls), I39 n y4 y5 y6 y7 y8 z → t_X10_traces_39 x1 x2 y4 y5 y6 y7 y8 z (fun q0 q1 q2 q3 q4 => ∃ k : Nat, k < n ∧ I29 k q0 q1 q2 q3 q4) (fun q0 q1 q2 q3 q4 q5 => ∃ k : Nat, k < n ∧ I39 k q0 q1 q2 q3 q4 q5) Q QX) (hf : t_X10_traces_e u x1 x2 (fun q0 q1 q2 q3 q4 => ∃ k : Nat, I29 k q0 q1 q2 q3 q4) (fun q0 q1 q2 q3 q4 q5 => ∃ k : Nat, I39 k q0 q1 q2 q3 q4 q5) Q QX) : ∀ sz : Nat, vx_Met l yX10_traces (Cond.code yX10_traces cX10_traces 11 (some .int) :: zT) rm_X10_traces (zPmF zFy dC dI cI cJ cS (cl_X10 cI cJ cS a u) [.ref (a 0), .int x1, .int x2] sz) (va_Qi Q (zB dC dI cI cJ cS (va_A (cl_X10 cI cJ cS a u) sz) (fun z => cl_X10 cI cJ cS a z)) (va_A (cl_X10 cI cJ cS a u) sz)) (zXc QX dC dI cI cJ cS (va_A (cl_X10 cI cJ cS a u) sz) (fun z => cl_X10 cI cJ cS a z)) 2 12 (va_A (cl_X10 cI cJ cS a u) sz) := by
  intro sz
  refine z_enterX (Qc := fun A => va_Qi Q (zB dC dI cI cJ cS A (fun z => cl_X10 cI cJ cS a z)) A) (XC := fun A => zXc QX dC dI cI cJ cS A (fun z => cl_X10 cI cJ cS a z)) (cc := cX10_traces) (maxL := 11) (ret := (some .int)) (by decide) (Nat.le_of_ble_eq_true rfl) ?_
  intro p e s m below meth c ls A X htb hP hD hS hA hF hl
  obtain ⟨⟨hx, hb, hml, hown, hts⟩, hr, hlk, hK⟩ := id X
  have hl : lv_has ls 11 [(0, .ref (a 0)), (1, .int x1), (2, .int x2)] := hl
  have LP : ∀ n : Nat, (∀ (y4 : Int32) (y5 : Int32) (y6 : Int32) (y7 : Int32) (z : zCls) (H : Heap) (locs : List Loc) (ls : Array Slot), I29 n y4 y5 y6 y7 z → va_P (dC, dI) vwCl (cl_X10 cI cJ cS a z) H → va_D A (cl_X10 cI cJ cS a z) → va_S A s.heap H locs → lv_has ls 11 [(0, .ref (a 0)), (1, .int x1), (2, .int x2), (3, .ref (a 4)), (4, .int y4), (5, .int y5), (6, .int y6), (7, .int y7)] → W p l e rm_X10_traces s m [.ref (a 0), .int x1, .int x2].toArray below meth c H locs 2 12 (vx_MQ below (va_Qi Q (zB dC dI cI cJ cS A (fun z => cl_X10 cI cJ cS a z)) A) (zXc QX dC dI cI cJ cS A (fun z => cl_X10 cI cJ cS a z)) [.ref (a 0), .int x1, .int x2].toArray s 2 12 A) (F0 m 29 ls [])) ∧ (∀ (y4 : Int32) (y5 : Int32) (y6 : Int32) (y7 : Int32) (y8 : Int32) (z : zCls) (H : Heap) (locs : List Loc) (ls : Array Slot), I39 n y4 y5 y6 y7 y8 z → va_P (dC, dI) vwCl (cl_X10 cI cJ cS a z) H → va_D A (cl_X10 cI cJ cS a z) → va_S A s.heap H locs → lv_has ls 11 [(0, .ref (a 0)), (1, .int x1), (2, .int x2), (3, .ref (a 4)), (4, .int y4), (5, .int y5), (6, .int y6), (7, .int y7), (8, .int y8)] → W p l e rm_X10_traces s m [.ref (a 0), .int x1, .int x2].toArray below meth c H locs 2 12 (vx_MQ below (va_Qi Q (zB dC dI cI cJ cS A (fun z => cl_X10 cI cJ cS a z)) A) (zXc QX dC dI cI cJ cS A (fun z => cl_X10 cI cJ cS a z)) [.ref (a 0), .int x1, .int x2].toArray s 2 12 A) (F0 m 39 ls [])) := by
    intro n
    induction n using Nat.strongRecOn with
    | _ n ih =>
      refine ⟨?_, ?_⟩
      · intro y4 y5 y6 y7 z H locs ls hI hP hD hS hl
        have hf := h29 n y4 y5 y6 y7 z hI
        unfold t_X10_traces_29 at hf
        refine lv_iload hx hb dX10_traces_29 (lv_at hl 7 rfl) ?_
        refine lv_bipush (v := 12) hx hb dX10_traces_31 (by decide) ?_
        refine lv_icmp_ge (tgt := 103) hx hb dX10_traces_33 (by decide) (fun c_6 => ?_) (fun c_6 => ?_)
        · have hf := hf.1 c_6
          refine lv_iload_n hx hb dX10_traces_103 rfl (lv_at hl 2 rfl) ?_
          refine lv_if_ne (tgt := 112) hx hb dX10_traces_104 (by decide) (fun c_7 => ?_) (fun c_7 => ?_)
          · have hf := hf.1 c_7
            refine lv_iload_n hx hb dX10_traces_112 rfl (lv_at hl 2 rfl) ?_
            refine lv_iconst (v := 1) hx hb dX10_traces_113 (by decide) ?_
            refine lv_icmp_ne (tgt := 122) hx hb dX10_traces_114 (by decide) (fun c_8 => ?_) (fun c_8 => ?_)
            · have hf := hf.1 c_8
              refine lv_iload hx hb dX10_traces_122 (lv_at hl 6 rfl) ?_
              exact vx_ret (W.widen (k := 2) (n := 12) (Nat.le_of_ble_eq_true rfl) (Nat.le_of_ble_eq_true rfl) (z_retMi (Wf := (fun z => cl_X10 cI cJ cS a z)) (u := z) X hf hP hD hS dX10_traces_124))
            · have hf := hf.2 c_8
              refine lv_iload hx hb dX10_traces_117 (lv_at hl 5 rfl) ?_
              refine lv_goto (tgt := 124) hx hb dX10_traces_119 (by decide) ?_
              exact vx_ret (W.widen (k := 2) (n := 12) (Nat.le_of_ble_eq_true rfl) (Nat.le_of_ble_eq_true rfl) (z_retMi (Wf := (fun z => cl_X10 cI cJ cS a z)) (u := z) X hf hP hD hS dX10_traces_124))
          · have hf := hf.2 c_7
            refine lv_iload hx hb dX10_traces_107 (lv_at hl 4 rfl) ?_
            refine lv_goto (tgt := 124) hx hb dX10_traces_109 (by decide) ?_
            exact vx_ret (W.widen (k := 2) (n := 12) (Nat.le_of_ble_eq_true rfl) (Nat.le_of_ble_eq_true rfl) (z_retMi (Wf := (fun z => cl_X10 cI cJ cS a z)) (u := z) X hf hP hD hS dX10_traces_124))
        · have hf := hf.2 c_6
          refine lv_iconst (v := 0) hx hb dX10_traces_36 (by decide) ?_
          refine lv_istore (lv' := [(8, .int (0 : Int32)), (0, .ref (a 0)), (1, .int x1), (2, .int x2), (3, .ref (a 4)), (4, .int y4), (5, .int y5), (6, .int y6), (7, .int y7)]) hx hb dX10_traces_37 hl (by decide) rfl (fun ls hl => ?_)
          obtain ⟨k_9, hk_9, hf⟩ := hf
          exact (ih k_9 hk_9).2 _ _ _ _ _ z _ _ ls hf hP hD hS (lv_sub hl [1, 2, 3, 4, 5, 6, 7, 8, 0] rfl)
      · intro y4 y5 y6 y7 y8 z H locs ls hI hP hD hS hl
        have hf := h39 n y4 y5 y6 y7 y8 z hI
        unfold t_X10_traces_39 at hf
        refine lv_iload hx hb dX10_traces_39 (lv_at hl 8 rfl) ?_
        refine lv_aload_n hx hb dX10_traces_41 rfl (lv_at hl 3 rfl) ?_
        refine lv_iload hx hb dX10_traces_42 (lv_at hl 7 rfl) ?_
        refine z_cVi (As := [.int y7]) (rest := [.int y8]) X (c_X4_countOf l dC dI cI cJ cS (fun i => a (4 + i)) z.1.2.2.1 y7 _ hf) zc_X4_countOf q_ml_X10_206 ⟨rfl, rfl⟩ ⟨Nat.le_of_ble_eq_true rfl, Nat.le_of_ble_eq_true rfl⟩ hP [4, 5, 6, 7, 8] rfl 3 rfl rfl hl.1 rfl rfl (Nat.le_of_ble_eq_true rfl) ⟨Nat.le_of_ble_eq_true rfl, Nat.le_of_ble_eq_true rfl⟩ dX10_traces_44 (fun r_10 hf => ?_)
        refine lv_icmp_ge (tgt := 97) hx hb dX10_traces_47 (by decide) (fun c_11 => ?_) (fun c_11 => ?_)
        · have hf := hf.1 c_11
          obtain ⟨x_12, ex_12⟩ : ∃ y : Int32, y = y7 + (1 : Int32) := ⟨_, rfl⟩
          have hf := hf x_12 ex_12
          refine lv_iinc (v := x_12) (lv' := [(7, .int x_12), (0, .ref (a 0)), (1, .int x1), (2, .int x2), (3, .ref (a 4)), (4, .int y4), (5, .int y5), (6, .int y6), (8, .int y8)]) hx hb dX10_traces_97 hl (k := 7) rfl (by rw [ex_12]; rfl) (by decide) rfl (fun ls hl => ?_)
          refine lv_goto (tgt := 29) hx hb dX10_traces_100 (by decide) ?_
          obtain ⟨k_13, hk_13, hf⟩ := hf
          exact (ih k_13 hk_13).1 _ _ _ _ z _ _ ls hf hP hD hS (lv_sub hl [1, 2, 3, 4, 5, 6, 7, 0] rfl)
        · have hf := hf.2 c_11
          refine lv_aload_n hx hb dX10_traces_50 rfl (lv_at hl 3 rfl) ?_
          refine lv_iload hx hb dX10_traces_51 (lv_at hl 7 rfl) ?_
          refine lv_iload hx hb dX10_traces_53 (lv_at hl 8 rfl) ?_
          refine z_cVl (As := [.int y7, .int y8]) (rest := []) X (c_X4_cardAt l dC dI cI cJ cS (fun i => a (4 + i)) z.1.2.2.1 y7 y8 _ hf) zc_X4_cardAt q_ml_X10_221 ⟨rfl, rfl⟩ ⟨Nat.le_of_ble_eq_true rfl, Nat.le_of_ble_eq_true rfl⟩ hP [4, 5, 6, 7, 8] rfl 3 rfl rfl hl.1 rfl rfl (Nat.le_of_ble_eq_true rfl) ⟨Nat.le_of_ble_eq_true rfl, Nat.le_of_ble_eq_true rfl⟩ dX10_traces_55 (fun r_14 hf => ?_)
          refine lv_lstore (lv' := [(9, .long r_14), (0, .ref (a 0)), (1, .int x1), (2, .int x2), (3, .ref (a 4)), (4, .int y4), (5, .int y5), (6, .int y6), (7, .int y7), (8, .int y8)]) hx hb dX10_traces_58 hl (by decide) rfl (fun ls hl => ?_)
          refine lv_lload hx hb dX10_traces_60 (lv_at hl 0 rfl) ?_
          refine z_cSi (As := [.long r_14]) (rest := []) X (c_X0_keyOf l dC dI cI cJ cS   r_14 _ hf) zc_X0_keyOf q_ml_X10_225 ⟨rfl, rfl⟩ ⟨Nat.le_of_ble_eq_true rfl, Nat.le_of_ble_eq_true rfl⟩ hP [] rfl hl.1 rfl rfl (Nat.le_of_ble_eq_true rfl) ⟨Nat.le_of_ble_eq_true rfl, Nat.le_of_ble_eq_true rfl⟩ dX10_traces_62 (fun r_15 hf => ?_)
          refine lv_iload_n hx hb dX10_traces_65 rfl (lv_at hl 2 rfl) ?_
          refine lv_icmp_ne (tgt := 91) hx hb dX10_traces_66 (by decide) (fun c_16 => ?_) (fun c_16 => ?_)
          · have hf := hf.1 c_16
            obtain ⟨x_17, ex_17⟩ : ∃ y : Int32, y = y8 + (1 : Int32) := ⟨_, rfl⟩
            have hf := hf x_17 ex_17
            refine lv_iinc (v := x_17) (lv' := [(8, .int x_17), (9, .long r_14), (0, .ref (a 0)), (1, .int x1), (2, .int x2), (3, .ref (a 4)), (4, .int y4), (5, .int y5), (6, .int y6), (7, .int y7)]) hx hb dX10_traces_91 hl (k := 9) rfl (by rw [ex_17]; rfl) (by decide) rfl (fun ls hl => ?_)
            refine lv_goto (tgt := 39) hx hb dX10_traces_94 (by decide) ?_
            obtain ⟨k_18, hk_18, hf⟩ := hf
            exact (ih k_18 hk_18).2 _ _ _ _ _ z _ _ ls hf hP hD hS (lv_sub hl [2, 3, 4, 5, 6, 7, 8, 9, 0] rfl)
          · have hf := hf.2 c_16
            obtain ⟨x_19, ex_19⟩ : ∃ y : Int32, y = y4 + (1 : Int32) := ⟨_, rfl⟩
            have hf := hf x_19 ex_19
            refine lv_iinc (v := x_19) (lv' := [(4, .int x_19), (9, .long r_14), (0, .ref (a 0)), (1, .int x1), (2, .int x2), (3, .ref (a 4)), (5, .int y5), (6, .int y6), (7, .int y7), (8, .int y8)]) hx hb dX10_traces_69 hl (k := 5) rfl (by rw [ex_19]; rfl) (by decide) rfl (fun ls hl => ?_)
            refine lv_iload hx hb dX10_traces_72 (lv_at hl 6 rfl) ?_
            refine lv_lload hx hb dX10_traces_74 (lv_at hl 1 rfl) ?_
            refine z_cSi (As := [.long r_14]) (rest := [.int y5]) X (c_X0_sizeOf l dC dI cI cJ cS   r_14 _ hf) zc_X0_sizeOf q_ml_X10_314 ⟨rfl, rfl⟩ ⟨Nat.le_of_ble_eq_true rfl, Nat.le_of_ble_eq_true rfl⟩ hP [] rfl hl.1 rfl rfl (Nat.le_of_ble_eq_true rfl) ⟨Nat.le_of_ble_eq_true rfl, Nat.le_of_ble_eq_true rfl⟩ dX10_traces_76 (fun r_20 hf => ?_)
            refine lv_iadd hx hb dX10_traces_79 ?_
            refine lv_topi (fun x_21 ex_21 => ?_)
            have hf := hf x_21 ex_21
            refine lv_istore (lv' := [(5, .int x_21), (4, .int x_19), (9, .long r_14), (0, .ref (a 0)), (1, .int x1), (2, .int x2), (3, .ref (a 4)), (6, .int y6), (7, .int y7), (8, .int y8)]) hx hb dX10_traces_80 hl (by decide) rfl (fun ls hl => ?_)
            refine lv_iload hx hb dX10_traces_82 (lv_at hl 7 rfl) ?_
            refine lv_iconst (v := 1) hx hb dX10_traces_84 (by decide) ?_
            refine lv_iload hx hb dX10_traces_85 (lv_at hl 8 rfl) ?_
            refine lv_ishl hx hb dX10_traces_87 ?_
            refine lv_ior hx hb dX10_traces_88 ?_
            refine lv_topi (fun x_22 ex_22 => ?_)
            have hf := hf x_22 ex_22
            refine lv_istore (lv' := [(6, .int x_22), (5, .int x_21), (4, .int x_19), (9, .long r_14), (0, .ref (a 0)), (1, .int x1), (2, .int x2), (3, .ref (a 4)), (7, .int y7), (8, .int y8)]) hx hb dX10_traces_89 hl (by decide) rfl (fun ls hl => ?_)
            obtain ⟨x_23, ex_23⟩ : ∃ y : Int32, y = y8 + (1 : Int32) := ⟨_, rfl⟩
            have hf := hf x_23 ex_23
            refine lv_iinc (v := x_23) (lv' := [(8, .int x_23), (6, .int x_22), (5, .int x_21), (4, .int x_19), (9, .long r_14), (0, .ref (a 0)), (1, .int x1), (2, .int x2), (3, .ref (a 4)), (7, .int y7)]) hx hb dX10_traces_91 hl (k := 9) rfl (by rw [ex_23]; rfl) (by decide) rfl (fun ls hl => ?_)
            refine lv_goto (tgt := 39) hx hb dX10_traces_94 (by decide) ?_
            obtain ⟨k_24, hk_24, hf⟩ := hf
            exact (ih k_24 hk_24).2 _ _ _ _ _ z _ _ ls hf hP hD hS (lv_sub hl [5, 6, 7, 8, 3, 2, 1, 9, 0] rfl)
  unfold t_X10_traces_e at hf
  refine lv_iload_n hx hb dX10_traces_0 rfl (lv_at hl 1 rfl) ?_
  refine z_xSvO (Wn := (fun u_2 => cl_X10 cI cJ cS a u)) (As := [.int x1]) (rest := []) (wr := cl_X10 cI cJ cS a u) X fro_Fy hF (c_X10_lookAtKey l hlt dC dI cI cJ cS   x1 _ _ hf _) zc_X10_lookAtKey q_ml_X10_105 ⟨rfl, rfl⟩ ⟨Nat.le_of_ble_eq_true rfl, Nat.le_of_ble_eq_true rfl⟩ hP hD hS hA (pm_0 _) (fun _ => pm_0 _) (Wo := (fun z => cl_X10 cI cJ cS a z)) (fun u_2 => u) (fun _ => rfl) htb (fun _ _ h => h) ⟨Nat.le_of_ble_eq_true rfl, Nat.le_of_ble_eq_true rfl⟩ hl.1 rfl rfl (Nat.le_of_ble_eq_true rfl) ⟨Nat.le_of_ble_eq_true rfl, Nat.le_of_ble_eq_true rfl⟩ dX10_traces_1 (fun u_2 H locs hf hP hD hS => ?_)
  refine lv_iload_n hx hb dX10_traces_4 rfl (lv_at hl 2 rfl) ?_
  refine lv_iconst (v := 2) hx hb dX10_traces_5 (by decide) ?_
  refine z_xSvO (Wn := (fun u_4 => cl_X10 cI cJ cS a u)) (As := [.int x2, .int (2 : Int32)]) (rest := []) (wr := cl_X10 cI cJ cS a u) X fro_Fy hF (c_X10_lookAtWhat l hlt dC dI cI cJ cS   x2 (2 : Int32) _ _ hf _) zc_X10_lookAtWhat q_ml_X10_136 ⟨rfl, rfl⟩ ⟨Nat.le_of_ble_eq_true rfl, Nat.le_of_ble_eq_true rfl⟩ hP hD hS hA (pm_0 _) (fun _ => pm_0 _) (Wo := (fun z => cl_X10 cI cJ cS a z)) (fun u_4 => u) (fun _ => rfl) htb (fun _ _ h => h) ⟨Nat.le_of_ble_eq_true rfl, Nat.le_of_ble_eq_true rfl⟩ hl.1 rfl rfl (Nat.le_of_ble_eq_true rfl) ⟨Nat.le_of_ble_eq_true rfl, Nat.le_of_ble_eq_true rfl⟩ dX10_traces_6 (fun u_4 H locs hf hP hD hS => ?_)
  refine lv_aload_n hx hb dX10_traces_9 rfl (lv_at hl 0 rfl) ?_
  refine va_get (D := (dC, dI)) (ci := 9) (v := .ref (a 1)) (C := RX10) (T := TX10) (N := 9) hx hb hts inX10 hown hK hP 0 rfl rfl 0 (by decide) (hts _ q_fl_X10_10) (fun _ h9 => h9) rfl dX10_traces_10 ?_
  refine va_get (D := (dC, dI)) (ci := 4) (v := .ref (a 4)) (C := RX5) (T := TX5) (N := 9) hx hb hts inX5 hown hK hP 1 rfl rfl 2 (by decide) (hts _ q_fl_X10_198) (fun _ h9 => h9) rfl dX10_traces_13 ?_
  refine lv_astore_n (lv' := [(3, .ref (a 4)), (0, .ref (a 0)), (1, .int x1), (2, .int x2)]) hx hb dX10_traces_16 rfl hl (by decide) rfl (fun ls hl => ?_)
  refine lv_iconst (v := 0) hx hb dX10_traces_17 (by decide) ?_
  refine lv_istore (lv' := [(4, .int (0 : Int32)), (3, .ref (a 4)), (0, .ref (a 0)), (1, .int x1), (2, .int x2)]) hx hb dX10_traces_18 hl (by decide) rfl (fun ls hl => ?_)
  refine lv_iconst (v := 0) hx hb dX10_traces_20 (by decide) ?_
  refine lv_istore (lv' := [(5, .int (0 : Int32)), (4, .int (0 : Int32)), (3, .ref (a 4)), (0, .ref (a 0)), (1, .int x1), (2, .int x2)]) hx hb dX10_traces_21 hl (by decide) rfl (fun ls hl => ?_)
  refine lv_iconst (v := 0) hx hb dX10_traces_23 (by decide) ?_
  refine lv_istore (lv' := [(6, .int (0 : Int32)), (5, .int (0 : Int32)), (4, .int (0 : Int32)), (3, .ref (a 4)), (0, .ref (a 0)), (1, .int x1), (2, .int x2)]) hx hb dX10_traces_24 hl (by decide) rfl (fun ls hl => ?_)
  refine lv_iconst (v := 0) hx hb dX10_traces_26 (by decide) ?_
  refine lv_istore (lv' := [(7, .int (0 : Int32)), (6, .int (0 : Int32)), (5, .int (0 : Int32)), (4, .int (0 : Int32)), (3, .ref (a 4)), (0, .ref (a 0)), (1, .int x1), (2, .int x2)]) hx hb dX10_traces_27 hl (by decide) rfl (fun ls hl => ?_)
  obtain ⟨k_5, hf⟩ := hf
  exact (LP k_5).1 _ _ _ _ u _ _ ls hf hP hD hS (lv_sub hl [5, 6, 7, 4, 3, 2, 1, 0] rfl)
def s_X10_traces (u : zCls) (x1 : Int32) (x2 : Int32) (Q : Int32 → zCls → Prop) (QX : String → zCls → Prop) : Prop := cAsk u (fun v => fTraces v x1 x2) (exO 2 3 3) Q QX
theorem st_X10_traces {u : zCls} {x1 x2 : Int32} {Q : Int32 → zCls → Prop} {QX : String → zCls → Prop} (h : s_X10_traces u x1 x2 Q QX) : v_X10_traces u x1 x2 Q QX := by
  obtain ⟨B, G, hG, hB, hc, hQ⟩ := h
  obtain ⟨v, ev⟩ : ∃ v, v = gNow G := ⟨_, rfl⟩
  rw [← ev] at hQ
  have hv : okB B v := by rw [ev]; exact hG.1
  have ho := hv.ok
  have c1 : u.1 = v := by rw [ev]; exact hc.1
  dsimp only at hQ
  unfold fTraces at hQ
  by_cases i1 : inR x1 0 63
  · by_cases i2 : inR x2 0 2
    · rw [if_pos i1, if_pos i2] at hQ
      have hQ := (hQ u hc).1 rfl
      dsimp only at hQ
      refine ⟨fun n y4 y5 y6 y7 z => ∃ s : Nat, s ≤ 12 ∧ n = 1000 * (12 - s) + 500 ∧ y4 = (trA v x1 s).1 ∧ y5 = (trA v x1 s).2.1 ∧ y6 = (trA v x1 s).2.2 ∧ y7 = nI s ∧ z = u,
        fun n y4 y5 y6 y7 y8 z => ∃ s j : Nat, s < 12 ∧ j ≤ cN v s ∧ n = 1000 * (12 - s) + (60 - j) ∧ y4 = (trR v x1 s j (trA v x1 s)).1 ∧ y5 = (trR v x1 s j (trA v x1 s)).2.1 ∧ y6 = (trR v x1 s j (trA v x1 s)).2.2 ∧ y7 = nI s ∧ y8 = nI j ∧ z = u, ?_, ?_, ?_⟩
      · rintro n y4 y5 y6 y7 z ⟨s, hs, rfl, rfl, rfl, rfl, rfl, rfl⟩
        refine ⟨fun c => ?_, fun c => ?_⟩
        · have : s = 12 := by
            have := (nI_leI (a := 12) (b := s) (by decide) (by omega)).mp c
            omega
          subst this
          refine ⟨fun d => ⟨fun d2 => ?_, fun d2 => ?_⟩, fun d => ?_⟩
          · rw [if_neg d, if_neg d2] at hQ; exact hQ
          · rw [if_neg d, if_pos d2] at hQ; exact hQ
          · rw [if_pos d] at hQ; exact hQ
        · have hs : s < 12 := by
            have : ¬ 12 ≤ s := fun q => c (le12 q (by omega))
            omega
          exact ⟨1000 * (12 - s) + (60 - 0), by omega, s, 0, hs, Nat.zero_le _, rfl, rfl, rfl, rfl, rfl, rfl, rfl⟩
      · rintro n y4 y5 y6 y7 y8 z ⟨s, j, hs, hj, rfl, rfl, rfl, rfl, rfl, rfl, rfl⟩
        have ec := ho.c hs
        have h50 := ho.cl hs
        rw [t_X10_traces_39, c1]
        refine ⟨s, hs, rfl, ?_⟩
        rw [ec]
        refine ⟨fun c x ex => ?_, fun c => ⟨s, cN v s, hs, h50, rfl, ec, Or.inl ⟨j, ?_, rfl, ?_⟩⟩⟩
        · have : j = cN v s := by
            have := (nI_leI (by omega) (by omega)).mp c
            omega
          subst this
          exact ⟨1000 * (12 - (s + 1)) + 500, by omega, s + 1, by omega, rfl, rfl, rfl, rfl, by rw [ex, nI_1], rfl⟩
        · have : ¬ cN v s ≤ j := fun q => c (nI_le q (by omega))
          omega
        · have hj : j < cN v s := by
            have : ¬ cN v s ≤ j := fun q => c (nI_le q (by omega))
            omega
          have hu : trR v x1 s (j + 1) (trA v x1 s) = if cKey (uRec v s j) = x1 then ((trR v x1 s j (trA v x1 s)).1 + 1, (trR v x1 s j (trA v x1 s)).2.1 + (4 + cLen (uRec v s j)), (trR v x1 s j (trA v x1 s)).2.2 ||| ((1 : Int32) <<< (nI s &&& 31))) else trR v x1 s j (trA v x1 s) := rfl
          refine ⟨fun d x ex => ?_, fun d x ex x2 e2 x3 e3 x4 e4 => ?_⟩
          · have d : ¬ cKey (uRec v s j) = x1 := d
            rw [if_neg d] at hu
            exact ⟨1000 * (12 - s) + (60 - (j + 1)), by omega, s, j + 1, hs, hj, rfl, by rw [hu], by rw [hu], by rw [hu], rfl, by rw [ex, nI_1], rfl⟩
          · have d : cKey (uRec v s j) = x1 := d
            rw [if_pos d] at hu
            exact ⟨1000 * (12 - s) + (60 - (j + 1)), by omega, s, j + 1, hs, hj, rfl, by rw [hu, ex], by rw [hu, e2], by rw [hu, e3], rfl, by rw [e4, nI_1], rfl⟩
      · exact lookKey_of (fun _ => lookWhat_of (fun _ => ⟨1000 * (12 - 0) + 500, 0, by omega, rfl, rfl, rfl, rfl, rfl, rfl⟩) (fun q => absurd i2 q)) (fun q => absurd i1 q)
    · rw [if_pos i1, if_neg i2] at hQ
      exact ⟨fun _ _ _ _ _ _ => False, fun _ _ _ _ _ _ _ => False, fun _ _ _ _ _ _ q => q.elim, fun _ _ _ _ _ _ _ q => q.elim, lookKey_of (fun _ => lookWhat_of (fun q => absurd q i2) (fun _ => (hQ u hc).2 (show ¬ (2 : Int32) = 0 by decide))) (fun q => absurd i1 q)⟩
  · rw [if_neg i1] at hQ
    exact ⟨fun _ _ _ _ _ _ => False, fun _ _ _ _ _ _ _ => False, fun _ _ _ _ _ _ q => q.elim, fun _ _ _ _ _ _ _ q => q.elim, lookKey_of (fun q => absurd q i1) (fun _ => (hQ u hc).2 (show ¬ (1 : Int32) = 0 by decide))⟩
theorem c_X10_traces (l : Launch) (hlt : l.stackTraces = false) (dC : Nat → ClassId) (dI : Nat → Nat → Nat) (cI cJ cS : ClassId) (a : Nat → Nat) (u : zCls) (x1 : Int32) (x2 : Int32) (Q : Int32 → zCls → Prop) (QX : String → zCls → Prop) (hf : s_X10_traces u x1 x2 Q QX) : ∀ sz : Nat, vx_Met l yX10_traces (Cond.code yX10_traces cX10_traces 11 (some .int) :: zT) rm_X10_traces (zPmF zFy dC dI cI cJ cS (cl_X10 cI cJ cS a u) [.ref (a 0), .int x1, .int x2] sz) (va_Qi Q (zB dC dI cI cJ cS (va_A (cl_X10 cI cJ cS a u) sz) (fun z => cl_X10 cI cJ cS a z)) (va_A (cl_X10 cI cJ cS a u) sz)) (zXc QX dC dI cI cJ cS (va_A (cl_X10 cI cJ cS a u) sz) (fun z => cl_X10 cI cJ cS a z)) 2 12 (va_A (cl_X10 cI cJ cS a u) sz) := by
  obtain ⟨I29, I39, h29, h39, hf⟩ := st_X10_traces hf
  exact L_X10_traces l hlt dC dI cI cJ cS a u x1 x2 Q QX I29 I39 h29 h39 hf
