def t_X4_cutAbove_e (u : zSegs) (x1 : Int32) (K4 : Int32 → Int32 → zSegs → Prop) (K20 : Int32 → Int32 → Int32 → zSegs → Prop) (Q : Int32 → zSegs → Prop) : Prop := K4 (0 : Int32) (0 : Int32) u
def t_X4_cutAbove_4 (x1 : Int32) (y2 : Int32) (y3 : Int32) (z : zSegs) (K4 : Int32 → Int32 → zSegs → Prop) (K20 : Int32 → Int32 → Int32 → zSegs → Prop) (Q : Int32 → zSegs → Prop) : Prop := (((12 : Int32) ≤ y3 → Q y2 z) ∧ (¬ (12 : Int32) ≤ y3 → vp_in y3 12 ∧ ∀ x_3 : Int32, x_3 = ((z.2.1 y3.toNatClampNeg) - (1 : Int32)) → K20 y2 y3 x_3 z))
def t_X4_cutAbove_20 (x1 : Int32) (y2 : Int32) (y3 : Int32) (y4 : Int32) (z : zSegs) (K4 : Int32 → Int32 → zSegs → Prop) (K20 : Int32 → Int32 → Int32 → zSegs → Prop) (Q : Int32 → zSegs → Prop) : Prop := ((y4 < 0 → ∀ x_6 : Int32, x_6 = y3 + (1 : Int32) → K4 y2 x_6 z) ∧ (¬ y4 < 0 → s_X4_cardAt z y3 y4 (fun r_8 : Int64 => s_X0_numberOf r_8 (fun r_9 : Int32 => ((r_9 ≤ x1 → ∀ x_11 : Int32, x_11 = y3 + (1 : Int32) → K4 y2 x_11 z) ∧ (¬ r_9 ≤ x1 → vp_in y3 12 ∧ s_X4_cardAt z y3 y4 (fun r_13 : Int64 => s_X0_sizeOf r_13 (fun r_14 : Int32 => vp_in y3 12 ∧ ∀ f_15 : Nat → Int32, f_15 = upd z.2.2.1 y3.toNatClampNeg ((z.2.2.1 y3.toNatClampNeg) - r_14) → vp_in y3 12 ∧ ∀ f_16 : Nat → Int32, f_16 = upd z.2.1 y3.toNatClampNeg y4 → ∀ x_17 : Int32, x_17 = y2 + (1 : Int32) → ∀ x_18 : Int32, x_18 = y4 + (-1 : Int32) → K20 x_17 y3 x_18 (z.1, f_16, f_15, z.2.2.2.1, z.2.2.2.2)))))))))
theorem zc_X4_cutAbove : zCalV RX4 yX4_cutAbove cX4_cutAbove 5 (some .int) 1 := ⟨q_im_X4_cutAbove, q_se_X4_cutAbove, q_in_X4, q_cd_X4_cutAbove, ⟨by decide, by decide, by decide +kernel⟩, rfl⟩
abbrev rm_X4_cutAbove : Room := { frames := 2, cells := 0, slots := 0, locals := 42 }
def v_X4_cutAbove (u : zSegs) (x1 : Int32) (Q : Int32 → zSegs → Prop) : Prop := ∃ I4 : Nat → Int32 → Int32 → zSegs → Prop, ∃ I20 : Nat → Int32 → Int32 → Int32 → zSegs → Prop, (∀ (n : Nat) (y2 : Int32) (y3 : Int32) (z : zSegs), I4 n y2 y3 z → t_X4_cutAbove_4 x1 y2 y3 z (fun q0 q1 q2 => ∃ k : Nat, k < n ∧ I4 k q0 q1 q2) (fun q0 q1 q2 q3 => ∃ k : Nat, k < n ∧ I20 k q0 q1 q2 q3) Q) ∧ (∀ (n : Nat) (y2 : Int32) (y3 : Int32) (y4 : Int32) (z : zSegs), I20 n y2 y3 y4 z → t_X4_cutAbove_20 x1 y2 y3 y4 z (fun q0 q1 q2 => ∃ k : Nat, k < n ∧ I4 k q0 q1 q2) (fun q0 q1 q2 q3 => ∃ k : Nat, k < n ∧ I20 k q0 q1 q2 q3) Q) ∧ t_X4_cutAbove_e u x1 (fun q0 q1 q2 => ∃ k : Nat, I4 k q0 q1 q2) (fun q0 q1 q2 q3 => ∃ k : Nat, I20 k q0 q1 q2 q3) Q
set_option maxHeartbeats 4000000 in
set_option maxRecDepth 100000 in
theorem L_X4_cutAbove (l : Launch) (dC : Nat → ClassId) (dI : Nat → Nat → Nat) (cI cJ cS : ClassId) (a : Nat → Nat) (u : zSegs) (x1 : Int32) (Q : Int32 → zSegs → Prop) (I4 : Nat → Int32 → Int32 → zSegs → Prop) (I20 : Nat → Int32 → Int32 → Int32 → zSegs → Prop) (h4 : ∀ (n : Nat) (y2 : Int32) (y3 : Int32) (z : zSegs), I4 n y2 y3 z → t_X4_cutAbove_4 x1 y2 y3 z (fun q0 q1 q2 => ∃ k : Nat, k < n ∧ I4 k q0 q1 q2) (fun q0 q1 q2 q3 => ∃ k : Nat, k < n ∧ I20 k q0 q1 q2 q3) Q) (h20 : ∀ (n : Nat) (y2 : Int32) (y3 : Int32) (y4 : Int32) (z : zSegs), I20 n y2 y3 y4 z → t_X4_cutAbove_20 x1 y2 y3 y4 z (fun q0 q1 q2 => ∃ k : Nat, k < n ∧ I4 k q0 q1 q2) (fun q0 q1 q2 q3 => ∃ k : Nat, k < n ∧ I20 k q0 q1 q2 q3) Q) (hf : t_X4_cutAbove_e u x1 (fun q0 q1 q2 => ∃ k : Nat, I4 k q0 q1 q2) (fun q0 q1 q2 q3 => ∃ k : Nat, I20 k q0 q1 q2 q3) Q) : ∀ sz : Nat, Met l yX4_cutAbove (Cond.code yX4_cutAbove cX4_cutAbove 5 (some .int) :: zT) rm_X4_cutAbove (zPm dC dI cI cJ cS (cl_X4 cI cJ a u) [.ref (a 0), .int x1] sz) (va_Qi Q (zB dC dI cI cJ cS (va_A (cl_X4 cI cJ a u) sz) (fun z => cl_X4 cI cJ a z)) (va_A (cl_X4 cI cJ a u) sz)) 0 0 (va_A (cl_X4 cI cJ a u) sz) := by
  intro sz
  refine z_enterM (Qc := fun A => va_Qi Q (zB dC dI cI cJ cS A (fun z => cl_X4 cI cJ a z)) A) (cc := cX4_cutAbove) (maxL := 5) (ret := (some .int)) (by decide) (Nat.le_of_ble_eq_true rfl) ?_
  intro p e s m below meth c ls A X hP hD hS hA hl
  obtain ⟨⟨hx, hb, hml, hown, hts⟩, hr, hlk, hK⟩ := id X
  have hl : lv_has ls 5 [(0, .ref (a 0)), (1, .int x1)] := hl
  have LP : ∀ n : Nat, (∀ (y2 : Int32) (y3 : Int32) (z : zSegs) (H : Heap) (locs : List Loc) (ls : Array Slot), I4 n y2 y3 z → va_P (dC, dI) vwCl (cl_X4 cI cJ a z) H → va_D A (cl_X4 cI cJ a z) → va_S A s.heap H locs → lv_has ls 5 [(0, .ref (a 0)), (1, .int x1), (2, .int y2), (3, .int y3)] → W p l e rm_X4_cutAbove s m [.ref (a 0), .int x1].toArray below meth c H locs 0 0 (MQ below (va_Qi Q (zB dC dI cI cJ cS A (fun z => cl_X4 cI cJ a z)) A) [.ref (a 0), .int x1].toArray s 0 0 A) (F0 m 4 ls [])) ∧ (∀ (y2 : Int32) (y3 : Int32) (y4 : Int32) (z : zSegs) (H : Heap) (locs : List Loc) (ls : Array Slot), I20 n y2 y3 y4 z → va_P (dC, dI) vwCl (cl_X4 cI cJ a z) H → va_D A (cl_X4 cI cJ a z) → va_S A s.heap H locs → lv_has ls 5 [(0, .ref (a 0)), (1, .int x1), (2, .int y2), (3, .int y3), (4, .int y4)] → W p l e rm_X4_cutAbove s m [.ref (a 0), .int x1].toArray below meth c H locs 0 0 (MQ below (va_Qi Q (zB dC dI cI cJ cS A (fun z => cl_X4 cI cJ a z)) A) [.ref (a 0), .int x1].toArray s 0 0 A) (F0 m 20 ls [])) := by
    intro n
    induction n using Nat.strongRecOn with
    | _ n ih =>
      refine ⟨?_, ?_⟩
      · intro y2 y3 z H locs ls hI hP hD hS hl
        have hf := h4 n y2 y3 z hI
        unfold t_X4_cutAbove_4 at hf
        refine lv_iload_n hx hb dX4_cutAbove_4 rfl (lv_at hl 3 rfl) ?_
        refine lv_bipush (v := 12) hx hb dX4_cutAbove_5 (by decide) ?_
        refine lv_icmp_ge (tgt := 81) hx hb dX4_cutAbove_7 (by decide) (fun c_2 => ?_) (fun c_2 => ?_)
        · have hf := hf.1 c_2
          refine lv_iload_n hx hb dX4_cutAbove_81 rfl (lv_at hl 2 rfl) ?_
          exact z_retMi (Wf := (fun z => cl_X4 cI cJ a z)) (u := z) X hf hP hD hS dX4_cutAbove_82
        · have hf := hf.2 c_2
          refine lv_aload_n hx hb dX4_cutAbove_10 rfl (lv_at hl 0 rfl) ?_
          refine va_get (D := (dC, dI)) (ci := 3) (v := .ref (a 2)) (C := RX4) (T := TX4) (N := 5) hx hb hts inX4 hown hK hP 0 rfl rfl 1 (by decide) (hts _ q_fl_X4_15) (fun _ h9 => h9) rfl dX4_cutAbove_11 ?_
          refine lv_iload_n hx hb dX4_cutAbove_14 rfl (lv_at hl 3 rfl) ?_
          obtain ⟨hg, hf⟩ := hf
          refine va_iald hx hb hK hP 2 0 rfl rfl hg dX4_cutAbove_15 ?_
          refine lv_iconst (v := 1) hx hb dX4_cutAbove_16 (by decide) ?_
          refine lv_isub hx hb dX4_cutAbove_17 ?_
          refine lv_topi (fun x_3 ex_3 => ?_)
          have hf := hf x_3 ex_3
          refine lv_istore (lv' := [(4, .int x_3), (0, .ref (a 0)), (1, .int x1), (2, .int y2), (3, .int y3)]) hx hb dX4_cutAbove_18 hl (by decide) rfl (fun ls hl => ?_)
          obtain ⟨k_4, hk_4, hf⟩ := hf
          exact (ih k_4 hk_4).2 _ _ _ z _ _ ls hf hP hD hS (lv_sub hl [1, 2, 3, 4, 0] rfl)
      · intro y2 y3 y4 z H locs ls hI hP hD hS hl
        have hf := h20 n y2 y3 y4 z hI
        unfold t_X4_cutAbove_20 at hf
        refine lv_iload hx hb dX4_cutAbove_20 (lv_at hl 4 rfl) ?_
        refine lv_if_lt (tgt := 75) hx hb dX4_cutAbove_22 (by decide) (fun c_5 => ?_) (fun c_5 => ?_)
        · have hf := hf.1 c_5
          obtain ⟨x_6, ex_6⟩ : ∃ y : Int32, y = y3 + (1 : Int32) := ⟨_, rfl⟩
          have hf := hf x_6 ex_6
          refine lv_iinc (v := x_6) (lv' := [(3, .int x_6), (0, .ref (a 0)), (1, .int x1), (2, .int y2), (4, .int y4)]) hx hb dX4_cutAbove_75 hl (k := 3) rfl (by rw [ex_6]; rfl) (by decide) rfl (fun ls hl => ?_)
          refine lv_goto (tgt := 4) hx hb dX4_cutAbove_78 (by decide) ?_
          obtain ⟨k_7, hk_7, hf⟩ := hf
          exact (ih k_7 hk_7).1 _ _ z _ _ ls hf hP hD hS (lv_sub hl [1, 2, 3, 0] rfl)
        · have hf := hf.2 c_5
          refine lv_aload_n hx hb dX4_cutAbove_25 rfl (lv_at hl 0 rfl) ?_
          refine lv_iload_n hx hb dX4_cutAbove_26 rfl (lv_at hl 3 rfl) ?_
          refine lv_iload hx hb dX4_cutAbove_27 (lv_at hl 4 rfl) ?_
          refine z_cVl (As := [.int y3, .int y4]) (rest := []) X (c_X4_cardAt l dC dI cI cJ cS a z y3 y4 _ hf) zc_X4_cardAt q_ml_X4_48 ⟨rfl, rfl⟩ ⟨Nat.le_of_ble_eq_true rfl, Nat.le_of_ble_eq_true rfl⟩ hP [0, 1, 2, 3, 4] rfl 3 rfl rfl hl.1 rfl rfl (Nat.le_of_ble_eq_true rfl) ⟨Nat.zero_le _, Nat.zero_le _⟩ dX4_cutAbove_29 (fun r_8 hf => ?_)
          refine z_cSi (As := [.long r_8]) (rest := []) X (c_X0_numberOf l dC dI cI cJ cS   r_8 _ hf) zc_X0_numberOf q_ml_X4_52 ⟨rfl, rfl⟩ ⟨Nat.le_of_ble_eq_true rfl, Nat.le_of_ble_eq_true rfl⟩ hP [] rfl hl.1 rfl rfl (Nat.le_of_ble_eq_true rfl) ⟨Nat.zero_le _, Nat.zero_le _⟩ dX4_cutAbove_32 (fun r_9 hf => ?_)
          refine lv_iload_n hx hb dX4_cutAbove_35 rfl (lv_at hl 1 rfl) ?_
          refine lv_icmp_le (tgt := 75) hx hb dX4_cutAbove_36 (by decide) (fun c_10 => ?_) (fun c_10 => ?_)
          · have hf := hf.1 c_10
            obtain ⟨x_11, ex_11⟩ : ∃ y : Int32, y = y3 + (1 : Int32) := ⟨_, rfl⟩
            have hf := hf x_11 ex_11
            refine lv_iinc (v := x_11) (lv' := [(3, .int x_11), (0, .ref (a 0)), (1, .int x1), (2, .int y2), (4, .int y4)]) hx hb dX4_cutAbove_75 hl (k := 3) rfl (by rw [ex_11]; rfl) (by decide) rfl (fun ls hl => ?_)
            refine lv_goto (tgt := 4) hx hb dX4_cutAbove_78 (by decide) ?_
            obtain ⟨k_12, hk_12, hf⟩ := hf
            exact (ih k_12 hk_12).1 _ _ z _ _ ls hf hP hD hS (lv_sub hl [1, 2, 3, 0] rfl)
          · have hf := hf.2 c_10
            refine lv_aload_n hx hb dX4_cutAbove_39 rfl (lv_at hl 0 rfl) ?_
            refine va_get (D := (dC, dI)) (ci := 3) (v := .ref (a 3)) (C := RX4) (T := TX4) (N := 5) hx hb hts inX4 hown hK hP 0 rfl rfl 2 (by decide) (hts _ q_fl_X4_19) (fun _ h9 => h9) rfl dX4_cutAbove_40 ?_
            refine lv_iload_n hx hb dX4_cutAbove_43 rfl (lv_at hl 3 rfl) ?_
            refine lv_dup2_11 hx hb dX4_cutAbove_44 rfl rfl ?_
            obtain ⟨hg, hf⟩ := hf
            refine va_iald hx hb hK hP 3 0 rfl rfl hg dX4_cutAbove_45 ?_
            refine lv_aload_n hx hb dX4_cutAbove_46 rfl (lv_at hl 0 rfl) ?_
            refine lv_iload_n hx hb dX4_cutAbove_47 rfl (lv_at hl 3 rfl) ?_
            refine lv_iload hx hb dX4_cutAbove_48 (lv_at hl 4 rfl) ?_
            refine z_cVl (As := [.int y3, .int y4]) (rest := [.int (z.2.2.1 y3.toNatClampNeg), .int y3, .ref (a 3)]) X (c_X4_cardAt l dC dI cI cJ cS a z y3 y4 _ hf) zc_X4_cardAt q_ml_X4_48 ⟨rfl, rfl⟩ ⟨Nat.le_of_ble_eq_true rfl, Nat.le_of_ble_eq_true rfl⟩ hP [0, 1, 2, 3, 4] rfl 3 rfl rfl hl.1 rfl rfl (Nat.le_of_ble_eq_true rfl) ⟨Nat.zero_le _, Nat.zero_le _⟩ dX4_cutAbove_50 (fun r_13 hf => ?_)
            refine z_cSi (As := [.long r_13]) (rest := [.int (z.2.2.1 y3.toNatClampNeg), .int y3, .ref (a 3)]) X (c_X0_sizeOf l dC dI cI cJ cS   r_13 _ hf) zc_X0_sizeOf q_ml_X4_71 ⟨rfl, rfl⟩ ⟨Nat.le_of_ble_eq_true rfl, Nat.le_of_ble_eq_true rfl⟩ hP [] rfl hl.1 rfl rfl (Nat.le_of_ble_eq_true rfl) ⟨Nat.zero_le _, Nat.zero_le _⟩ dX4_cutAbove_53 (fun r_14 hf => ?_)
            refine lv_isub hx hb dX4_cutAbove_56 ?_
            obtain ⟨hg, hf⟩ := hf
            refine z_iast (Wn := fun f_15 => cl_X4 cI cJ a (z.1, z.2.1, f_15, z.2.2.2.1, z.2.2.2.2)) X hP hD hS 3 0 rfl rfl hg (fun _ => rfl) dX4_cutAbove_57 (fun f_15 H locs ef_15 hP hD hS => ?_)
            have hf := hf f_15 ef_15
            refine lv_aload_n hx hb dX4_cutAbove_58 rfl (lv_at hl 0 rfl) ?_
            refine va_get (D := (dC, dI)) (ci := 3) (v := .ref (a 2)) (C := RX4) (T := TX4) (N := 5) hx hb hts inX4 hown hK hP 0 rfl rfl 1 (by decide) (hts _ q_fl_X4_15) (fun _ h9 => h9) rfl dX4_cutAbove_59 ?_
            refine lv_iload_n hx hb dX4_cutAbove_62 rfl (lv_at hl 3 rfl) ?_
            refine lv_iload hx hb dX4_cutAbove_63 (lv_at hl 4 rfl) ?_
            obtain ⟨hg, hf⟩ := hf
            refine z_iast (Wn := fun f_16 => cl_X4 cI cJ a (z.1, f_16, f_15, z.2.2.2.1, z.2.2.2.2)) X hP hD hS 2 0 rfl rfl hg (fun _ => rfl) dX4_cutAbove_65 (fun f_16 H locs ef_16 hP hD hS => ?_)
            have hf := hf f_16 ef_16
            obtain ⟨x_17, ex_17⟩ : ∃ y : Int32, y = y2 + (1 : Int32) := ⟨_, rfl⟩
            have hf := hf x_17 ex_17
            refine lv_iinc (v := x_17) (lv' := [(2, .int x_17), (0, .ref (a 0)), (1, .int x1), (3, .int y3), (4, .int y4)]) hx hb dX4_cutAbove_66 hl (k := 2) rfl (by rw [ex_17]; rfl) (by decide) rfl (fun ls hl => ?_)
            obtain ⟨x_18, ex_18⟩ : ∃ y : Int32, y = y4 + (-1 : Int32) := ⟨_, rfl⟩
            have hf := hf x_18 ex_18
            refine lv_iinc (v := x_18) (lv' := [(4, .int x_18), (2, .int x_17), (0, .ref (a 0)), (1, .int x1), (3, .int y3)]) hx hb dX4_cutAbove_69 hl (k := 4) rfl (by rw [ex_18]; rfl) (by decide) rfl (fun ls hl => ?_)
            refine lv_goto (tgt := 20) hx hb dX4_cutAbove_72 (by decide) ?_
            obtain ⟨k_19, hk_19, hf⟩ := hf
            exact (ih k_19 hk_19).2 _ _ _ (z.1, f_16, f_15, z.2.2.2.1, z.2.2.2.2) _ _ ls hf hP hD hS (lv_sub hl [2, 3, 1, 4, 0] rfl)
  unfold t_X4_cutAbove_e at hf
  refine lv_iconst (v := 0) hx hb dX4_cutAbove_0 (by decide) ?_
  refine lv_istore_n (lv' := [(2, .int (0 : Int32)), (0, .ref (a 0)), (1, .int x1)]) hx hb dX4_cutAbove_1 rfl hl (by decide) rfl (fun ls hl => ?_)
  refine lv_iconst (v := 0) hx hb dX4_cutAbove_2 (by decide) ?_
  refine lv_istore_n (lv' := [(3, .int (0 : Int32)), (2, .int (0 : Int32)), (0, .ref (a 0)), (1, .int x1)]) hx hb dX4_cutAbove_3 rfl hl (by decide) rfl (fun ls hl => ?_)
  obtain ⟨k_1, hf⟩ := hf
  exact (LP k_1).1 _ _ u _ _ ls hf hP hD hS (lv_sub hl [2, 3, 1, 0] rfl)
/-- how many of the first n records of a segment stay below a number; what is taken then -/
def zCut (g : zSegs) (x : Int32) (s : Nat) : Nat → Nat
  | 0 => 0
  | n + 1 => if cNum (g.1 (50 * s + n)) ≤ x then n + 1 else zCut g x s n
def zCuT (g : zSegs) (x : Int32) (s : Nat) : Nat → Int32 → Int32
  | 0, t => t
  | n + 1, t => if cNum (g.1 (50 * s + n)) ≤ x then t else zCuT g x s n (t - (4 + cLen (g.1 (50 * s + n))))
def gNn (g : zSegs) (s : Nat) : Nat := (g.2.1 s).toNatClampNeg
def zCo (g : zSegs) (x : Int32) (i : Nat) : zSegs := (g.1, fun q => if q < i then nI (zCut g x q (gNn g q)) else g.2.1 q, fun q => if q < i then zCuT g x q (gNn g q) (g.2.2.1 q) else g.2.2.1 q, g.2.2.2.1, g.2.2.2.2)
def zGone (g : zSegs) (x : Int32) : Nat → Nat
  | 0 => 0
  | s + 1 => zGone g x s + (gNn g s - zCut g x s (gNn g s))
def zCi (g : zSegs) (x : Int32) (s n : Nat) (t : Int32) : zSegs := (g.1, upd (zCo g x s).2.1 s (nI n), upd (zCo g x s).2.2.1 s t, g.2.2.2.1, g.2.2.2.2)
def s_X4_cutAbove (u : zSegs) (x1 : Int32) (Q : Int32 → zSegs → Prop) : Prop := (∀ s, s < 12 → u.2.1 s = nI (gNn u s) ∧ gNn u s ≤ 50) ∧ Q (nI (zGone u x1 12)) (zCo u x1 12)
theorem zCut_le (g : zSegs) (x : Int32) (s : Nat) : ∀ n, zCut g x s n ≤ n
  | 0 => Nat.le_refl 0
  | n + 1 => by
    have := zCut_le g x s n
    unfold zCut
    split <;> omega
theorem zCo_s (g : zSegs) (x : Int32) (s : Nat) : zCi g x s (zCut g x s (gNn g s)) (zCuT g x s (gNn g s) (g.2.2.1 s)) = zCo g x (s + 1) := by
  have e1 : upd (zCo g x s).2.1 s (nI (zCut g x s (gNn g s))) = (zCo g x (s + 1)).2.1 := by
    funext q
    unfold upd
    show (if q = s then _ else if q < s then _ else _) = (if q < s + 1 then _ else _)
    by_cases h : q = s
    · subst h; rw [if_pos rfl, if_pos (Nat.lt_succ_self q)]
    · rw [if_neg h]
      by_cases h2 : q < s
      · rw [if_pos h2, if_pos (by omega)]
      · rw [if_neg h2, if_neg (by omega)]
  have e2 : upd (zCo g x s).2.2.1 s (zCuT g x s (gNn g s) (g.2.2.1 s)) = (zCo g x (s + 1)).2.2.1 := by
    funext q
    unfold upd
    show (if q = s then _ else if q < s then _ else _) = (if q < s + 1 then _ else _)
    by_cases h : q = s
    · subst h; rw [if_pos rfl, if_pos (Nat.lt_succ_self q)]
    · rw [if_neg h]
      by_cases h2 : q < s
      · rw [if_pos h2, if_pos (by omega)]
      · rw [if_neg h2, if_neg (by omega)]
  unfold zCi
  rw [e1, e2]; rfl
theorem st_X4_cutAbove {u : zSegs} {x1 : Int32} {Q : Int32 → zSegs → Prop} (h : s_X4_cutAbove u x1 Q) : v_X4_cutAbove u x1 Q := by
  obtain ⟨hc, h⟩ := h
  refine ⟨fun m y2 y3 z => ∃ s : Nat, s ≤ 12 ∧ m = 1000 * (12 - s) + 500 ∧ y2 = nI (zGone u x1 s) ∧ y3 = nI s ∧ z = zCo u x1 s,
    fun m y2 y3 y4 z => ∃ (s n : Nat) (t : Int32), s < 12 ∧ n ≤ gNn u s ∧ m = 1000 * (12 - s) + n ∧ y2 = nI (zGone u x1 s + (gNn u s - n)) ∧ y3 = nI s ∧ y4 = nI n - 1 ∧ z = zCi u x1 s n t ∧ zCut u x1 s n = zCut u x1 s (gNn u s) ∧ zCuT u x1 s n t = zCuT u x1 s (gNn u s) (u.2.2.1 s), ?_, ?_, ?_⟩
  · rintro m y2 y3 z ⟨s, hs, rfl, rfl, rfl, rfl⟩
    refine ⟨fun c => ?_, fun c => ?_⟩
    · have : s = 12 := by
        have := (nI_leI (a := 12) (b := s) (by decide) (by omega)).mp c
        omega
      subst this
      exact h
    · have hs : s < 12 := by
        have : ¬ 12 ≤ s := fun q => c (le12 q (by omega))
        omega
      obtain ⟨e, h50⟩ := hc s hs
      refine ⟨vp_in_nI hs (by decide), fun x3 e3 => ?_⟩
      have ec : (zCo u x1 s).2.1 s = nI (gNn u s) := by
        show (if s < s then _ else u.2.1 s) = _
        rw [if_neg (Nat.lt_irrefl s)]; exact e
      have et : (zCo u x1 s).2.2.1 s = u.2.2.1 s := if_neg (Nat.lt_irrefl s)
      rw [nI_clamp (by omega), ec] at e3
      refine ⟨1000 * (12 - s) + gNn u s, by omega, s, gNn u s, u.2.2.1 s, hs, Nat.le_refl _, rfl, by rw [Nat.sub_self]; rfl, rfl, e3, ?_, rfl, rfl⟩
      unfold zCi
      rw [fa_upd_same ec, fa_upd_same et]; rfl
  · rintro m y2 y3 y4 z ⟨s, n, t, hs, hn, rfl, rfl, rfl, rfl, rfl, e1, e2⟩
    obtain ⟨e, h50⟩ := hc s hs
    have done : zCut u x1 s n = n → zCuT u x1 s n t = t → ∀ x6 : Int32, x6 = nI s + 1 → ∃ k, k < 1000 * (12 - s) + n ∧ ∃ s' : Nat, s' ≤ 12 ∧ k = 1000 * (12 - s') + 500 ∧ nI (zGone u x1 s + (gNn u s - n)) = nI (zGone u x1 s') ∧ x6 = nI s' ∧ zCi u x1 s n t = zCo u x1 s' := by
      intro d1 d2 x6 e6
      refine ⟨1000 * (12 - (s + 1)) + 500, by omega, s + 1, by omega, rfl, ?_, by rw [e6, nI_1], ?_⟩
      · show _ = nI (zGone u x1 s + (gNn u s - zCut u x1 s (gNn u s)))
        rw [← e1, d1]
      · rw [← zCo_s, ← e1, ← e2, d1, d2]
    have hz : (zCi u x1 s n t).2.1 s = nI n := if_pos rfl
    have ht : (zCi u x1 s n t).2.2.1 s = t := if_pos rfl
    refine ⟨fun c x6 e6 => ?_, fun c => ?_⟩
    · have hn0 : n = 0 := by
        by_cases q : n = 0
        · exact q
        · obtain ⟨k, rfl⟩ : ∃ k, n = k + 1 := ⟨n - 1, by omega⟩
          rw [nI_pred] at c
          exact absurd c (nI_pos (by omega))
      subst hn0
      exact done rfl rfl x6 e6
    · have hn0 : ¬ n = 0 := fun q => c (by rw [q]; decide)
      obtain ⟨k, rfl⟩ : ∃ k, n = k + 1 := ⟨n - 1, by omega⟩
      rw [nI_pred]
      refine ⟨s, k + 1, hs, by omega, rfl, hz, Or.inl ⟨k, Nat.lt_succ_self k, rfl, fun c2 x11 e11 => ?_, fun c2 => ⟨vp_in_nI hs (by decide), s, k + 1, hs, by omega, rfl, hz, Or.inl ⟨k, Nat.lt_succ_self k, rfl, vp_in_nI hs (by decide), fun f e3 => ⟨vp_in_nI hs (by decide), fun f2 e4 x17 e17 x18 e18 => ?_⟩⟩⟩⟩⟩
      · exact done (if_pos c2) (if_pos c2) x11 e11
      · have d1 : zCut u x1 s (k + 1) = zCut u x1 s k := if_neg c2
        have d2 : zCuT u x1 s (k + 1) t = zCuT u x1 s k (t - (4 + cLen (u.1 (50 * s + k)))) := if_neg c2
        rw [nI_clamp (by omega), ht] at e3
        rw [nI_clamp (by omega)] at e4
        refine ⟨1000 * (12 - s) + k, by omega, s, k, t - (4 + cLen (u.1 (50 * s + k))), hs, by omega, rfl, ?_, rfl, ?_, ?_, by rw [← d1]; exact e1, by rw [← d2]; exact e2⟩
        · rw [e17, nI_1]
          congr 1
          omega
        · rw [e18]; exact (Int32.sub_eq_add_neg (nI k) 1).symm
        · rw [e3, e4]
          show (u.1, upd (upd (zCo u x1 s).2.1 s (nI (k + 1))) s (nI k), upd (upd (zCo u x1 s).2.2.1 s t) s (t - (4 + cLen (u.1 (50 * s + k)))), u.2.2.2.1, u.2.2.2.2) = _
          rw [fa_upd_twice, fa_upd_twice]; rfl
  · refine ⟨1000 * (12 - 0) + 500, 0, by omega, rfl, rfl, rfl, ?_⟩
    show u = (u.1, fun q => if q < 0 then _ else u.2.1 q, fun q => if q < 0 then _ else u.2.2.1 q, u.2.2.2.1, u.2.2.2.2)
    rfl
theorem c_X4_cutAbove (l : Launch) (dC : Nat → ClassId) (dI : Nat → Nat → Nat) (cI cJ cS : ClassId) (a : Nat → Nat) (u : zSegs) (x1 : Int32) (Q : Int32 → zSegs → Prop) (hf : s_X4_cutAbove u x1 Q) : ∀ sz : Nat, Met l yX4_cutAbove (Cond.code yX4_cutAbove cX4_cutAbove 5 (some .int) :: zT) rm_X4_cutAbove (zPm dC dI cI cJ cS (cl_X4 cI cJ a u) [.ref (a 0), .int x1] sz) (va_Qi Q (zB dC dI cI cJ cS (va_A (cl_X4 cI cJ a u) sz) (fun z => cl_X4 cI cJ a z)) (va_A (cl_X4 cI cJ a u) sz)) 0 0 (va_A (cl_X4 cI cJ a u) sz) := by
  obtain ⟨I4, I20, h4, h20, hf⟩ := st_X4_cutAbove hf
  exact L_X4_cutAbove l dC dI cI cJ cS a u x1 Q I4 I20 h4 h20 hf

def t_X4_openLatest_e (u : zSegs) (K4 : Int32 → Int32 → zSegs → Prop) (Q : zSegs → Prop) : Prop := K4 (0 : Int32) (0 : Int32) u
def t_X4_openLatest_4 (y1 : Int32) (y2 : Int32) (z : zSegs) (K4 : Int32 → Int32 → zSegs → Prop) (Q : zSegs → Prop) : Prop := (((12 : Int32) ≤ y2 → s_X4_openAt z y1 (fun (u_4 : zSegs) => Q u_4)) ∧ (¬ (12 : Int32) ≤ y2 → vp_in y2 12 ∧ ((¬ (z.2.1 y2.toNatClampNeg) = 0 → vp_in y2 12 ∧ ∀ f_6 : Nat → Int32, f_6 = upd z.2.2.2.1 y2.toNatClampNeg (2 : Int32) → s_X4_greatestOf (z.1, z.2.1, z.2.2.1, f_6, z.2.2.2.2) y2 (fun r_7 : Int32 => s_X4_greatestOf (z.1, z.2.1, z.2.2.1, f_6, z.2.2.2.2) y1 (fun r_8 : Int32 => ((r_7 ≤ r_8 → ∀ x_10 : Int32, x_10 = y2 + (1 : Int32) → K4 y1 x_10 (z.1, z.2.1, z.2.2.1, f_6, z.2.2.2.2)) ∧ (¬ r_7 ≤ r_8 → ∀ x_12 : Int32, x_12 = y2 + (1 : Int32) → K4 y2 x_12 (z.1, z.2.1, z.2.2.1, f_6, z.2.2.2.2)))))) ∧ ((z.2.1 y2.toNatClampNeg) = 0 → vp_in y2 12 ∧ ∀ f_14 : Nat → Int32, f_14 = upd z.2.2.2.1 y2.toNatClampNeg (0 : Int32) → s_X4_greatestOf (z.1, z.2.1, z.2.2.1, f_14, z.2.2.2.2) y2 (fun r_15 : Int32 => s_X4_greatestOf (z.1, z.2.1, z.2.2.1, f_14, z.2.2.2.2) y1 (fun r_16 : Int32 => ((r_15 ≤ r_16 → ∀ x_18 : Int32, x_18 = y2 + (1 : Int32) → K4 y1 x_18 (z.1, z.2.1, z.2.2.1, f_14, z.2.2.2.2)) ∧ (¬ r_15 ≤ r_16 → ∀ x_20 : Int32, x_20 = y2 + (1 : Int32) → K4 y2 x_20 (z.1, z.2.1, z.2.2.1, f_14, z.2.2.2.2)))))))))
theorem zc_X4_openLatest : zCalV RX4 yX4_openLatest cX4_openLatest 3 none 0 := ⟨q_im_X4_openLatest, q_se_X4_openLatest, q_in_X4, q_cd_X4_openLatest, ⟨by decide, by decide, by decide +kernel⟩, rfl⟩
abbrev rm_X4_openLatest : Room := { frames := 2, cells := 0, slots := 0, locals := 43 }
def v_X4_openLatest (u : zSegs) (Q : zSegs → Prop) : Prop := ∃ I4 : Nat → Int32 → Int32 → zSegs → Prop, (∀ (n : Nat) (y1 : Int32) (y2 : Int32) (z : zSegs), I4 n y1 y2 z → t_X4_openLatest_4 y1 y2 z (fun q0 q1 q2 => ∃ k : Nat, k < n ∧ I4 k q0 q1 q2) Q) ∧ t_X4_openLatest_e u (fun q0 q1 q2 => ∃ k : Nat, I4 k q0 q1 q2) Q
set_option maxHeartbeats 4000000 in
set_option maxRecDepth 100000 in
theorem L_X4_openLatest (l : Launch) (dC : Nat → ClassId) (dI : Nat → Nat → Nat) (cI cJ cS : ClassId) (a : Nat → Nat) (u : zSegs) (Q : zSegs → Prop) (I4 : Nat → Int32 → Int32 → zSegs → Prop) (h4 : ∀ (n : Nat) (y1 : Int32) (y2 : Int32) (z : zSegs), I4 n y1 y2 z → t_X4_openLatest_4 y1 y2 z (fun q0 q1 q2 => ∃ k : Nat, k < n ∧ I4 k q0 q1 q2) Q) (hf : t_X4_openLatest_e u (fun q0 q1 q2 => ∃ k : Nat, I4 k q0 q1 q2) Q) : ∀ sz : Nat, Met l yX4_openLatest (Cond.code yX4_openLatest cX4_openLatest 3 none :: zT) rm_X4_openLatest (zPm dC dI cI cJ cS (cl_X4 cI cJ a u) [.ref (a 0)] sz) (va_Qv Q (zB dC dI cI cJ cS (va_A (cl_X4 cI cJ a u) sz) (fun z => cl_X4 cI cJ a z)) (va_A (cl_X4 cI cJ a u) sz)) 0 0 (va_A (cl_X4 cI cJ a u) sz) := by
  intro sz
  refine z_enterM (Qc := fun A => va_Qv Q (zB dC dI cI cJ cS A (fun z => cl_X4 cI cJ a z)) A) (cc := cX4_openLatest) (maxL := 3) (ret := none) (by decide) (Nat.le_of_ble_eq_true rfl) ?_
  intro p e s m below meth c ls A X hP hD hS hA hl
  obtain ⟨⟨hx, hb, hml, hown, hts⟩, hr, hlk, hK⟩ := id X
  have hl : lv_has ls 3 [(0, .ref (a 0))] := hl
  have LP : ∀ n : Nat, (∀ (y1 : Int32) (y2 : Int32) (z : zSegs) (H : Heap) (locs : List Loc) (ls : Array Slot), I4 n y1 y2 z → va_P (dC, dI) vwCl (cl_X4 cI cJ a z) H → va_D A (cl_X4 cI cJ a z) → va_S A s.heap H locs → lv_has ls 3 [(0, .ref (a 0)), (1, .int y1), (2, .int y2)] → W p l e rm_X4_openLatest s m [.ref (a 0)].toArray below meth c H locs 0 0 (MQ below (va_Qv Q (zB dC dI cI cJ cS A (fun z => cl_X4 cI cJ a z)) A) [.ref (a 0)].toArray s 0 0 A) (F0 m 4 ls [])) := by
    intro n
    induction n using Nat.strongRecOn with
    | _ n ih =>
      intro y1 y2 z H locs ls hI hP hD hS hl
      have hf := h4 n y1 y2 z hI
      unfold t_X4_openLatest_4 at hf
      refine lv_iload_n hx hb dX4_openLatest_4 rfl (lv_at hl 2 rfl) ?_
      refine lv_bipush (v := 12) hx hb dX4_openLatest_5 (by decide) ?_
      refine lv_icmp_ge (tgt := 51) hx hb dX4_openLatest_7 (by decide) (fun c_2 => ?_) (fun c_2 => ?_)
      · have hf := hf.1 c_2
        refine lv_aload_n hx hb dX4_openLatest_51 rfl (lv_at hl 0 rfl) ?_
        refine lv_iload_n hx hb dX4_openLatest_52 rfl (lv_at hl 1 rfl) ?_
        refine z_mVv (Wn := (fun u_4 => cl_X4 cI cJ a u_4)) (As := [.int y1]) (rest := []) (wr := []) X (c_X4_openAt l dC dI cI cJ cS a z y1 _ hf _) zc_X4_openAt q_ml_X4_39 ⟨rfl, rfl⟩ ⟨Nat.le_of_ble_eq_true rfl, Nat.le_of_ble_eq_true rfl⟩ hP hD hS hA [0, 1, 2, 3, 4] [] rfl (by decide) rfl (by decide) (by decide) [0, 1, 2, 3, 4] (by decide) (fun _ => rfl) 3 rfl rfl hl.1 rfl rfl (Nat.le_of_ble_eq_true rfl) ⟨Nat.zero_le _, Nat.zero_le _⟩ dX4_openLatest_53 (fun u_4 H locs hf hP hD hS => ?_)
        exact z_retMv (Wf := (fun z => cl_X4 cI cJ a z)) (u := u_4) X hf hP hD hS dX4_openLatest_56
      · have hf := hf.2 c_2
        refine lv_aload_n hx hb dX4_openLatest_10 rfl (lv_at hl 0 rfl) ?_
        refine va_get (D := (dC, dI)) (ci := 3) (v := .ref (a 4)) (C := RX4) (T := TX4) (N := 5) hx hb hts inX4 hown hK hP 0 rfl rfl 3 (by decide) (hts _ q_fl_X4_22) (fun _ h9 => h9) rfl dX4_openLatest_11 ?_
        refine lv_iload_n hx hb dX4_openLatest_14 rfl (lv_at hl 2 rfl) ?_
        refine lv_aload_n hx hb dX4_openLatest_15 rfl (lv_at hl 0 rfl) ?_
        refine va_get (D := (dC, dI)) (ci := 3) (v := .ref (a 2)) (C := RX4) (T := TX4) (N := 5) hx hb hts inX4 hown hK hP 0 rfl rfl 1 (by decide) (hts _ q_fl_X4_15) (fun _ h9 => h9) rfl dX4_openLatest_16 ?_
        refine lv_iload_n hx hb dX4_openLatest_19 rfl (lv_at hl 2 rfl) ?_
        obtain ⟨hg, hf⟩ := hf
        refine va_iald hx hb hK hP 2 0 rfl rfl hg dX4_openLatest_20 ?_
        refine lv_if_ne (tgt := 28) hx hb dX4_openLatest_21 (by decide) (fun c_5 => ?_) (fun c_5 => ?_)
        · have hf := hf.1 c_5
          refine lv_iconst (v := 2) hx hb dX4_openLatest_28 (by decide) ?_
          obtain ⟨hg, hf⟩ := hf
          refine z_iast (Wn := fun f_6 => cl_X4 cI cJ a (z.1, z.2.1, z.2.2.1, f_6, z.2.2.2.2)) X hP hD hS 4 0 rfl rfl hg (fun _ => rfl) dX4_openLatest_29 (fun f_6 H locs ef_6 hP hD hS => ?_)
          have hf := hf f_6 ef_6
          refine lv_aload_n hx hb dX4_openLatest_30 rfl (lv_at hl 0 rfl) ?_
          refine lv_iload_n hx hb dX4_openLatest_31 rfl (lv_at hl 2 rfl) ?_
          refine z_cVi (As := [.int y2]) (rest := []) X (c_X4_greatestOf l dC dI cI cJ cS a (z.1, z.2.1, z.2.2.1, f_6, z.2.2.2.2) y2 _ hf) zc_X4_greatestOf q_ml_X4_74 ⟨rfl, rfl⟩ ⟨Nat.le_of_ble_eq_true rfl, Nat.le_of_ble_eq_true rfl⟩ hP [0, 1, 2, 3, 4] rfl 3 rfl rfl hl.1 rfl rfl (Nat.le_of_ble_eq_true rfl) ⟨Nat.zero_le _, Nat.zero_le _⟩ dX4_openLatest_32 (fun r_7 hf => ?_)
          refine lv_aload_n hx hb dX4_openLatest_35 rfl (lv_at hl 0 rfl) ?_
          refine lv_iload_n hx hb dX4_openLatest_36 rfl (lv_at hl 1 rfl) ?_
          refine z_cVi (As := [.int y1]) (rest := [.int r_7]) X (c_X4_greatestOf l dC dI cI cJ cS a (z.1, z.2.1, z.2.2.1, f_6, z.2.2.2.2) y1 _ hf) zc_X4_greatestOf q_ml_X4_74 ⟨rfl, rfl⟩ ⟨Nat.le_of_ble_eq_true rfl, Nat.le_of_ble_eq_true rfl⟩ hP [0, 1, 2, 3, 4] rfl 3 rfl rfl hl.1 rfl rfl (Nat.le_of_ble_eq_true rfl) ⟨Nat.zero_le _, Nat.zero_le _⟩ dX4_openLatest_37 (fun r_8 hf => ?_)
          refine lv_icmp_le (tgt := 45) hx hb dX4_openLatest_40 (by decide) (fun c_9 => ?_) (fun c_9 => ?_)
          · have hf := hf.1 c_9
            obtain ⟨x_10, ex_10⟩ : ∃ y : Int32, y = y2 + (1 : Int32) := ⟨_, rfl⟩
            have hf := hf x_10 ex_10
            refine lv_iinc (v := x_10) (lv' := [(2, .int x_10), (0, .ref (a 0)), (1, .int y1)]) hx hb dX4_openLatest_45 hl (k := 2) rfl (by rw [ex_10]; rfl) (by decide) rfl (fun ls hl => ?_)
            refine lv_goto (tgt := 4) hx hb dX4_openLatest_48 (by decide) ?_
            obtain ⟨k_11, hk_11, hf⟩ := hf
            exact (ih k_11 hk_11) _ _ (z.1, z.2.1, z.2.2.1, f_6, z.2.2.2.2) _ _ ls hf hP hD hS (lv_sub hl [1, 2, 0] rfl)
          · have hf := hf.2 c_9
            refine lv_iload_n hx hb dX4_openLatest_43 rfl (lv_at hl 2 rfl) ?_
            refine lv_istore_n (lv' := [(1, .int y2), (0, .ref (a 0)), (2, .int y2)]) hx hb dX4_openLatest_44 rfl hl (by decide) rfl (fun ls hl => ?_)
            obtain ⟨x_12, ex_12⟩ : ∃ y : Int32, y = y2 + (1 : Int32) := ⟨_, rfl⟩
            have hf := hf x_12 ex_12
            refine lv_iinc (v := x_12) (lv' := [(2, .int x_12), (1, .int y2), (0, .ref (a 0))]) hx hb dX4_openLatest_45 hl (k := 2) rfl (by rw [ex_12]; rfl) (by decide) rfl (fun ls hl => ?_)
            refine lv_goto (tgt := 4) hx hb dX4_openLatest_48 (by decide) ?_
            obtain ⟨k_13, hk_13, hf⟩ := hf
            exact (ih k_13 hk_13) _ _ (z.1, z.2.1, z.2.2.1, f_6, z.2.2.2.2) _ _ ls hf hP hD hS (lv_sub hl [2, 1, 0] rfl)
        · have hf := hf.2 c_5
          refine lv_iconst (v := 0) hx hb dX4_openLatest_24 (by decide) ?_
          refine lv_goto (tgt := 29) hx hb dX4_openLatest_25 (by decide) ?_
          obtain ⟨hg, hf⟩ := hf
          refine z_iast (Wn := fun f_14 => cl_X4 cI cJ a (z.1, z.2.1, z.2.2.1, f_14, z.2.2.2.2)) X hP hD hS 4 0 rfl rfl hg (fun _ => rfl) dX4_openLatest_29 (fun f_14 H locs ef_14 hP hD hS => ?_)
          have hf := hf f_14 ef_14
          refine lv_aload_n hx hb dX4_openLatest_30 rfl (lv_at hl 0 rfl) ?_
          refine lv_iload_n hx hb dX4_openLatest_31 rfl (lv_at hl 2 rfl) ?_
          refine z_cVi (As := [.int y2]) (rest := []) X (c_X4_greatestOf l dC dI cI cJ cS a (z.1, z.2.1, z.2.2.1, f_14, z.2.2.2.2) y2 _ hf) zc_X4_greatestOf q_ml_X4_74 ⟨rfl, rfl⟩ ⟨Nat.le_of_ble_eq_true rfl, Nat.le_of_ble_eq_true rfl⟩ hP [0, 1, 2, 3, 4] rfl 3 rfl rfl hl.1 rfl rfl (Nat.le_of_ble_eq_true rfl) ⟨Nat.zero_le _, Nat.zero_le _⟩ dX4_openLatest_32 (fun r_15 hf => ?_)
          refine lv_aload_n hx hb dX4_openLatest_35 rfl (lv_at hl 0 rfl) ?_
          refine lv_iload_n hx hb dX4_openLatest_36 rfl (lv_at hl 1 rfl) ?_
          refine z_cVi (As := [.int y1]) (rest := [.int r_15]) X (c_X4_greatestOf l dC dI cI cJ cS a (z.1, z.2.1, z.2.2.1, f_14, z.2.2.2.2) y1 _ hf) zc_X4_greatestOf q_ml_X4_74 ⟨rfl, rfl⟩ ⟨Nat.le_of_ble_eq_true rfl, Nat.le_of_ble_eq_true rfl⟩ hP [0, 1, 2, 3, 4] rfl 3 rfl rfl hl.1 rfl rfl (Nat.le_of_ble_eq_true rfl) ⟨Nat.zero_le _, Nat.zero_le _⟩ dX4_openLatest_37 (fun r_16 hf => ?_)
          refine lv_icmp_le (tgt := 45) hx hb dX4_openLatest_40 (by decide) (fun c_17 => ?_) (fun c_17 => ?_)
          · have hf := hf.1 c_17
            obtain ⟨x_18, ex_18⟩ : ∃ y : Int32, y = y2 + (1 : Int32) := ⟨_, rfl⟩
            have hf := hf x_18 ex_18
            refine lv_iinc (v := x_18) (lv' := [(2, .int x_18), (0, .ref (a 0)), (1, .int y1)]) hx hb dX4_openLatest_45 hl (k := 2) rfl (by rw [ex_18]; rfl) (by decide) rfl (fun ls hl => ?_)
            refine lv_goto (tgt := 4) hx hb dX4_openLatest_48 (by decide) ?_
            obtain ⟨k_19, hk_19, hf⟩ := hf
            exact (ih k_19 hk_19) _ _ (z.1, z.2.1, z.2.2.1, f_14, z.2.2.2.2) _ _ ls hf hP hD hS (lv_sub hl [1, 2, 0] rfl)
          · have hf := hf.2 c_17
            refine lv_iload_n hx hb dX4_openLatest_43 rfl (lv_at hl 2 rfl) ?_
            refine lv_istore_n (lv' := [(1, .int y2), (0, .ref (a 0)), (2, .int y2)]) hx hb dX4_openLatest_44 rfl hl (by decide) rfl (fun ls hl => ?_)
            obtain ⟨x_20, ex_20⟩ : ∃ y : Int32, y = y2 + (1 : Int32) := ⟨_, rfl⟩
            have hf := hf x_20 ex_20
            refine lv_iinc (v := x_20) (lv' := [(2, .int x_20), (1, .int y2), (0, .ref (a 0))]) hx hb dX4_openLatest_45 hl (k := 2) rfl (by rw [ex_20]; rfl) (by decide) rfl (fun ls hl => ?_)
            refine lv_goto (tgt := 4) hx hb dX4_openLatest_48 (by decide) ?_
            obtain ⟨k_21, hk_21, hf⟩ := hf
            exact (ih k_21 hk_21) _ _ (z.1, z.2.1, z.2.2.1, f_14, z.2.2.2.2) _ _ ls hf hP hD hS (lv_sub hl [2, 1, 0] rfl)
  unfold t_X4_openLatest_e at hf
  refine lv_iconst (v := 0) hx hb dX4_openLatest_0 (by decide) ?_
  refine lv_istore_n (lv' := [(1, .int (0 : Int32)), (0, .ref (a 0))]) hx hb dX4_openLatest_1 rfl hl (by decide) rfl (fun ls hl => ?_)
  refine lv_iconst (v := 0) hx hb dX4_openLatest_2 (by decide) ?_
  refine lv_istore_n (lv' := [(2, .int (0 : Int32)), (1, .int (0 : Int32)), (0, .ref (a 0))]) hx hb dX4_openLatest_3 rfl hl (by decide) rfl (fun ls hl => ?_)
  obtain ⟨k_1, hf⟩ := hf
  exact (LP k_1) _ _ u _ _ ls hf hP hD hS (lv_sub hl [2, 1, 0] rfl)
/-- the greatest number in a segment, 0 without; the segment that has the greatest of the first i -/
def zGr (g : zSegs) (s : Nat) : Int32 := if gNn g s = 0 then 0 else cNum (g.1 (50 * s + (gNn g s - 1)))
def zLt (g : zSegs) : Nat → Nat
  | 0 => 0
  | i + 1 => if zGr g i ≤ zGr g (zLt g i) then zLt g i else i
theorem zLt_lt (g : zSegs) : ∀ i, i ≤ 12 → zLt g i < 12
  | 0, _ => by show 0 < 12; decide
  | i + 1, h => by
    have := zLt_lt g i (by omega)
    unfold zLt
    split <;> omega
def zKd (g : zSegs) (i : Nat) : Nat → Int32 := fun q => if q < i then (if g.2.1 q = 0 then 0 else 2) else g.2.2.2.1 q
def zOpL (g : zSegs) : zSegs := (g.1, g.2.1, g.2.2.1, upd (zKd g 12) (zLt g 12) 1, nI (zLt g 12))
def s_X4_openLatest (u : zSegs) (Q : zSegs → Prop) : Prop := (∀ s, s < 12 → u.2.1 s = nI (gNn u s) ∧ gNn u s ≤ 50) ∧ Q (zOpL u)
theorem zKd_s (g : zSegs) (i : Nat) : upd (zKd g i) i (if g.2.1 i = 0 then 0 else 2) = zKd g (i + 1) := by
  funext q
  unfold upd zKd
  by_cases h : q = i
  · subst h; rw [if_pos rfl, if_pos (show q < q + 1 by omega)]
  · rw [if_neg h]
    by_cases h2 : q < i
    · rw [if_pos h2, if_pos (show q < i + 1 by omega)]
    · rw [if_neg h2, if_neg (show ¬ q < i + 1 by omega)]
theorem st_X4_openLatest {u : zSegs} {Q : zSegs → Prop} (h : s_X4_openLatest u Q) : v_X4_openLatest u Q := by
  obtain ⟨hc, h⟩ := h
  refine zlp3 (T := fun y1 y2 z K => t_X4_openLatest_4 y1 y2 z K Q) (E := fun K => t_X4_openLatest_e u K Q) 12 (fun i => nI (zLt u i)) (fun i => nI i) (fun i => (u.1, u.2.1, u.2.2.1, zKd u i, u.2.2.2.2)) (fun K hK => ?_) ?_ ?_
  · have hK : K (nI 0) (nI 0) (u.1, u.2.1, u.2.2.1, zKd u 0, u.2.2.2.2) := hK
    rw [show zKd u 0 = u.2.2.2.1 from funext fun q => if_neg (Nat.not_lt_zero q)] at hK
    exact hK
  · intro i hi K hK
    obtain ⟨e, h50⟩ := hc i hi
    have hlt := zLt_lt u i (by omega)
    obtain ⟨e2, h502⟩ := hc (zLt u i) hlt
    have hK : K (nI (zLt u (i + 1))) (nI (i + 1)) (u.1, u.2.1, u.2.2.1, zKd u (i + 1), u.2.2.2.2) := hK
    rw [← zKd_s] at hK
    have hu : zLt u (i + 1) = if zGr u i ≤ zGr u (zLt u i) then zLt u i else i := rfl
    rw [hu] at hK
    unfold t_X4_openLatest_4
    rw [nI_clamp (by omega)]
    refine ⟨fun c => absurd c (ge12 hi), fun _ => ⟨vp_in_nI hi (by decide), fun c => ⟨vp_in_nI hi (by decide), fun f ef => ?_⟩, fun c => ⟨vp_in_nI hi (by decide), fun f ef => ?_⟩⟩⟩
    · rw [if_neg (show ¬ u.2.1 i = 0 from c), ← ef] at hK
      refine ⟨i, gNn u i, hi, h50, rfl, e, zLt u i, gNn u (zLt u i), hlt, h502, rfl, e2, fun c2 x ex => ?_, fun c2 x ex => ?_⟩
      · rw [if_pos (show zGr u i ≤ zGr u (zLt u i) from c2)] at hK; rw [ex, nI_1]; exact hK
      · rw [if_neg (show ¬ zGr u i ≤ zGr u (zLt u i) from c2)] at hK; rw [ex, nI_1]; exact hK
    · rw [if_pos (show u.2.1 i = 0 from c), ← ef] at hK
      refine ⟨i, gNn u i, hi, h50, rfl, e, zLt u i, gNn u (zLt u i), hlt, h502, rfl, e2, fun c2 x ex => ?_, fun c2 x ex => ?_⟩
      · rw [if_pos (show zGr u i ≤ zGr u (zLt u i) from c2)] at hK; rw [ex, nI_1]; exact hK
      · rw [if_neg (show ¬ zGr u i ≤ zGr u (zLt u i) from c2)] at hK; rw [ex, nI_1]; exact hK
  · intro K
    exact ⟨fun _ => ⟨zLt u 12, zLt_lt u 12 (Nat.le_refl _), rfl, h⟩, fun c => absurd (le12 (Nat.le_refl _) (by decide)) c⟩
theorem c_X4_openLatest (l : Launch) (dC : Nat → ClassId) (dI : Nat → Nat → Nat) (cI cJ cS : ClassId) (a : Nat → Nat) (u : zSegs) (Q : zSegs → Prop) (hf : s_X4_openLatest u Q) : ∀ sz : Nat, Met l yX4_openLatest (Cond.code yX4_openLatest cX4_openLatest 3 none :: zT) rm_X4_openLatest (zPm dC dI cI cJ cS (cl_X4 cI cJ a u) [.ref (a 0)] sz) (va_Qv Q (zB dC dI cI cJ cS (va_A (cl_X4 cI cJ a u) sz) (fun z => cl_X4 cI cJ a z)) (va_A (cl_X4 cI cJ a u) sz)) 0 0 (va_A (cl_X4 cI cJ a u) sz) := by
  obtain ⟨I4, h4, hf⟩ := st_X4_openLatest hf
  exact L_X4_openLatest l dC dI cI cJ cS a u Q I4 h4 hf

def t_X5_replay_e (u : zState) (K10 : Int32 → zState → Prop) (K18 : Int32 → Int32 → zState → Prop) (Q : zState → Prop) : Prop := s_X9_clearLevel u.2.2.2.1 (0 : Int32) (fun (u_2 : zTree) => K10 (0 : Int32) (u.1, u.2.1, u.2.2.1, u_2, u.2.2.2.2.1, u.2.2.2.2.2.1, u.2.2.2.2.2.2.1, u.2.2.2.2.2.2.2.1, u.2.2.2.2.2.2.2.2))
def t_X5_replay_10 (y1 : Int32) (z : zState) (K10 : Int32 → zState → Prop) (K18 : Int32 → Int32 → zState → Prop) (Q : zState → Prop) : Prop := (((12 : Int32) ≤ y1 → Q z) ∧ (¬ (12 : Int32) ≤ y1 → K18 y1 (0 : Int32) z))
def t_X5_replay_18 (y1 : Int32) (y2 : Int32) (z : zState) (K10 : Int32 → zState → Prop) (K18 : Int32 → Int32 → zState → Prop) (Q : zState → Prop) : Prop := s_X4_countOf z.2.2.1 y1 (fun r_6 : Int32 => ((r_6 ≤ y2 → ∀ x_8 : Int32, x_8 = y1 + (1 : Int32) → K10 x_8 z) ∧ (¬ r_6 ≤ y2 → s_X4_cardAt z.2.2.1 y1 y2 (fun r_10 : Int64 => s_X0_keyOf r_10 (fun r_11 : Int32 => s_X9_at z.2.2.2.1 (0 : Int32) r_11 (fun r_12 : Int64 => s_X0_numberOf r_12 (fun r_13 : Int32 => s_X0_numberOf r_10 (fun r_14 : Int32 => ((r_14 ≤ z.2.2.2.2.2.2.2.2 → ∀ x_16 : Int32, x_16 = y2 + (1 : Int32) → K18 y1 x_16 z) ∧ (¬ r_14 ≤ z.2.2.2.2.2.2.2.2 → s_X0_numberOf r_10 (fun r_18 : Int32 => ((r_18 ≤ r_13 → ∀ x_20 : Int32, x_20 = y2 + (1 : Int32) → K18 y1 x_20 z) ∧ (¬ r_18 ≤ r_13 → s_X9_intoTable z.2.2.2.1 r_10 (fun (u_23 : zTree) => ∀ x_24 : Int32, x_24 = y2 + (1 : Int32) → K18 y1 x_24 (z.1, z.2.1, z.2.2.1, u_23, z.2.2.2.2.1, z.2.2.2.2.2.1, z.2.2.2.2.2.2.1, z.2.2.2.2.2.2.2.1, z.2.2.2.2.2.2.2.2)))))))))))))))
theorem zc_X5_replay : zCalV RX5 yX5_replay cX5_replay 6 none 0 := ⟨q_im_X5_replay, q_se_X5_replay, q_in_X5, q_cd_X5_replay, ⟨by decide, by decide, by decide +kernel⟩, rfl⟩
abbrev rm_X5_replay : Room := { frames := 2, cells := 0, slots := 0, locals := 45 }
def v_X5_replay (u : zState) (Q : zState → Prop) : Prop := ∃ I10 : Nat → Int32 → zState → Prop, ∃ I18 : Nat → Int32 → Int32 → zState → Prop, (∀ (n : Nat) (y1 : Int32) (z : zState), I10 n y1 z → t_X5_replay_10 y1 z (fun q0 q1 => ∃ k : Nat, k < n ∧ I10 k q0 q1) (fun q0 q1 q2 => ∃ k : Nat, k < n ∧ I18 k q0 q1 q2) Q) ∧ (∀ (n : Nat) (y1 : Int32) (y2 : Int32) (z : zState), I18 n y1 y2 z → t_X5_replay_18 y1 y2 z (fun q0 q1 => ∃ k : Nat, k < n ∧ I10 k q0 q1) (fun q0 q1 q2 => ∃ k : Nat, k < n ∧ I18 k q0 q1 q2) Q) ∧ t_X5_replay_e u (fun q0 q1 => ∃ k : Nat, I10 k q0 q1) (fun q0 q1 q2 => ∃ k : Nat, I18 k q0 q1 q2) Q
set_option maxHeartbeats 4000000 in
set_option maxRecDepth 100000 in
theorem L_X5_replay (l : Launch) (dC : Nat → ClassId) (dI : Nat → Nat → Nat) (cI cJ cS : ClassId) (a : Nat → Nat) (u : zState) (Q : zState → Prop) (I10 : Nat → Int32 → zState → Prop) (I18 : Nat → Int32 → Int32 → zState → Prop) (h10 : ∀ (n : Nat) (y1 : Int32) (z : zState), I10 n y1 z → t_X5_replay_10 y1 z (fun q0 q1 => ∃ k : Nat, k < n ∧ I10 k q0 q1) (fun q0 q1 q2 => ∃ k : Nat, k < n ∧ I18 k q0 q1 q2) Q) (h18 : ∀ (n : Nat) (y1 : Int32) (y2 : Int32) (z : zState), I18 n y1 y2 z → t_X5_replay_18 y1 y2 z (fun q0 q1 => ∃ k : Nat, k < n ∧ I10 k q0 q1) (fun q0 q1 q2 => ∃ k : Nat, k < n ∧ I18 k q0 q1 q2) Q) (hf : t_X5_replay_e u (fun q0 q1 => ∃ k : Nat, I10 k q0 q1) (fun q0 q1 q2 => ∃ k : Nat, I18 k q0 q1 q2) Q) : ∀ sz : Nat, Met l yX5_replay (Cond.code yX5_replay cX5_replay 6 none :: zT) rm_X5_replay (zPm dC dI cI cJ cS (cl_X5 cI cJ a u) [.ref (a 0)] sz) (va_Qv Q (zB dC dI cI cJ cS (va_A (cl_X5 cI cJ a u) sz) (fun z => cl_X5 cI cJ a z)) (va_A (cl_X5 cI cJ a u) sz)) 0 0 (va_A (cl_X5 cI cJ a u) sz) := by
  intro sz
  refine z_enterM (Qc := fun A => va_Qv Q (zB dC dI cI cJ cS A (fun z => cl_X5 cI cJ a z)) A) (cc := cX5_replay) (maxL := 6) (ret := none) (by decide) (Nat.le_of_ble_eq_true rfl) ?_
  intro p e s m below meth c ls A X hP hD hS hA hl
  obtain ⟨⟨hx, hb, hml, hown, hts⟩, hr, hlk, hK⟩ := id X
  have hl : lv_has ls 6 [(0, .ref (a 0))] := hl
  have LP : ∀ n : Nat, (∀ (y1 : Int32) (z : zState) (H : Heap) (locs : List Loc) (ls : Array Slot), I10 n y1 z → va_P (dC, dI) vwCl (cl_X5 cI cJ a z) H → va_D A (cl_X5 cI cJ a z) → va_S A s.heap H locs → lv_has ls 6 [(0, .ref (a 0)), (1, .int y1)] → W p l e rm_X5_replay s m [.ref (a 0)].toArray below meth c H locs 0 0 (MQ below (va_Qv Q (zB dC dI cI cJ cS A (fun z => cl_X5 cI cJ a z)) A) [.ref (a 0)].toArray s 0 0 A) (F0 m 10 ls [])) ∧ (∀ (y1 : Int32) (y2 : Int32) (z : zState) (H : Heap) (locs : List Loc) (ls : Array Slot), I18 n y1 y2 z → va_P (dC, dI) vwCl (cl_X5 cI cJ a z) H → va_D A (cl_X5 cI cJ a z) → va_S A s.heap H locs → lv_has ls 6 [(0, .ref (a 0)), (1, .int y1), (2, .int y2)] → W p l e rm_X5_replay s m [.ref (a 0)].toArray below meth c H locs 0 0 (MQ below (va_Qv Q (zB dC dI cI cJ cS A (fun z => cl_X5 cI cJ a z)) A) [.ref (a 0)].toArray s 0 0 A) (F0 m 18 ls [])) := by
    intro n
    induction n using Nat.strongRecOn with
    | _ n ih =>
      refine ⟨?_, ?_⟩
      · intro y1 z H locs ls hI hP hD hS hl
        have hf := h10 n y1 z hI
        unfold t_X5_replay_10 at hf
        refine lv_iload_n hx hb dX5_replay_10 rfl (lv_at hl 1 rfl) ?_
        refine lv_bipush (v := 12) hx hb dX5_replay_11 (by decide) ?_
        refine lv_icmp_ge (tgt := 97) hx hb dX5_replay_13 (by decide) (fun c_4 => ?_) (fun c_4 => ?_)
        · have hf := hf.1 c_4
          exact z_retMv (Wf := (fun z => cl_X5 cI cJ a z)) (u := z) X hf hP hD hS dX5_replay_97
        · have hf := hf.2 c_4
          refine lv_iconst (v := 0) hx hb dX5_replay_16 (by decide) ?_
          refine lv_istore_n (lv' := [(2, .int (0 : Int32)), (0, .ref (a 0)), (1, .int y1)]) hx hb dX5_replay_17 rfl hl (by decide) rfl (fun ls hl => ?_)
          obtain ⟨k_5, hk_5, hf⟩ := hf
          exact (ih k_5 hk_5).2 _ _ z _ _ ls hf hP hD hS (lv_sub hl [1, 2, 0] rfl)
      · intro y1 y2 z H locs ls hI hP hD hS hl
        have hf := h18 n y1 y2 z hI
        unfold t_X5_replay_18 at hf
        refine lv_iload_n hx hb dX5_replay_18 rfl (lv_at hl 2 rfl) ?_
        refine lv_aload_n hx hb dX5_replay_19 rfl (lv_at hl 0 rfl) ?_
        refine va_get (D := (dC, dI)) (ci := 4) (v := .ref (a 3)) (C := RX5) (T := TX5) (N := 9) hx hb hts inX5 hown hK hP 0 rfl rfl 2 (by decide) (hts _ q_fl_X5_28) (fun _ h9 => h9) rfl dX5_replay_20 ?_
        refine lv_iload_n hx hb dX5_replay_23 rfl (lv_at hl 1 rfl) ?_
        refine z_cVi (As := [.int y1]) (rest := [.int y2]) X (c_X4_countOf l dC dI cI cJ cS (fun i => a (3 + i)) z.2.2.1 y1 _ hf) zc_X4_countOf q_ml_X5_246 ⟨rfl, rfl⟩ ⟨Nat.le_of_ble_eq_true rfl, Nat.le_of_ble_eq_true rfl⟩ hP [3, 4, 5, 6, 7] rfl 3 rfl rfl hl.1 rfl rfl (Nat.le_of_ble_eq_true rfl) ⟨Nat.zero_le _, Nat.zero_le _⟩ dX5_replay_24 (fun r_6 hf => ?_)
        refine lv_icmp_ge (tgt := 91) hx hb dX5_replay_27 (by decide) (fun c_7 => ?_) (fun c_7 => ?_)
        · have hf := hf.1 c_7
          obtain ⟨x_8, ex_8⟩ : ∃ y : Int32, y = y1 + (1 : Int32) := ⟨_, rfl⟩
          have hf := hf x_8 ex_8
          refine lv_iinc (v := x_8) (lv' := [(1, .int x_8), (0, .ref (a 0)), (2, .int y2)]) hx hb dX5_replay_91 hl (k := 1) rfl (by rw [ex_8]; rfl) (by decide) rfl (fun ls hl => ?_)
          refine lv_goto (tgt := 10) hx hb dX5_replay_94 (by decide) ?_
          obtain ⟨k_9, hk_9, hf⟩ := hf
          exact (ih k_9 hk_9).1 _ z _ _ ls hf hP hD hS (lv_sub hl [1, 0] rfl)
        · have hf := hf.2 c_7
          refine lv_aload_n hx hb dX5_replay_30 rfl (lv_at hl 0 rfl) ?_
          refine va_get (D := (dC, dI)) (ci := 4) (v := .ref (a 3)) (C := RX5) (T := TX5) (N := 9) hx hb hts inX5 hown hK hP 0 rfl rfl 2 (by decide) (hts _ q_fl_X5_28) (fun _ h9 => h9) rfl dX5_replay_31 ?_
          refine lv_iload_n hx hb dX5_replay_34 rfl (lv_at hl 1 rfl) ?_
          refine lv_iload_n hx hb dX5_replay_35 rfl (lv_at hl 2 rfl) ?_
          refine z_cVl (As := [.int y1, .int y2]) (rest := []) X (c_X4_cardAt l dC dI cI cJ cS (fun i => a (3 + i)) z.2.2.1 y1 y2 _ hf) zc_X4_cardAt q_ml_X5_249 ⟨rfl, rfl⟩ ⟨Nat.le_of_ble_eq_true rfl, Nat.le_of_ble_eq_true rfl⟩ hP [3, 4, 5, 6, 7] rfl 3 rfl rfl hl.1 rfl rfl (Nat.le_of_ble_eq_true rfl) ⟨Nat.zero_le _, Nat.zero_le _⟩ dX5_replay_36 (fun r_10 hf => ?_)
          refine lv_lstore_n (lv' := [(3, .long r_10), (0, .ref (a 0)), (1, .int y1), (2, .int y2)]) hx hb dX5_replay_39 rfl hl (by decide) rfl (fun ls hl => ?_)
          refine lv_aload_n hx hb dX5_replay_40 rfl (lv_at hl 1 rfl) ?_
          refine va_get (D := (dC, dI)) (ci := 4) (v := .ref (a 8)) (C := RX5) (T := TX5) (N := 9) hx hb hts inX5 hown hK hP 0 rfl rfl 3 (by decide) (hts _ q_fl_X5_35) (fun _ h9 => h9) rfl dX5_replay_41 ?_
          refine lv_iconst (v := 0) hx hb dX5_replay_44 (by decide) ?_
          refine lv_lload_n hx hb dX5_replay_45 rfl (lv_at hl 0 rfl) ?_
          refine z_cSi (As := [.long r_10]) (rest := [.int (0 : Int32), .ref (a 8)]) X (c_X0_keyOf l dC dI cI cJ cS   r_10 _ hf) zc_X0_keyOf q_ml_X5_253 ⟨rfl, rfl⟩ ⟨Nat.le_of_ble_eq_true rfl, Nat.le_of_ble_eq_true rfl⟩ hP [] rfl hl.1 rfl rfl (Nat.le_of_ble_eq_true rfl) ⟨Nat.zero_le _, Nat.zero_le _⟩ dX5_replay_46 (fun r_11 hf => ?_)
          refine z_cVl (As := [.int (0 : Int32), .int r_11]) (rest := []) X (c_X9_at l dC dI cI cJ cS (fun i => a (8 + i)) z.2.2.2.1 (0 : Int32) r_11 _ hf) zc_X9_at q_ml_X5_256 ⟨rfl, rfl⟩ ⟨Nat.le_of_ble_eq_true rfl, Nat.le_of_ble_eq_true rfl⟩ hP [8, 9, 10] rfl 8 rfl rfl hl.1 rfl rfl (Nat.le_of_ble_eq_true rfl) ⟨Nat.zero_le _, Nat.zero_le _⟩ dX5_replay_49 (fun r_12 hf => ?_)
          refine z_cSi (As := [.long r_12]) (rest := []) X (c_X0_numberOf l dC dI cI cJ cS   r_12 _ hf) zc_X0_numberOf q_ml_X5_259 ⟨rfl, rfl⟩ ⟨Nat.le_of_ble_eq_true rfl, Nat.le_of_ble_eq_true rfl⟩ hP [] rfl hl.1 rfl rfl (Nat.le_of_ble_eq_true rfl) ⟨Nat.zero_le _, Nat.zero_le _⟩ dX5_replay_52 (fun r_13 hf => ?_)
          refine lv_istore (lv' := [(5, .int r_13), (3, .long r_10), (0, .ref (a 0)), (1, .int y1), (2, .int y2)]) hx hb dX5_replay_55 hl (by decide) rfl (fun ls hl => ?_)
          refine lv_lload_n hx hb dX5_replay_57 rfl (lv_at hl 1 rfl) ?_
          refine z_cSi (As := [.long r_10]) (rest := []) X (c_X0_numberOf l dC dI cI cJ cS   r_10 _ hf) zc_X0_numberOf q_ml_X5_259 ⟨rfl, rfl⟩ ⟨Nat.le_of_ble_eq_true rfl, Nat.le_of_ble_eq_true rfl⟩ hP [] rfl hl.1 rfl rfl (Nat.le_of_ble_eq_true rfl) ⟨Nat.zero_le _, Nat.zero_le _⟩ dX5_replay_58 (fun r_14 hf => ?_)
          refine lv_aload_n hx hb dX5_replay_61 rfl (lv_at hl 2 rfl) ?_
          refine va_get (D := (dC, dI)) (ci := 4) (v := .int z.2.2.2.2.2.2.2.2) (C := RX5) (T := TX5) (N := 9) hx hb hts inX5 hown hK hP 0 rfl rfl 8 (by decide) (hts _ q_fl_X5_87) (fun _ h9 => h9) rfl dX5_replay_62 ?_
          refine lv_icmp_le (tgt := 85) hx hb dX5_replay_65 (by decide) (fun c_15 => ?_) (fun c_15 => ?_)
          · have hf := hf.1 c_15
            obtain ⟨x_16, ex_16⟩ : ∃ y : Int32, y = y2 + (1 : Int32) := ⟨_, rfl⟩
            have hf := hf x_16 ex_16
            refine lv_iinc (v := x_16) (lv' := [(2, .int x_16), (5, .int r_13), (3, .long r_10), (0, .ref (a 0)), (1, .int y1)]) hx hb dX5_replay_85 hl (k := 4) rfl (by rw [ex_16]; rfl) (by decide) rfl (fun ls hl => ?_)
            refine lv_goto (tgt := 18) hx hb dX5_replay_88 (by decide) ?_
            obtain ⟨k_17, hk_17, hf⟩ := hf
            exact (ih k_17 hk_17).2 _ _ z _ _ ls hf hP hD hS (lv_sub hl [3, 4, 0] rfl)
          · have hf := hf.2 c_15
            refine lv_lload_n hx hb dX5_replay_68 rfl (lv_at hl 1 rfl) ?_
            refine z_cSi (As := [.long r_10]) (rest := []) X (c_X0_numberOf l dC dI cI cJ cS   r_10 _ hf) zc_X0_numberOf q_ml_X5_259 ⟨rfl, rfl⟩ ⟨Nat.le_of_ble_eq_true rfl, Nat.le_of_ble_eq_true rfl⟩ hP [] rfl hl.1 rfl rfl (Nat.le_of_ble_eq_true rfl) ⟨Nat.zero_le _, Nat.zero_le _⟩ dX5_replay_69 (fun r_18 hf => ?_)
            refine lv_iload hx hb dX5_replay_72 (lv_at hl 0 rfl) ?_
            refine lv_icmp_le (tgt := 85) hx hb dX5_replay_74 (by decide) (fun c_19 => ?_) (fun c_19 => ?_)
            · have hf := hf.1 c_19
              obtain ⟨x_20, ex_20⟩ : ∃ y : Int32, y = y2 + (1 : Int32) := ⟨_, rfl⟩
              have hf := hf x_20 ex_20
              refine lv_iinc (v := x_20) (lv' := [(2, .int x_20), (5, .int r_13), (3, .long r_10), (0, .ref (a 0)), (1, .int y1)]) hx hb dX5_replay_85 hl (k := 4) rfl (by rw [ex_20]; rfl) (by decide) rfl (fun ls hl => ?_)
              refine lv_goto (tgt := 18) hx hb dX5_replay_88 (by decide) ?_
              obtain ⟨k_21, hk_21, hf⟩ := hf
              exact (ih k_21 hk_21).2 _ _ z _ _ ls hf hP hD hS (lv_sub hl [3, 4, 0] rfl)
            · have hf := hf.2 c_19
              refine lv_aload_n hx hb dX5_replay_77 rfl (lv_at hl 2 rfl) ?_
              refine va_get (D := (dC, dI)) (ci := 4) (v := .ref (a 8)) (C := RX5) (T := TX5) (N := 9) hx hb hts inX5 hown hK hP 0 rfl rfl 3 (by decide) (hts _ q_fl_X5_35) (fun _ h9 => h9) rfl dX5_replay_78 ?_
              refine lv_lload_n hx hb dX5_replay_81 rfl (lv_at hl 1 rfl) ?_
              refine z_mVv (Wn := (fun u_23 => cl_X5 cI cJ a (z.1, z.2.1, z.2.2.1, u_23, z.2.2.2.2.1, z.2.2.2.2.2.1, z.2.2.2.2.2.2.1, z.2.2.2.2.2.2.2.1, z.2.2.2.2.2.2.2.2))) (As := [.long r_10]) (rest := []) (wr := [0, 1, 2, 3, 4, 5, 6, 7, 11, 12, 13, 14].filterMap (fun i => (cl_X5 cI cJ a z)[i]?)) X (c_X9_intoTable l dC dI cI cJ cS (fun i => a (8 + i)) z.2.2.2.1 r_10 _ hf _) zc_X9_intoTable q_ml_X5_209 ⟨rfl, rfl⟩ ⟨Nat.le_of_ble_eq_true rfl, Nat.le_of_ble_eq_true rfl⟩ hP hD hS hA [8, 9, 10] [0, 1, 2, 3, 4, 5, 6, 7, 11, 12, 13, 14] rfl (by decide) rfl (by decide) (by decide) [0, 1, 2, 3, 4, 5, 6, 7, 12, 13, 14, 8, 9, 10, 11] (by decide) (fun _ => rfl) 8 rfl rfl hl.1 rfl rfl (Nat.le_of_ble_eq_true rfl) ⟨Nat.zero_le _, Nat.zero_le _⟩ dX5_replay_82 (fun u_23 H locs hf hP hD hS => ?_)
              obtain ⟨x_24, ex_24⟩ : ∃ y : Int32, y = y2 + (1 : Int32) := ⟨_, rfl⟩
              have hf := hf x_24 ex_24
              refine lv_iinc (v := x_24) (lv' := [(2, .int x_24), (5, .int r_13), (3, .long r_10), (0, .ref (a 0)), (1, .int y1)]) hx hb dX5_replay_85 hl (k := 4) rfl (by rw [ex_24]; rfl) (by decide) rfl (fun ls hl => ?_)
              refine lv_goto (tgt := 18) hx hb dX5_replay_88 (by decide) ?_
              obtain ⟨k_25, hk_25, hf⟩ := hf
              exact (ih k_25 hk_25).2 _ _ (z.1, z.2.1, z.2.2.1, u_23, z.2.2.2.2.1, z.2.2.2.2.2.1, z.2.2.2.2.2.2.1, z.2.2.2.2.2.2.2.1, z.2.2.2.2.2.2.2.2) _ _ ls hf hP hD hS (lv_sub hl [3, 4, 0] rfl)
  unfold t_X5_replay_e at hf
  refine lv_aload_n hx hb dX5_replay_0 rfl (lv_at hl 0 rfl) ?_
  refine va_get (D := (dC, dI)) (ci := 4) (v := .ref (a 8)) (C := RX5) (T := TX5) (N := 9) hx hb hts inX5 hown hK hP 0 rfl rfl 3 (by decide) (hts _ q_fl_X5_35) (fun _ h9 => h9) rfl dX5_replay_1 ?_
  refine lv_iconst (v := 0) hx hb dX5_replay_4 (by decide) ?_
  refine z_mVv (Wn := (fun u_2 => cl_X5 cI cJ a (u.1, u.2.1, u.2.2.1, u_2, u.2.2.2.2.1, u.2.2.2.2.2.1, u.2.2.2.2.2.2.1, u.2.2.2.2.2.2.2.1, u.2.2.2.2.2.2.2.2))) (As := [.int (0 : Int32)]) (rest := []) (wr := [0, 1, 2, 3, 4, 5, 6, 7, 11, 12, 13, 14].filterMap (fun i => (cl_X5 cI cJ a u)[i]?)) X (c_X9_clearLevel l dC dI cI cJ cS (fun i => a (8 + i)) u.2.2.2.1 (0 : Int32) _ hf _) zc_X9_clearLevel q_ml_X5_242 ⟨rfl, rfl⟩ ⟨Nat.le_of_ble_eq_true rfl, Nat.le_of_ble_eq_true rfl⟩ hP hD hS hA [8, 9, 10] [0, 1, 2, 3, 4, 5, 6, 7, 11, 12, 13, 14] rfl (by decide) rfl (by decide) (by decide) [0, 1, 2, 3, 4, 5, 6, 7, 12, 13, 14, 8, 9, 10, 11] (by decide) (fun _ => rfl) 8 rfl rfl hl.1 rfl rfl (Nat.le_of_ble_eq_true rfl) ⟨Nat.zero_le _, Nat.zero_le _⟩ dX5_replay_5 (fun u_2 H locs hf hP hD hS => ?_)
  refine lv_iconst (v := 0) hx hb dX5_replay_8 (by decide) ?_
  refine lv_istore_n (lv' := [(1, .int (0 : Int32)), (0, .ref (a 0))]) hx hb dX5_replay_9 rfl hl (by decide) rfl (fun ls hl => ?_)
  obtain ⟨k_3, hf⟩ := hf
  exact (LP k_3).1 _ (u.1, u.2.1, u.2.2.1, u_2, u.2.2.2.2.1, u.2.2.2.2.2.1, u.2.2.2.2.2.2.1, u.2.2.2.2.2.2.2.1, u.2.2.2.2.2.2.2.2) _ _ ls hf hP hD hS (lv_sub hl [1, 0] rfl)
/-- a record comes back into the table, if it is above MARK and the latest of its key so far -/
def zRp1 (M : Int32) (t : zTree) (c : Int64) : zTree := if cNum c ≤ M then t else if cNum c ≤ cNum (t.1 (kN c)) then t else zInto t (kN c) c
def zRpS (g : zSegs) (M : Int32) (s : Nat) (t : zTree) : Nat → zTree
  | 0 => t
  | j + 1 => zRp1 M (zRpS g M s t j) (g.1 (50 * s + j))
def zRpA (g : zSegs) (M : Int32) (t : zTree) : Nat → zTree
  | 0 => t
  | s + 1 => zRpS g M s (zRpA g M t s) (gNn g s)
def zRp0 (t : zTree) : zTree := (zWipe t.1 0 64, upd t.2.1 0 0, t.2.2)
def uTr (u : zState) (t : zTree) : zState := (u.1, u.2.1, u.2.2.1, t, u.2.2.2.2.1, u.2.2.2.2.2.1, u.2.2.2.2.2.2.1, u.2.2.2.2.2.2.2.1, u.2.2.2.2.2.2.2.2)
def s_X5_replay (u : zState) (Q : zState → Prop) : Prop := (∀ s, s < 12 → u.2.2.1.2.1 s = nI (gNn u.2.2.1 s) ∧ gNn u.2.2.1 s ≤ 50) ∧ Q (uTr u (zRpA u.2.2.1 u.2.2.2.2.2.2.2.2 (zRp0 u.2.2.2.1) 12))
theorem st_X5_replay {u : zState} {Q : zState → Prop} (h : s_X5_replay u Q) : v_X5_replay u Q := by
  obtain ⟨hc, h⟩ := h
  refine ⟨fun m y1 z => ∃ s : Nat, s ≤ 12 ∧ m = 1000 * (12 - s) + 500 ∧ y1 = nI s ∧ z = uTr u (zRpA u.2.2.1 u.2.2.2.2.2.2.2.2 (zRp0 u.2.2.2.1) s),
    fun m y1 y2 z => ∃ s j : Nat, s < 12 ∧ j ≤ gNn u.2.2.1 s ∧ m = 1000 * (12 - s) + (60 - j) ∧ y1 = nI s ∧ y2 = nI j ∧ z = uTr u (zRpS u.2.2.1 u.2.2.2.2.2.2.2.2 s (zRpA u.2.2.1 u.2.2.2.2.2.2.2.2 (zRp0 u.2.2.2.1) s) j), ?_, ?_, ?_⟩
  · rintro m y1 z ⟨s, hs, rfl, rfl, rfl⟩
    refine ⟨fun c => ?_, fun c => ?_⟩
    · have : s = 12 := by
        have := (nI_leI (a := 12) (b := s) (by decide) (by omega)).mp c
        omega
      subst this
      exact h
    · have hs : s < 12 := by
        have : ¬ 12 ≤ s := fun q => c (le12 q (by omega))
        omega
      exact ⟨1000 * (12 - s) + (60 - 0), by omega, s, 0, hs, Nat.zero_le _, rfl, rfl, rfl, rfl⟩
  · rintro m y1 y2 z ⟨s, j, hs, hj, rfl, rfl, rfl, rfl⟩
    obtain ⟨e, h50⟩ := hc s hs
    generalize hA : zRpA u.2.2.1 u.2.2.2.2.2.2.2.2 (zRp0 u.2.2.2.1) s = tA
    refine ⟨s, hs, rfl, ?_⟩
    show ((u.2.2.1.2.1 s ≤ nI j → _) ∧ (¬ u.2.2.1.2.1 s ≤ nI j → _))
    rw [e]
    refine ⟨fun c x8 e8 => ?_, fun c => ?_⟩
    · have : j = gNn u.2.2.1 s := by
        have := (nI_leI (by omega) (by omega)).mp c
        omega
      subst this
      exact ⟨1000 * (12 - (s + 1)) + 500, by omega, s + 1, by omega, rfl, by rw [e8, nI_1], by show _ = uTr u (zRpS u.2.2.1 u.2.2.2.2.2.2.2.2 s (zRpA u.2.2.1 u.2.2.2.2.2.2.2.2 (zRp0 u.2.2.2.1) s) (gNn u.2.2.1 s)); rw [hA]⟩
    · have hj : j < gNn u.2.2.1 s := by
        have : ¬ gNn u.2.2.1 s ≤ j := fun q => c (nI_le q (by omega))
        omega
      have nx : ∀ t', zRp1 u.2.2.2.2.2.2.2.2 (zRpS u.2.2.1 u.2.2.2.2.2.2.2.2 s tA j) (u.2.2.1.1 (50 * s + j)) = t' → ∀ x : Int32, x = nI j + 1 → ∃ k, k < 1000 * (12 - s) + (60 - j) ∧ ∃ s' j' : Nat, s' < 12 ∧ j' ≤ gNn u.2.2.1 s' ∧ k = 1000 * (12 - s') + (60 - j') ∧ nI s = nI s' ∧ x = nI j' ∧ uTr u t' = uTr u (zRpS u.2.2.1 u.2.2.2.2.2.2.2.2 s' (zRpA u.2.2.1 u.2.2.2.2.2.2.2.2 (zRp0 u.2.2.2.1) s') j') := by
        intro t' et x ex
        refine ⟨1000 * (12 - s) + (60 - (j + 1)), by omega, s, j + 1, hs, hj, rfl, rfl, by rw [ex, nI_1], ?_⟩
        rw [hA, ← et]; rfl
      refine ⟨s, gNn u.2.2.1 s, hs, h50, rfl, e, Or.inl ⟨j, hj, rfl, 0, kN (u.2.2.1.1 (50 * s + j)), by decide, kN_lt _, rfl, kN_eq _, ?_⟩⟩
      show ((cNum (u.2.2.1.1 (50 * s + j)) ≤ u.2.2.2.2.2.2.2.2 → _) ∧ (¬ cNum (u.2.2.1.1 (50 * s + j)) ≤ u.2.2.2.2.2.2.2.2 → ((cNum (u.2.2.1.1 (50 * s + j)) ≤ cNum ((zRpS u.2.2.1 u.2.2.2.2.2.2.2.2 s tA j).1 (64 * 0 + kN (u.2.2.1.1 (50 * s + j)))) → _) ∧ (¬ cNum (u.2.2.1.1 (50 * s + j)) ≤ cNum ((zRpS u.2.2.1 u.2.2.2.2.2.2.2.2 s tA j).1 (64 * 0 + kN (u.2.2.1.1 (50 * s + j)))) → _))))
      rw [show 64 * 0 + kN (u.2.2.1.1 (50 * s + j)) = kN (u.2.2.1.1 (50 * s + j)) by omega]
      refine ⟨fun c2 x ex => ?_, fun c2 => ⟨fun c3 x ex => ?_, fun c3 => ⟨kN (u.2.2.1.1 (50 * s + j)), kN_lt _, kN_eq _, fun x ex => ?_⟩⟩⟩
      · exact nx _ (by unfold zRp1; rw [if_pos c2]) x ex
      · exact nx _ (by unfold zRp1; rw [if_neg c2, if_pos c3]) x ex
      · exact nx _ (by unfold zRp1; rw [if_neg c2, if_neg c3]; rfl) x ex
  · exact ⟨0, by decide, rfl, 1000 * (12 - 0) + 500, 0, by omega, rfl, rfl, rfl⟩
theorem c_X5_replay (l : Launch) (dC : Nat → ClassId) (dI : Nat → Nat → Nat) (cI cJ cS : ClassId) (a : Nat → Nat) (u : zState) (Q : zState → Prop) (hf : s_X5_replay u Q) : ∀ sz : Nat, Met l yX5_replay (Cond.code yX5_replay cX5_replay 6 none :: zT) rm_X5_replay (zPm dC dI cI cJ cS (cl_X5 cI cJ a u) [.ref (a 0)] sz) (va_Qv Q (zB dC dI cI cJ cS (va_A (cl_X5 cI cJ a u) sz) (fun z => cl_X5 cI cJ a z)) (va_A (cl_X5 cI cJ a u) sz)) 0 0 (va_A (cl_X5 cI cJ a u) sz) := by
  obtain ⟨I10, I18, h10, h18, hf⟩ := st_X5_replay hf
  exact L_X5_replay l dC dI cI cJ cS a u Q I10 I18 h10 h18 hf

def t_X5_loseUnsecured (u : zState) (Q : Int32 → zState → Prop) : Prop := s_X4_cutAbove u.2.2.1 u.2.2.2.2.2.2.2.1 (fun (r_1 : Int32) (u_2 : zSegs) => s_X4_openLatest u_2 (fun (u_4 : zSegs) => s_X1_stop u.2.2.2.2.1 (fun (u_6 : zColl) => s_X2_tellOf u.2.2.2.2.2.1 (3 : Int32) r_1 u.2.2.2.2.2.2.1 (fun (u_8 : zDiary) => ∀ x_9 : Int32, x_9 = (if u.2.2.2.2.2.2.2.1 < u.2.2.2.2.2.2.2.2 then u.2.2.2.2.2.2.2.2 else u.2.2.2.2.2.2.2.1) → s_X5_replay (u.1, u.2.1, u_4, u.2.2.2.1, u_6, u_8, x_9, u.2.2.2.2.2.2.2.1, u.2.2.2.2.2.2.2.2) (fun (u_11 : zState) => Q r_1 u_11)))))
theorem zc_X5_loseUnsecured : zCalV RX5 yX5_loseUnsecured cX5_loseUnsecured 2 (some .int) 0 := ⟨q_im_X5_loseUnsecured, q_se_X5_loseUnsecured, q_in_X5, q_cd_X5_loseUnsecured, ⟨by decide, by decide, by decide +kernel⟩, rfl⟩
abbrev rm_X5_loseUnsecured : Room := { frames := 3, cells := 0, slots := 0, locals := 72 }
set_option maxHeartbeats 4000000 in
set_option maxRecDepth 100000 in
theorem L_X5_loseUnsecured (l : Launch) (dC : Nat → ClassId) (dI : Nat → Nat → Nat) (cI cJ cS : ClassId) (a : Nat → Nat) (u : zState) (Q : Int32 → zState → Prop) (hf : t_X5_loseUnsecured u Q) : ∀ sz : Nat, Met l yX5_loseUnsecured (Cond.code yX5_loseUnsecured cX5_loseUnsecured 2 (some .int) :: zT) rm_X5_loseUnsecured (zPm dC dI cI cJ cS (cl_X5 cI cJ a u) [.ref (a 0)] sz) (va_Qi Q (zB dC dI cI cJ cS (va_A (cl_X5 cI cJ a u) sz) (fun z => cl_X5 cI cJ a z)) (va_A (cl_X5 cI cJ a u) sz)) 0 0 (va_A (cl_X5 cI cJ a u) sz) := by
  intro sz
  refine z_enterM (Qc := fun A => va_Qi Q (zB dC dI cI cJ cS A (fun z => cl_X5 cI cJ a z)) A) (cc := cX5_loseUnsecured) (maxL := 2) (ret := (some .int)) (by decide) (Nat.le_of_ble_eq_true rfl) ?_
  intro p e s m below meth c ls A X hP hD hS hA hl
  obtain ⟨⟨hx, hb, hml, hown, hts⟩, hr, hlk, hK⟩ := id X
  have hl : lv_has ls 2 [(0, .ref (a 0))] := hl
  unfold t_X5_loseUnsecured at hf
  refine lv_aload_n hx hb dX5_loseUnsecured_0 rfl (lv_at hl 0 rfl) ?_
  refine va_get (D := (dC, dI)) (ci := 4) (v := .ref (a 3)) (C := RX5) (T := TX5) (N := 9) hx hb hts inX5 hown hK hP 0 rfl rfl 2 (by decide) (hts _ q_fl_X5_28) (fun _ h9 => h9) rfl dX5_loseUnsecured_1 ?_
  refine lv_aload_n hx hb dX5_loseUnsecured_4 rfl (lv_at hl 0 rfl) ?_
  refine va_get (D := (dC, dI)) (ci := 4) (v := .int u.2.2.2.2.2.2.2.1) (C := RX5) (T := TX5) (N := 9) hx hb hts inX5 hown hK hP 0 rfl rfl 7 (by decide) (hts _ q_fl_X5_84) (fun _ h9 => h9) rfl dX5_loseUnsecured_5 ?_
  refine z_mVi (Wn := (fun u_2 => cl_X5 cI cJ a (u.1, u.2.1, u_2, u.2.2.2.1, u.2.2.2.2.1, u.2.2.2.2.2.1, u.2.2.2.2.2.2.1, u.2.2.2.2.2.2.2.1, u.2.2.2.2.2.2.2.2))) (As := [.int u.2.2.2.2.2.2.2.1]) (rest := []) (wr := [0, 1, 2, 8, 9, 10, 11, 12, 13, 14].filterMap (fun i => (cl_X5 cI cJ a u)[i]?)) X (c_X4_cutAbove l dC dI cI cJ cS (fun i => a (3 + i)) u.2.2.1 u.2.2.2.2.2.2.2.1 _ hf _) zc_X4_cutAbove q_ml_X5_227 ⟨rfl, rfl⟩ ⟨Nat.le_of_ble_eq_true rfl, Nat.le_of_ble_eq_true rfl⟩ hP hD hS hA [3, 4, 5, 6, 7] [0, 1, 2, 8, 9, 10, 11, 12, 13, 14] rfl (by decide) rfl (by decide) (by decide) [0, 1, 2, 10, 11, 12, 13, 14, 3, 4, 5, 6, 7, 8, 9] (by decide) (fun _ => rfl) 3 rfl rfl hl.1 rfl rfl (Nat.le_of_ble_eq_true rfl) ⟨Nat.zero_le _, Nat.zero_le _⟩ dX5_loseUnsecured_8 (fun r_1 u_2 H locs hf hP hD hS => ?_)
  refine lv_istore_n (lv' := [(1, .int r_1), (0, .ref (a 0))]) hx hb dX5_loseUnsecured_11 rfl hl (by decide) rfl (fun ls hl => ?_)
  refine lv_aload_n hx hb dX5_loseUnsecured_12 rfl (lv_at hl 1 rfl) ?_
  refine va_get (D := (dC, dI)) (ci := 4) (v := .ref (a 3)) (C := RX5) (T := TX5) (N := 9) hx hb hts inX5 hown hK hP 0 rfl rfl 2 (by decide) (hts _ q_fl_X5_28) (fun _ h9 => h9) rfl dX5_loseUnsecured_13 ?_
  refine z_mVv (Wn := (fun u_4 => cl_X5 cI cJ a (u.1, u.2.1, u_4, u.2.2.2.1, u.2.2.2.2.1, u.2.2.2.2.2.1, u.2.2.2.2.2.2.1, u.2.2.2.2.2.2.2.1, u.2.2.2.2.2.2.2.2))) (As := []) (rest := []) (wr := [0, 1, 2, 8, 9, 10, 11, 12, 13, 14].filterMap (fun i => (cl_X5 cI cJ a (u.1, u.2.1, u_2, u.2.2.2.1, u.2.2.2.2.1, u.2.2.2.2.2.1, u.2.2.2.2.2.2.1, u.2.2.2.2.2.2.2.1, u.2.2.2.2.2.2.2.2))[i]?)) X (c_X4_openLatest l dC dI cI cJ cS (fun i => a (3 + i)) u_2  _ hf _) zc_X4_openLatest q_ml_X5_230 ⟨rfl, rfl⟩ ⟨Nat.le_of_ble_eq_true rfl, Nat.le_of_ble_eq_true rfl⟩ hP hD hS hA [3, 4, 5, 6, 7] [0, 1, 2, 8, 9, 10, 11, 12, 13, 14] rfl (by decide) rfl (by decide) (by decide) [0, 1, 2, 10, 11, 12, 13, 14, 3, 4, 5, 6, 7, 8, 9] (by decide) (fun _ => rfl) 3 rfl rfl hl.1 rfl rfl (Nat.le_of_ble_eq_true rfl) ⟨Nat.zero_le _, Nat.zero_le _⟩ dX5_loseUnsecured_16 (fun u_4 H locs hf hP hD hS => ?_)
  refine lv_aload_n hx hb dX5_loseUnsecured_19 rfl (lv_at hl 1 rfl) ?_
  refine va_get (D := (dC, dI)) (ci := 4) (v := .ref (a 11)) (C := RX5) (T := TX5) (N := 9) hx hb hts inX5 hown hK hP 0 rfl rfl 4 (by decide) (hts _ q_fl_X5_42) (fun _ h9 => h9) rfl dX5_loseUnsecured_20 ?_
  refine z_mVv (Wn := (fun u_6 => cl_X5 cI cJ a (u.1, u.2.1, u_4, u.2.2.2.1, u_6, u.2.2.2.2.2.1, u.2.2.2.2.2.2.1, u.2.2.2.2.2.2.2.1, u.2.2.2.2.2.2.2.2))) (As := []) (rest := []) (wr := [0, 1, 2, 3, 4, 5, 6, 7, 8, 9, 10, 13, 14].filterMap (fun i => (cl_X5 cI cJ a (u.1, u.2.1, u_4, u.2.2.2.1, u.2.2.2.2.1, u.2.2.2.2.2.1, u.2.2.2.2.2.2.1, u.2.2.2.2.2.2.2.1, u.2.2.2.2.2.2.2.2))[i]?)) X (c_X1_stop l dC dI cI cJ cS (fun i => a (11 + i)) u.2.2.2.2.1  _ hf _) zc_X1_stop q_ml_X5_75 ⟨rfl, rfl⟩ ⟨Nat.le_of_ble_eq_true rfl, Nat.le_of_ble_eq_true rfl⟩ hP hD hS hA [11, 12] [0, 1, 2, 3, 4, 5, 6, 7, 8, 9, 10, 13, 14] rfl (by decide) rfl (by decide) (by decide) [0, 1, 2, 3, 4, 5, 6, 7, 8, 9, 10, 13, 14, 11, 12] (by decide) (fun _ => rfl) 0 rfl rfl hl.1 rfl rfl (Nat.le_of_ble_eq_true rfl) ⟨Nat.zero_le _, Nat.zero_le _⟩ dX5_loseUnsecured_23 (fun u_6 H locs hf hP hD hS => ?_)
  refine lv_aload_n hx hb dX5_loseUnsecured_26 rfl (lv_at hl 1 rfl) ?_
  refine va_get (D := (dC, dI)) (ci := 4) (v := .ref (a 13)) (C := RX5) (T := TX5) (N := 9) hx hb hts inX5 hown hK hP 0 rfl rfl 5 (by decide) (hts _ q_fl_X5_49) (fun _ h9 => h9) rfl dX5_loseUnsecured_27 ?_
  refine lv_iconst (v := 3) hx hb dX5_loseUnsecured_30 (by decide) ?_
  refine lv_iload_n hx hb dX5_loseUnsecured_31 rfl (lv_at hl 0 rfl) ?_
  refine lv_aload_n hx hb dX5_loseUnsecured_32 rfl (lv_at hl 1 rfl) ?_
  refine va_get (D := (dC, dI)) (ci := 4) (v := .int u.2.2.2.2.2.2.1) (C := RX5) (T := TX5) (N := 9) hx hb hts inX5 hown hK hP 0 rfl rfl 6 (by decide) (hts _ q_fl_X5_81) (fun _ h9 => h9) rfl dX5_loseUnsecured_33 ?_
  refine z_mVv (Wn := (fun u_8 => cl_X5 cI cJ a (u.1, u.2.1, u_4, u.2.2.2.1, u_6, u_8, u.2.2.2.2.2.2.1, u.2.2.2.2.2.2.2.1, u.2.2.2.2.2.2.2.2))) (As := [.int (3 : Int32), .int r_1, .int u.2.2.2.2.2.2.1]) (rest := []) (wr := [0, 1, 2, 3, 4, 5, 6, 7, 8, 9, 10, 11, 12].filterMap (fun i => (cl_X5 cI cJ a (u.1, u.2.1, u_4, u.2.2.2.1, u_6, u.2.2.2.2.2.1, u.2.2.2.2.2.2.1, u.2.2.2.2.2.2.2.1, u.2.2.2.2.2.2.2.2))[i]?)) X (c_X2_tellOf l dC dI cI cJ cS (fun i => a (13 + i)) u.2.2.2.2.2.1 (3 : Int32) r_1 u.2.2.2.2.2.2.1 _ hf _) zc_X2_tellOf q_ml_X5_195 ⟨rfl, rfl⟩ ⟨Nat.le_of_ble_eq_true rfl, Nat.le_of_ble_eq_true rfl⟩ hP hD hS hA [13, 14] [0, 1, 2, 3, 4, 5, 6, 7, 8, 9, 10, 11, 12] rfl (by decide) rfl (by decide) (by decide) [0, 1, 2, 3, 4, 5, 6, 7, 8, 9, 10, 11, 12, 13, 14] (by decide) (fun _ => rfl) 1 rfl rfl hl.1 rfl rfl (Nat.le_of_ble_eq_true rfl) ⟨Nat.zero_le _, Nat.zero_le _⟩ dX5_loseUnsecured_36 (fun u_8 H locs hf hP hD hS => ?_)
  refine lv_aload_n hx hb dX5_loseUnsecured_39 rfl (lv_at hl 1 rfl) ?_
  refine lv_aload_n hx hb dX5_loseUnsecured_40 rfl (lv_at hl 1 rfl) ?_
  refine va_get (D := (dC, dI)) (ci := 4) (v := .int u.2.2.2.2.2.2.2.1) (C := RX5) (T := TX5) (N := 9) hx hb hts inX5 hown hK hP 0 rfl rfl 7 (by decide) (hts _ q_fl_X5_84) (fun _ h9 => h9) rfl dX5_loseUnsecured_41 ?_
  refine lv_aload_n hx hb dX5_loseUnsecured_44 rfl (lv_at hl 1 rfl) ?_
  refine va_get (D := (dC, dI)) (ci := 4) (v := .int u.2.2.2.2.2.2.2.2) (C := RX5) (T := TX5) (N := 9) hx hb hts inX5 hown hK hP 0 rfl rfl 8 (by decide) (hts _ q_fl_X5_87) (fun _ h9 => h9) rfl dX5_loseUnsecured_45 ?_
  refine va_mmax hx hb (hml.trans hl.1.symm) hown (hts _ q_ml_X5_233) (hts _ q_st_Mmax) (hts _ q_in_Math) (hts _ q_cd_Mmax) (Nat.le_of_ble_eq_true rfl) (Nat.le_of_ble_eq_true rfl) (Nat.zero_le _) (Nat.zero_le _) dX5_loseUnsecured_48 ?_
  refine lv_topi (fun x_9 ex_9 => ?_)
  have hf := hf x_9 ex_9
  refine z_put (w' := cl_X5 cI cJ a (u.1, u.2.1, u_4, u.2.2.2.1, u_6, u_8, x_9, u.2.2.2.2.2.2.2.1, u.2.2.2.2.2.2.2.2)) (ci := 4) (v := .int x_9) (ty := .int) (Cn := RX5) (T := TX5) (N := 9) X inX5 tyX5 tyX5_ok nmX5 hP hD hS 0 rfl rfl 6 (by decide) (hts _ q_fl_X5_81) (fun _ h9 => h9) rfl (tyX5_ok 6 (by decide)) rfl rfl (Nat.le_of_ble_eq_true rfl) rfl dX5_loseUnsecured_51 (fun H locs hP hD hS => ?_)
  refine lv_aload_n hx hb dX5_loseUnsecured_54 rfl (lv_at hl 1 rfl) ?_
  refine z_mVv (Wn := (fun u_11 => cl_X5 cI cJ a u_11)) (As := []) (rest := []) (wr := []) X (c_X5_replay l dC dI cI cJ cS a (u.1, u.2.1, u_4, u.2.2.2.1, u_6, u_8, x_9, u.2.2.2.2.2.2.2.1, u.2.2.2.2.2.2.2.2)  _ hf _) zc_X5_replay q_ml_X5_239 ⟨rfl, rfl⟩ ⟨Nat.le_of_ble_eq_true rfl, Nat.le_of_ble_eq_true rfl⟩ hP hD hS hA [0, 1, 2, 3, 4, 5, 6, 7, 8, 9, 10, 11, 12, 13, 14] [] rfl (by decide) rfl (by decide) (by decide) [0, 1, 2, 3, 4, 5, 6, 7, 8, 9, 10, 11, 12, 13, 14] (by decide) (fun _ => rfl) 4 rfl rfl hl.1 rfl rfl (Nat.le_of_ble_eq_true rfl) ⟨Nat.zero_le _, Nat.zero_le _⟩ dX5_loseUnsecured_55 (fun u_11 H locs hf hP hD hS => ?_)
  refine lv_iload_n hx hb dX5_loseUnsecured_58 rfl (lv_at hl 0 rfl) ?_
  exact z_retMi (Wf := (fun z => cl_X5 cI cJ a z)) (u := u_11) X hf hP hD hS dX5_loseUnsecured_59
/-- CRASH -/
def uCut (u : zState) : zSegs := zOpL (zCo u.2.2.1 u.2.2.2.2.2.2.2.1 12)
def uCrash (u : zState) : zState := (u.1, u.2.1, uCut u, zRpA (uCut u) u.2.2.2.2.2.2.2.2 (zRp0 u.2.2.2.1) 12, (u.2.2.2.2.1.1, -1, 0, 0), zTell u.2.2.2.2.2.1 (dN u.2.2.2.2.2.1) 3 (nI (zGone u.2.2.1 u.2.2.2.2.2.2.2.1 12)) u.2.2.2.2.2.2.1, (if u.2.2.2.2.2.2.2.1 < u.2.2.2.2.2.2.2.2 then u.2.2.2.2.2.2.2.2 else u.2.2.2.2.2.2.2.1), u.2.2.2.2.2.2.2.1, u.2.2.2.2.2.2.2.2)
def s_X5_loseUnsecured (u : zState) (Q : Int32 → zState → Prop) : Prop := zOk u ∧ DiaOk u.2.2.2.2.2.1 ∧ Q (nI (zGone u.2.2.1 u.2.2.2.2.2.2.2.1 12)) (uCrash u)
theorem zCo_n (g : zSegs) (x : Int32) {s : Nat} (hs : s < 12) (h : gNn g s ≤ 50) : (zCo g x 12).2.1 s = nI (gNn (zCo g x 12) s) ∧ gNn (zCo g x 12) s ≤ 50 ∧ gNn (zCo g x 12) s = zCut g x s (gNn g s) := by
  have e : (zCo g x 12).2.1 s = nI (zCut g x s (gNn g s)) := if_pos hs
  have hle := zCut_le g x s (gNn g s)
  have hlt : zCut g x s (gNn g s) < 2 ^ 31 := by omega
  have e2 : gNn (zCo g x 12) s = zCut g x s (gNn g s) := by
    show ((zCo g x 12).2.1 s).toNatClampNeg = _
    rw [e]
    exact nI_clamp hlt
  exact ⟨by rw [e2]; exact e, by rw [e2]; omega, e2⟩
theorem st_X5_loseUnsecured {u : zState} {Q : Int32 → zState → Prop} (h : s_X5_loseUnsecured u Q) : t_X5_loseUnsecured u Q := by
  obtain ⟨ho, hd, h⟩ := h
  have hc : ∀ s, s < 12 → u.2.2.1.2.1 s = nI (gNn u.2.2.1 s) ∧ gNn u.2.2.1 s ≤ 50 := ho.2.2
  refine ⟨hc, fun s hs => ⟨(zCo_n _ _ hs (hc s hs).2).1, (zCo_n _ _ hs (hc s hs).2).2.1⟩, hd, fun x e => ?_⟩
  subst e
  exact ⟨fun s hs => ⟨(zCo_n u.2.2.1 u.2.2.2.2.2.2.2.1 hs (hc s hs).2).1, (zCo_n u.2.2.1 u.2.2.2.2.2.2.2.1 hs (hc s hs).2).2.1⟩, h⟩
theorem c_X5_loseUnsecured (l : Launch) (dC : Nat → ClassId) (dI : Nat → Nat → Nat) (cI cJ cS : ClassId) (a : Nat → Nat) (u : zState) (Q : Int32 → zState → Prop) (hf : s_X5_loseUnsecured u Q) : ∀ sz : Nat, Met l yX5_loseUnsecured (Cond.code yX5_loseUnsecured cX5_loseUnsecured 2 (some .int) :: zT) rm_X5_loseUnsecured (zPm dC dI cI cJ cS (cl_X5 cI cJ a u) [.ref (a 0)] sz) (va_Qi Q (zB dC dI cI cJ cS (va_A (cl_X5 cI cJ a u) sz) (fun z => cl_X5 cI cJ a z)) (va_A (cl_X5 cI cJ a u) sz)) 0 0 (va_A (cl_X5 cI cJ a u) sz) := L_X5_loseUnsecured l dC dI cI cJ cS a u Q (st_X5_loseUnsecured hf)
