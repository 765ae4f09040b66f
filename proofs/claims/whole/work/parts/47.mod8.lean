def t_X11_flushes_e (u : zModel) (K67 : Int32 → zModel → Prop) (K80 : Int32 → Int32 → zModel → Prop) (Q : zModel → Prop) : Prop := vp_in (5 : Int32) 5497 ∧ vp_in (6 : Int32) 5497 ∧ ∀ f_1 : Nat → Int32, f_1 = upd u.2.1 (6 : Int32).toNatClampNeg (u.2.1 (5 : Int32).toNatClampNeg) → vp_in (5 : Int32) 5497 ∧ vp_in (7 : Int32) 5497 ∧ ∀ f_2 : Nat → Int32, f_2 = upd f_1 (7 : Int32).toNatClampNeg (f_1 (5 : Int32).toNatClampNeg) → s_X11_entries (u.1, f_2, u.2.2) (0 : Int32) (fun r_3 : Int32 => ((¬ r_3 = 0 → vp_in (14 : Int32) 5497 ∧ s_X11_entries (u.1, f_2, u.2.2) (0 : Int32) (fun r_5 : Int32 => vp_in (14 : Int32) 5497 ∧ ∀ f_6 : Nat → Int32, f_6 = upd f_2 (14 : Int32).toNatClampNeg ((f_2 (14 : Int32).toNatClampNeg) + r_5) → s_X11_entries (u.1, f_6, u.2.2) (0 : Int32) (fun r_7 : Int32 => s_X11_logs (u.1, f_6, u.2.2) (0 : Int32) r_7 (fun (u_9 : zModel) => vp_in (4 : Int32) 5497 ∧ ∀ x_10 : Int32, x_10 = (u_9.2.1 (4 : Int32).toNatClampNeg) → K67 x_10 u_9)))) ∧ (r_3 = 0 → Q (u.1, f_2, u.2.2))))
def t_X11_flushes_67 (y1 : Int32) (z : zModel) (K67 : Int32 → zModel → Prop) (K80 : Int32 → Int32 → zModel → Prop) (Q : zModel → Prop) : Prop := ((y1 < 0 → s_X11_empties z (0 : Int32) (fun (u_14 : zModel) => vp_in (4 : Int32) 5497 ∧ vp_in (4 : Int32) 5497 ∧ ∀ f_15 : Nat → Int32, f_15 = upd u_14.2.1 (4 : Int32).toNatClampNeg ((u_14.2.1 (4 : Int32).toNatClampNeg) + (1 : Int32)) → vp_in (4 : Int32) 5497 ∧ vp_in (3 : Int32) 5497 ∧ (((f_15 (4 : Int32).toNatClampNeg) ≤ (f_15 (3 : Int32).toNatClampNeg) → Q (u_14.1, f_15, u_14.2.2)) ∧ (¬ (f_15 (4 : Int32).toNatClampNeg) ≤ (f_15 (3 : Int32).toNatClampNeg) → s_X11_merges (u_14.1, f_15, u_14.2.2) (fun (u_18 : zModel) => Q u_18))))) ∧ (¬ y1 < 0 → s_X11_empties z (y1 + (1 : Int32)) (fun (u_20 : zModel) => K80 y1 (0 : Int32) u_20)))
def t_X11_flushes_80 (y1 : Int32) (y2 : Int32) (z : zModel) (K67 : Int32 → zModel → Prop) (K80 : Int32 → Int32 → zModel → Prop) (Q : zModel → Prop) : Prop := (((64 : Int32) ≤ y2 → ∀ x_23 : Int32, x_23 = y1 + (-1 : Int32) → K67 x_23 z) ∧ (¬ (64 : Int32) ≤ y2 → s_X11_copies z y1 (y1 + (1 : Int32)) y2 (fun (u_26 : zModel) => ∀ x_27 : Int32, x_27 = y2 + (1 : Int32) → K80 y1 x_27 u_26)))
theorem zc_X11_flushes : zCalV RX11 yX11_flushes cX11_flushes 3 none 0 := ⟨q_im_X11_flushes, q_se_X11_flushes, q_in_X11, q_cd_X11_flushes, ⟨by decide, by decide, by decide +kernel⟩, rfl⟩
abbrev rm_X11_flushes : Room := { frames := 4, cells := 0, slots := 0, locals := 88 }
def v_X11_flushes (u : zModel) (Q : zModel → Prop) : Prop := ∃ I67 : Nat → Int32 → zModel → Prop, ∃ I80 : Nat → Int32 → Int32 → zModel → Prop, (∀ (n : Nat) (y1 : Int32) (z : zModel), I67 n y1 z → t_X11_flushes_67 y1 z (fun q0 q1 => ∃ k : Nat, k < n ∧ I67 k q0 q1) (fun q0 q1 q2 => ∃ k : Nat, k < n ∧ I80 k q0 q1 q2) Q) ∧ (∀ (n : Nat) (y1 : Int32) (y2 : Int32) (z : zModel), I80 n y1 y2 z → t_X11_flushes_80 y1 y2 z (fun q0 q1 => ∃ k : Nat, k < n ∧ I67 k q0 q1) (fun q0 q1 q2 => ∃ k : Nat, k < n ∧ I80 k q0 q1 q2) Q) ∧ t_X11_flushes_e u (fun q0 q1 => ∃ k : Nat, I67 k q0 q1) (fun q0 q1 q2 => ∃ k : Nat, I80 k q0 q1 q2) Q
set_option maxHeartbeats 4000000 in
set_option maxRecDepth 100000 in
theorem L_X11_flushes (l : Launch) (dC : Nat → ClassId) (dI : Nat → Nat → Nat) (cI cJ cS : ClassId) (a : Nat → Nat) (u : zModel) (Q : zModel → Prop) (I67 : Nat → Int32 → zModel → Prop) (I80 : Nat → Int32 → Int32 → zModel → Prop) (h67 : ∀ (n : Nat) (y1 : Int32) (z : zModel), I67 n y1 z → t_X11_flushes_67 y1 z (fun q0 q1 => ∃ k : Nat, k < n ∧ I67 k q0 q1) (fun q0 q1 q2 => ∃ k : Nat, k < n ∧ I80 k q0 q1 q2) Q) (h80 : ∀ (n : Nat) (y1 : Int32) (y2 : Int32) (z : zModel), I80 n y1 y2 z → t_X11_flushes_80 y1 y2 z (fun q0 q1 => ∃ k : Nat, k < n ∧ I67 k q0 q1) (fun q0 q1 q2 => ∃ k : Nat, k < n ∧ I80 k q0 q1 q2) Q) (hf : t_X11_flushes_e u (fun q0 q1 => ∃ k : Nat, I67 k q0 q1) (fun q0 q1 q2 => ∃ k : Nat, I80 k q0 q1 q2) Q) : ∀ sz : Nat, Met l yX11_flushes (Cond.code yX11_flushes cX11_flushes 3 none :: zT) rm_X11_flushes (zPm dC dI cI cJ cS (cl_X11 cI cJ a u) [.ref (a 0)] sz) (va_Qv Q (zB dC dI cI cJ cS (va_A (cl_X11 cI cJ a u) sz) (fun z => cl_X11 cI cJ a z)) (va_A (cl_X11 cI cJ a u) sz)) 0 0 (va_A (cl_X11 cI cJ a u) sz) := by
  intro sz
  refine z_enterM (Qc := fun A => va_Qv Q (zB dC dI cI cJ cS A (fun z => cl_X11 cI cJ a z)) A) (cc := cX11_flushes) (maxL := 3) (ret := none) (by decide) (Nat.le_of_ble_eq_true rfl) ?_
  intro p e s m below meth c ls A X hP hD hS hA hl
  obtain ⟨⟨hx, hb, hml, hown, hts⟩, hr, hlk, hK⟩ := id X
  have hl : lv_has ls 3 [(0, .ref (a 0))] := hl
  have LP : ∀ n : Nat, (∀ (y1 : Int32) (z : zModel) (H : Heap) (locs : List Loc) (ls : Array Slot), I67 n y1 z → va_P (dC, dI) vwCl (cl_X11 cI cJ a z) H → va_D A (cl_X11 cI cJ a z) → va_S A s.heap H locs → lv_has ls 3 [(0, .ref (a 0)), (1, .int y1)] → W p l e rm_X11_flushes s m [.ref (a 0)].toArray below meth c H locs 0 0 (MQ below (va_Qv Q (zB dC dI cI cJ cS A (fun z => cl_X11 cI cJ a z)) A) [.ref (a 0)].toArray s 0 0 A) (F0 m 67 ls [])) ∧ (∀ (y1 : Int32) (y2 : Int32) (z : zModel) (H : Heap) (locs : List Loc) (ls : Array Slot), I80 n y1 y2 z → va_P (dC, dI) vwCl (cl_X11 cI cJ a z) H → va_D A (cl_X11 cI cJ a z) → va_S A s.heap H locs → lv_has ls 3 [(0, .ref (a 0)), (1, .int y1), (2, .int y2)] → W p l e rm_X11_flushes s m [.ref (a 0)].toArray below meth c H locs 0 0 (MQ below (va_Qv Q (zB dC dI cI cJ cS A (fun z => cl_X11 cI cJ a z)) A) [.ref (a 0)].toArray s 0 0 A) (F0 m 80 ls [])) := by
    intro n
    induction n using Nat.strongRecOn with
    | _ n ih =>
      refine ⟨?_, ?_⟩
      · intro y1 z H locs ls hI hP hD hS hl
        have hf := h67 n y1 z hI
        unfold t_X11_flushes_67 at hf
        refine lv_iload_n hx hb dX11_flushes_67 rfl (lv_at hl 1 rfl) ?_
        refine lv_if_lt (tgt := 107) hx hb dX11_flushes_68 (by decide) (fun c_12 => ?_) (fun c_12 => ?_)
        · have hf := hf.1 c_12
          refine lv_aload_n hx hb dX11_flushes_107 rfl (lv_at hl 0 rfl) ?_
          refine lv_iconst (v := 0) hx hb dX11_flushes_108 (by decide) ?_
          refine z_mVv (Wn := (fun u_14 => cl_X11 cI cJ a u_14)) (As := [.int (0 : Int32)]) (rest := []) (wr := []) X (c_X11_empties l dC dI cI cJ cS a z (0 : Int32) _ hf _) zc_X11_empties q_ml_X11_111 ⟨rfl, rfl⟩ ⟨Nat.le_of_ble_eq_true rfl, Nat.le_of_ble_eq_true rfl⟩ hP hD hS hA [0, 1, 2, 3, 4, 5, 6, 7, 8] [] rfl (by decide) rfl (by decide) (by decide) [0, 1, 2, 3, 4, 5, 6, 7, 8] (by decide) (fun _ => rfl) 10 rfl rfl hl.1 rfl rfl (Nat.le_of_ble_eq_true rfl) ⟨Nat.zero_le _, Nat.zero_le _⟩ dX11_flushes_109 (fun u_14 H locs hf hP hD hS => ?_)
          refine lv_aload_n hx hb dX11_flushes_112 rfl (lv_at hl 0 rfl) ?_
          refine va_get (D := (dC, dI)) (ci := 10) (v := .ref (a 1)) (C := RX11) (T := TX11) (N := 17) hx hb hts inX11 hown hK hP 0 rfl rfl 1 (by decide) (hts _ q_fl_X11_7) (fun _ h9 => h9) rfl dX11_flushes_113 ?_
          refine lv_iconst (v := 4) hx hb dX11_flushes_116 (by decide) ?_
          refine lv_dup2_11 hx hb dX11_flushes_117 rfl rfl ?_
          obtain ⟨hg, hf⟩ := hf
          refine va_iald hx hb hK hP 1 0 rfl rfl hg dX11_flushes_118 ?_
          refine lv_iconst (v := 1) hx hb dX11_flushes_119 (by decide) ?_
          refine lv_iadd hx hb dX11_flushes_120 ?_
          obtain ⟨hg, hf⟩ := hf
          refine z_iast (Wn := fun f_15 => cl_X11 cI cJ a (u_14.1, f_15, u_14.2.2)) X hP hD hS 1 0 rfl rfl hg (fun _ => rfl) dX11_flushes_121 (fun f_15 H locs ef_15 hP hD hS => ?_)
          have hf := hf f_15 ef_15
          refine lv_aload_n hx hb dX11_flushes_122 rfl (lv_at hl 0 rfl) ?_
          refine va_get (D := (dC, dI)) (ci := 10) (v := .ref (a 1)) (C := RX11) (T := TX11) (N := 17) hx hb hts inX11 hown hK hP 0 rfl rfl 1 (by decide) (hts _ q_fl_X11_7) (fun _ h9 => h9) rfl dX11_flushes_123 ?_
          refine lv_iconst (v := 4) hx hb dX11_flushes_126 (by decide) ?_
          obtain ⟨hg, hf⟩ := hf
          refine va_iald hx hb hK hP 1 0 rfl rfl hg dX11_flushes_127 ?_
          refine lv_aload_n hx hb dX11_flushes_128 rfl (lv_at hl 0 rfl) ?_
          refine va_get (D := (dC, dI)) (ci := 10) (v := .ref (a 1)) (C := RX11) (T := TX11) (N := 17) hx hb hts inX11 hown hK hP 0 rfl rfl 1 (by decide) (hts _ q_fl_X11_7) (fun _ h9 => h9) rfl dX11_flushes_129 ?_
          refine lv_iconst (v := 3) hx hb dX11_flushes_132 (by decide) ?_
          obtain ⟨hg, hf⟩ := hf
          refine va_iald hx hb hK hP 1 0 rfl rfl hg dX11_flushes_133 ?_
          refine lv_icmp_le (tgt := 141) hx hb dX11_flushes_134 (by decide) (fun c_16 => ?_) (fun c_16 => ?_)
          · have hf := hf.1 c_16
            exact z_retMv (Wf := (fun z => cl_X11 cI cJ a z)) (u := (u_14.1, f_15, u_14.2.2)) X hf hP hD hS dX11_flushes_141
          · have hf := hf.2 c_16
            refine lv_aload_n hx hb dX11_flushes_137 rfl (lv_at hl 0 rfl) ?_
            refine z_mVv (Wn := (fun u_18 => cl_X11 cI cJ a u_18)) (As := []) (rest := []) (wr := []) X (c_X11_merges l dC dI cI cJ cS a (u_14.1, f_15, u_14.2.2)  _ hf _) zc_X11_merges q_ml_X11_115 ⟨rfl, rfl⟩ ⟨Nat.le_of_ble_eq_true rfl, Nat.le_of_ble_eq_true rfl⟩ hP hD hS hA [0, 1, 2, 3, 4, 5, 6, 7, 8] [] rfl (by decide) rfl (by decide) (by decide) [0, 1, 2, 3, 4, 5, 6, 7, 8] (by decide) (fun _ => rfl) 10 rfl rfl hl.1 rfl rfl (Nat.le_of_ble_eq_true rfl) ⟨Nat.zero_le _, Nat.zero_le _⟩ dX11_flushes_138 (fun u_18 H locs hf hP hD hS => ?_)
            exact z_retMv (Wf := (fun z => cl_X11 cI cJ a z)) (u := u_18) X hf hP hD hS dX11_flushes_141
        · have hf := hf.2 c_12
          refine lv_aload_n hx hb dX11_flushes_71 rfl (lv_at hl 0 rfl) ?_
          refine lv_iload_n hx hb dX11_flushes_72 rfl (lv_at hl 1 rfl) ?_
          refine lv_iconst (v := 1) hx hb dX11_flushes_73 (by decide) ?_
          refine lv_iadd hx hb dX11_flushes_74 ?_
          refine z_mVv (Wn := (fun u_20 => cl_X11 cI cJ a u_20)) (As := [.int (y1 + (1 : Int32))]) (rest := []) (wr := []) X (c_X11_empties l dC dI cI cJ cS a z (y1 + (1 : Int32)) _ hf _) zc_X11_empties q_ml_X11_111 ⟨rfl, rfl⟩ ⟨Nat.le_of_ble_eq_true rfl, Nat.le_of_ble_eq_true rfl⟩ hP hD hS hA [0, 1, 2, 3, 4, 5, 6, 7, 8] [] rfl (by decide) rfl (by decide) (by decide) [0, 1, 2, 3, 4, 5, 6, 7, 8] (by decide) (fun _ => rfl) 10 rfl rfl hl.1 rfl rfl (Nat.le_of_ble_eq_true rfl) ⟨Nat.zero_le _, Nat.zero_le _⟩ dX11_flushes_75 (fun u_20 H locs hf hP hD hS => ?_)
          refine lv_iconst (v := 0) hx hb dX11_flushes_78 (by decide) ?_
          refine lv_istore_n (lv' := [(2, .int (0 : Int32)), (0, .ref (a 0)), (1, .int y1)]) hx hb dX11_flushes_79 rfl hl (by decide) rfl (fun ls hl => ?_)
          obtain ⟨k_21, hk_21, hf⟩ := hf
          exact (ih k_21 hk_21).2 _ _ u_20 _ _ ls hf hP hD hS (lv_sub hl [1, 2, 0] rfl)
      · intro y1 y2 z H locs ls hI hP hD hS hl
        have hf := h80 n y1 y2 z hI
        unfold t_X11_flushes_80 at hf
        refine lv_iload_n hx hb dX11_flushes_80 rfl (lv_at hl 2 rfl) ?_
        refine lv_bipush (v := 64) hx hb dX11_flushes_81 (by decide) ?_
        refine lv_icmp_ge (tgt := 101) hx hb dX11_flushes_83 (by decide) (fun c_22 => ?_) (fun c_22 => ?_)
        · have hf := hf.1 c_22
          obtain ⟨x_23, ex_23⟩ : ∃ y : Int32, y = y1 + (-1 : Int32) := ⟨_, rfl⟩
          have hf := hf x_23 ex_23
          refine lv_iinc (v := x_23) (lv' := [(1, .int x_23), (0, .ref (a 0)), (2, .int y2)]) hx hb dX11_flushes_101 hl (k := 1) rfl (by rw [ex_23]; rfl) (by decide) rfl (fun ls hl => ?_)
          refine lv_goto (tgt := 67) hx hb dX11_flushes_104 (by decide) ?_
          obtain ⟨k_24, hk_24, hf⟩ := hf
          exact (ih k_24 hk_24).1 _ z _ _ ls hf hP hD hS (lv_sub hl [1, 0] rfl)
        · have hf := hf.2 c_22
          refine lv_aload_n hx hb dX11_flushes_86 rfl (lv_at hl 0 rfl) ?_
          refine lv_iload_n hx hb dX11_flushes_87 rfl (lv_at hl 1 rfl) ?_
          refine lv_iload_n hx hb dX11_flushes_88 rfl (lv_at hl 1 rfl) ?_
          refine lv_iconst (v := 1) hx hb dX11_flushes_89 (by decide) ?_
          refine lv_iadd hx hb dX11_flushes_90 ?_
          refine lv_iload_n hx hb dX11_flushes_91 rfl (lv_at hl 2 rfl) ?_
          refine z_mVv (Wn := (fun u_26 => cl_X11 cI cJ a u_26)) (As := [.int y1, .int (y1 + (1 : Int32)), .int y2]) (rest := []) (wr := []) X (c_X11_copies l dC dI cI cJ cS a z y1 (y1 + (1 : Int32)) y2 _ hf _) zc_X11_copies q_ml_X11_104 ⟨rfl, rfl⟩ ⟨Nat.le_of_ble_eq_true rfl, Nat.le_of_ble_eq_true rfl⟩ hP hD hS hA [0, 1, 2, 3, 4, 5, 6, 7, 8] [] rfl (by decide) rfl (by decide) (by decide) [0, 1, 2, 3, 4, 5, 6, 7, 8] (by decide) (fun _ => rfl) 10 rfl rfl hl.1 rfl rfl (Nat.le_of_ble_eq_true rfl) ⟨Nat.zero_le _, Nat.zero_le _⟩ dX11_flushes_92 (fun u_26 H locs hf hP hD hS => ?_)
          obtain ⟨x_27, ex_27⟩ : ∃ y : Int32, y = y2 + (1 : Int32) := ⟨_, rfl⟩
          have hf := hf x_27 ex_27
          refine lv_iinc (v := x_27) (lv' := [(2, .int x_27), (0, .ref (a 0)), (1, .int y1)]) hx hb dX11_flushes_95 hl (k := 2) rfl (by rw [ex_27]; rfl) (by decide) rfl (fun ls hl => ?_)
          refine lv_goto (tgt := 80) hx hb dX11_flushes_98 (by decide) ?_
          obtain ⟨k_28, hk_28, hf⟩ := hf
          exact (ih k_28 hk_28).2 _ _ u_26 _ _ ls hf hP hD hS (lv_sub hl [1, 2, 0] rfl)
  unfold t_X11_flushes_e at hf
  refine lv_aload_n hx hb dX11_flushes_0 rfl (lv_at hl 0 rfl) ?_
  refine va_get (D := (dC, dI)) (ci := 10) (v := .ref (a 1)) (C := RX11) (T := TX11) (N := 17) hx hb hts inX11 hown hK hP 0 rfl rfl 1 (by decide) (hts _ q_fl_X11_7) (fun _ h9 => h9) rfl dX11_flushes_1 ?_
  refine lv_bipush (v := 6) hx hb dX11_flushes_4 (by decide) ?_
  refine lv_aload_n hx hb dX11_flushes_6 rfl (lv_at hl 0 rfl) ?_
  refine va_get (D := (dC, dI)) (ci := 10) (v := .ref (a 1)) (C := RX11) (T := TX11) (N := 17) hx hb hts inX11 hown hK hP 0 rfl rfl 1 (by decide) (hts _ q_fl_X11_7) (fun _ h9 => h9) rfl dX11_flushes_7 ?_
  refine lv_iconst (v := 5) hx hb dX11_flushes_10 (by decide) ?_
  obtain ⟨hg, hf⟩ := hf
  refine va_iald hx hb hK hP 1 0 rfl rfl hg dX11_flushes_11 ?_
  obtain ⟨hg, hf⟩ := hf
  refine z_iast (Wn := fun f_1 => cl_X11 cI cJ a (u.1, f_1, u.2.2)) X hP hD hS 1 0 rfl rfl hg (fun _ => rfl) dX11_flushes_12 (fun f_1 H locs ef_1 hP hD hS => ?_)
  have hf := hf f_1 ef_1
  refine lv_aload_n hx hb dX11_flushes_13 rfl (lv_at hl 0 rfl) ?_
  refine va_get (D := (dC, dI)) (ci := 10) (v := .ref (a 1)) (C := RX11) (T := TX11) (N := 17) hx hb hts inX11 hown hK hP 0 rfl rfl 1 (by decide) (hts _ q_fl_X11_7) (fun _ h9 => h9) rfl dX11_flushes_14 ?_
  refine lv_bipush (v := 7) hx hb dX11_flushes_17 (by decide) ?_
  refine lv_aload_n hx hb dX11_flushes_19 rfl (lv_at hl 0 rfl) ?_
  refine va_get (D := (dC, dI)) (ci := 10) (v := .ref (a 1)) (C := RX11) (T := TX11) (N := 17) hx hb hts inX11 hown hK hP 0 rfl rfl 1 (by decide) (hts _ q_fl_X11_7) (fun _ h9 => h9) rfl dX11_flushes_20 ?_
  refine lv_iconst (v := 5) hx hb dX11_flushes_23 (by decide) ?_
  obtain ⟨hg, hf⟩ := hf
  refine va_iald hx hb hK hP 1 0 rfl rfl hg dX11_flushes_24 ?_
  obtain ⟨hg, hf⟩ := hf
  refine z_iast (Wn := fun f_2 => cl_X11 cI cJ a (u.1, f_2, u.2.2)) X hP hD hS 1 0 rfl rfl hg (fun _ => rfl) dX11_flushes_25 (fun f_2 H locs ef_2 hP hD hS => ?_)
  have hf := hf f_2 ef_2
  refine lv_aload_n hx hb dX11_flushes_26 rfl (lv_at hl 0 rfl) ?_
  refine lv_iconst (v := 0) hx hb dX11_flushes_27 (by decide) ?_
  refine z_cVi (As := [.int (0 : Int32)]) (rest := []) X (c_X11_entries l dC dI cI cJ cS a (u.1, f_2, u.2.2) (0 : Int32) _ hf) zc_X11_entries q_ml_X11_108 ⟨rfl, rfl⟩ ⟨Nat.le_of_ble_eq_true rfl, Nat.le_of_ble_eq_true rfl⟩ hP [0, 1, 2, 3, 4, 5, 6, 7, 8] rfl 10 rfl rfl hl.1 rfl rfl (Nat.le_of_ble_eq_true rfl) ⟨Nat.zero_le _, Nat.zero_le _⟩ dX11_flushes_28 (fun r_3 hf => ?_)
  refine lv_if_ne (tgt := 35) hx hb dX11_flushes_31 (by decide) (fun c_4 => ?_) (fun c_4 => ?_)
  · have hf := hf.1 c_4
    refine lv_aload_n hx hb dX11_flushes_35 rfl (lv_at hl 0 rfl) ?_
    refine va_get (D := (dC, dI)) (ci := 10) (v := .ref (a 1)) (C := RX11) (T := TX11) (N := 17) hx hb hts inX11 hown hK hP 0 rfl rfl 1 (by decide) (hts _ q_fl_X11_7) (fun _ h9 => h9) rfl dX11_flushes_36 ?_
    refine lv_bipush (v := 14) hx hb dX11_flushes_39 (by decide) ?_
    refine lv_dup2_11 hx hb dX11_flushes_41 rfl rfl ?_
    obtain ⟨hg, hf⟩ := hf
    refine va_iald hx hb hK hP 1 0 rfl rfl hg dX11_flushes_42 ?_
    refine lv_aload_n hx hb dX11_flushes_43 rfl (lv_at hl 0 rfl) ?_
    refine lv_iconst (v := 0) hx hb dX11_flushes_44 (by decide) ?_
    refine z_cVi (As := [.int (0 : Int32)]) (rest := [.int (f_2 (14 : Int32).toNatClampNeg), .int (14 : Int32), .ref (a 1)]) X (c_X11_entries l dC dI cI cJ cS a (u.1, f_2, u.2.2) (0 : Int32) _ hf) zc_X11_entries q_ml_X11_108 ⟨rfl, rfl⟩ ⟨Nat.le_of_ble_eq_true rfl, Nat.le_of_ble_eq_true rfl⟩ hP [0, 1, 2, 3, 4, 5, 6, 7, 8] rfl 10 rfl rfl hl.1 rfl rfl (Nat.le_of_ble_eq_true rfl) ⟨Nat.zero_le _, Nat.zero_le _⟩ dX11_flushes_45 (fun r_5 hf => ?_)
    refine lv_iadd hx hb dX11_flushes_48 ?_
    obtain ⟨hg, hf⟩ := hf
    refine z_iast (Wn := fun f_6 => cl_X11 cI cJ a (u.1, f_6, u.2.2)) X hP hD hS 1 0 rfl rfl hg (fun _ => rfl) dX11_flushes_49 (fun f_6 H locs ef_6 hP hD hS => ?_)
    have hf := hf f_6 ef_6
    refine lv_aload_n hx hb dX11_flushes_50 rfl (lv_at hl 0 rfl) ?_
    refine lv_iconst (v := 0) hx hb dX11_flushes_51 (by decide) ?_
    refine lv_aload_n hx hb dX11_flushes_52 rfl (lv_at hl 0 rfl) ?_
    refine lv_iconst (v := 0) hx hb dX11_flushes_53 (by decide) ?_
    refine z_cVi (As := [.int (0 : Int32)]) (rest := [.int (0 : Int32), .ref (a 0)]) X (c_X11_entries l dC dI cI cJ cS a (u.1, f_6, u.2.2) (0 : Int32) _ hf) zc_X11_entries q_ml_X11_108 ⟨rfl, rfl⟩ ⟨Nat.le_of_ble_eq_true rfl, Nat.le_of_ble_eq_true rfl⟩ hP [0, 1, 2, 3, 4, 5, 6, 7, 8] rfl 10 rfl rfl hl.1 rfl rfl (Nat.le_of_ble_eq_true rfl) ⟨Nat.zero_le _, Nat.zero_le _⟩ dX11_flushes_54 (fun r_7 hf => ?_)
    refine z_mVv (Wn := (fun u_9 => cl_X11 cI cJ a u_9)) (As := [.int (0 : Int32), .int r_7]) (rest := []) (wr := []) X (c_X11_logs l dC dI cI cJ cS a (u.1, f_6, u.2.2) (0 : Int32) r_7 _ hf _) zc_X11_logs q_ml_X11_94 ⟨rfl, rfl⟩ ⟨Nat.le_of_ble_eq_true rfl, Nat.le_of_ble_eq_true rfl⟩ hP hD hS hA [0, 1, 2, 3, 4, 5, 6, 7, 8] [] rfl (by decide) rfl (by decide) (by decide) [0, 1, 2, 3, 4, 5, 6, 7, 8] (by decide) (fun _ => rfl) 10 rfl rfl hl.1 rfl rfl (Nat.le_of_ble_eq_true rfl) ⟨Nat.zero_le _, Nat.zero_le _⟩ dX11_flushes_57 (fun u_9 H locs hf hP hD hS => ?_)
    refine lv_aload_n hx hb dX11_flushes_60 rfl (lv_at hl 0 rfl) ?_
    refine va_get (D := (dC, dI)) (ci := 10) (v := .ref (a 1)) (C := RX11) (T := TX11) (N := 17) hx hb hts inX11 hown hK hP 0 rfl rfl 1 (by decide) (hts _ q_fl_X11_7) (fun _ h9 => h9) rfl dX11_flushes_61 ?_
    refine lv_iconst (v := 4) hx hb dX11_flushes_64 (by decide) ?_
    obtain ⟨hg, hf⟩ := hf
    refine va_iald hx hb hK hP 1 0 rfl rfl hg dX11_flushes_65 ?_
    refine lv_topi (fun x_10 ex_10 => ?_)
    have hf := hf x_10 ex_10
    refine lv_istore_n (lv' := [(1, .int x_10), (0, .ref (a 0))]) hx hb dX11_flushes_66 rfl hl (by decide) rfl (fun ls hl => ?_)
    obtain ⟨k_11, hf⟩ := hf
    exact (LP k_11).1 _ u_9 _ _ ls hf hP hD hS (lv_sub hl [1, 0] rfl)
  · have hf := hf.2 c_4
    exact z_retMv (Wf := (fun z => cl_X11 cI cJ a z)) (u := (u.1, f_2, u.2.2)) X hf hP hD hS dX11_flushes_34
def s_X11_flushes (u : zModel) (Q : zModel → Prop) : Prop := ∃ (v : zState) (ρ β mo lm L S M B : Nat), zP ρ β mo lm L S M B v ∧ mRel v u.2.1 ∧ ∀ m' : Nat → Int32, mRel (uFlush v) m' → Q (u.1, m', u.2.2)
/-- FLUSH on its way -/
def flP (v : zState) (m' : Nat → Int32) : Prop :=
  (∀ i, i < 16 → ¬ i = 4 → m' i = topF (uFl1 v) i) ∧ m' 4 = nI (rN v) ∧ mSg v.2.2.1 m' ∧ mRc v.2.2.1 m' ∧ mNo v.2.2.2.2.1 v.2.2.1 m' ∧ mLg (uFl1 v).2.2.2.2.2.1 m'
theorem flP.cg {v : zState} {m m' : Nat → Int32} (h : flP v m) (h50 : ∀ s, s < 12 → gN v.2.2.1 s ≤ 50) (hC : wN v.2.2.2.2.1 ≤ 50) (hD : DiaOk v.2.2.2.2.2.1) (e : ∀ j, (j < 3102 ∨ 5406 ≤ j) → m' j = m j) : flP v m' := by
  obtain ⟨k1, k2, k3, k4, k5, k6⟩ := h
  exact ⟨fun i hi hn => by rw [e i (by omega)]; exact k1 i hi hn, by rw [e 4 (by omega)]; exact k2, k3.cg (fun j a b => e j (by omega)), k4.cg h50 (fun j a b => e j (by omega)), k5.cg hC (fun j a b => e j (by omega)), k6.cg (uFl1_dia hD).2 (fun j a b => e j (by omega))⟩
theorem n_pm (l : Nat) : nI (l + 1) + (-1) = nI l := by
  rw [← nI_1, Int32.add_assoc, show (1 : Int32) + (-1) = 0 by decide, Int32.add_zero]
theorem st_X11_flushes {u : zModel} {Q : zModel → Prop} (h : s_X11_flushes u Q) : v_X11_flushes u Q := by
  obtain ⟨v, ρ, β, mo, lm, L, S, M, B, hP, hr, hQ⟩ := h
  have hF := zPr.fl1 hP
  obtain ⟨rT, rS, rR, rE, rN', rL⟩ := mRel_iff.mp hr
  have ho := hP.ok
  obtain ⟨h1, h2, h3, h4, h5, hg, ht, hR, hL, hC, hD, hT⟩ := id hP
  obtain ⟨r, er⟩ : ∃ r, r = rN v := ⟨_, rfl⟩
  have hr5 : r < 5 := by
    have : tR v.2.2.2.1 ≤ lm := hR
    have : rN v = tR v.2.2.2.1 := rfl
    omega
  have m4 : u.2.1 4 = nI r := by rw [er]; exact (rT 4 (by decide)).trans ho.r
  have h50 : ∀ s, s < 12 → gN v.2.2.1 s ≤ 50 := fun s hs => (ho.2.2 s hs).2
  have hC50 := hC.1.2
  have hcnt := entries_rel hr (t := 0) (Nat.zero_le _)
  have hsz := ht.2.2.2 0 (Nat.zero_le _)
  obtain ⟨N, eN⟩ : ∃ N, N = fa_cnt (fun k => zHas v.2.2.2.1.1 0 k) 64 := ⟨_, rfl⟩
  rw [← eN] at hcnt hsz
  have hN : N ≤ 64 := by rw [eN]; exact fa_cnt_le _ _
  obtain ⟨b, eb⟩ : ∃ b, b = v.1.2.1 := ⟨_, rfl⟩
  obtain ⟨f, ef⟩ : ∃ f, f = v.2.2.2.1.1 := ⟨_, rfl⟩
  have rE : ∀ l k, l ≤ r → k < 64 → mE1 b (f (64 * l + k)) u.2.1 (3102 + 6 * (64 * l + k)) := fun l k hl hk => by rw [eb, ef]; exact rE l k (by rw [er] at hl; exact hl) hk
  refine ⟨fun n y1 z => ∃ (l : Nat) (m' : Nat → Int32), ¬ N = 0 ∧ l ≤ r + 1 ∧ n = 1000 * l ∧ y1 = nI l + (-1) ∧ z = (u.1, m', u.2.2) ∧ flP v m' ∧ (∀ l' k, l' < l → k < 64 → mE1 b (f (64 * l' + k)) m' (3102 + 6 * (64 * l' + k))) ∧ (∀ l' k, l ≤ l' → l' ≤ r → k < 64 → mE1 b (f (64 * l' + k)) m' (3102 + 6 * (64 * (l' + 1) + k))),
    fun n y1 y2 z => ∃ (l i : Nat) (m' : Nat → Int32), ¬ N = 0 ∧ l ≤ r ∧ i ≤ 64 ∧ n = 1000 * l + 500 - i ∧ y1 = nI l ∧ y2 = nI i ∧ z = (u.1, m', u.2.2) ∧ flP v m' ∧ (∀ l' k, l' ≤ l → k < 64 → mE1 b (f (64 * l' + k)) m' (3102 + 6 * (64 * l' + k))) ∧ (∀ l' k, l < l' → l' ≤ r → k < 64 → mE1 b (f (64 * l' + k)) m' (3102 + 6 * (64 * (l' + 1) + k))) ∧ (∀ k, k < i → mE1 b (f (64 * l + k)) m' (3102 + 6 * (64 * (l + 1) + k))), ?_, ?_, ?_⟩
  · rintro n y1 z ⟨l, m', hN0, hl, rfl, rfl, rfl, hp, ha, hb⟩
    have hneg : ¬ v.2.2.2.1.2.1 0 ≤ 0 := by
      rw [hsz]
      exact fun q => hN0 (by have := (nI_leI (a := N) (b := 0) (by omega) (by decide)).mp q; omega)
    have eF : uFl1 v = (v.1, (v.2.1.1, v.2.1.2.1, v.2.1.2.2.1 + v.2.2.2.1.2.1 0, v.2.1.2.2.2.1, v.2.1.2.2.2.2), v.2.2.1, zShift v.2.2.2.1 (rN v), v.2.2.2.2.1, zTell v.2.2.2.2.2.1 (dN v.2.2.2.2.2.1) 0 (v.2.2.2.1.2.1 0) v.2.2.2.2.2.2.1, v.2.2.2.2.2.2.1, v.2.2.2.2.2.2.1, v.2.2.2.2.2.2.1) := if_neg hneg
    refine ⟨fun c => ⟨0, by decide, rfl, ?_⟩, fun c => ?_⟩
    · have hl0 : l = 0 := by
        by_cases q : l = 0
        · exact q
        · obtain ⟨l', rfl⟩ : ∃ l', l = l' + 1 := ⟨l - 1, by omega⟩
          rw [n_pm] at c
          exact absurd c (nI_pos (by omega))
      subst hl0
      dsimp only
      rw [n_c4, n_c3]
      have wo : ∀ j, ¬ (3102 ≤ j ∧ j < 3486) → mWp m' 0 384 j = m' j := fun j hj => if_neg (by omega)
      have w4 : mWp m' 0 384 4 = nI r := by rw [wo 4 (by omega), er]; exact hp.2.1
      rw [w4, nI_1]
      refine ⟨vp_in_nI (n := 4) (by decide) (by decide), vp_in_nI (n := 4) (by decide) (by decide), fun f15 e15 => ⟨vp_in_nI (n := 4) (by decide) (by decide), vp_in_nI (n := 3) (by decide) (by decide), ?_⟩⟩
      have g4 : f15 4 = nI (r + 1) := by rw [e15, up_eq rfl]
      have go : ∀ j, ¬ (3102 ≤ j ∧ j < 3486) → ¬ j = 4 → f15 j = m' j := fun j a b => by rw [e15, up_ne b, wo j a]
      have g3 : f15 3 = v.1.2.2.2 := by
        rw [go 3 (by omega) (by omega), hp.1 3 (by decide) (by decide), eF]; rfl
      have hrel : mRel (uFl1 v) f15 := by
        obtain ⟨k1, k2, k3, k4, k5, k6⟩ := hp
        refine mRel_iff.mpr ⟨fun i hi => ?_, ?_, ?_, ?_, ?_, ?_⟩
        · by_cases q : i = 4
          · subst q
            rw [g4, eF, er]; rfl
          · rw [go i (by omega) q]; exact k1 i hi q
        · rw [eF]; exact k3.cg (fun j a b => go j (by omega) (by omega))
        · rw [eF]; exact k4.cg h50 (fun j a b => go j (by omega) (by omega))
        · rw [eF]
          intro l k hl hk
          have hl : l ≤ tR (zShift v.2.2.2.1 (rN v)) := hl
          rw [shift_r _ _ (by omega), ← er] at hl
          show mE1 v.1.2.1 ((zShift v.2.2.2.1 (rN v)).1 (64 * l + k)) f15 _
          rw [shift_at _ hk (by omega), ← eb, ← ef]
          by_cases hl0 : l = 0
          · rw [if_pos hl0]
            subst hl0
            refine ⟨?_, fun q => absurd rfl q⟩
            rw [e15, up_ne (by omega)]
            exact if_pos (by omega)
          · rw [if_neg hl0]
            have := hb (l - 1) k (by omega) (by omega) hk
            rw [show l - 1 + 1 = l by omega] at this
            exact this.cg (fun w hw => go _ (by omega) (by omega))
        · rw [eF]; exact k5.cg hC50 (fun j a b => go j (by omega) (by omega))
        · exact k6.cg (uFl1_dia hD).2 (fun j a b => go j (by omega) (by omega))
      have eR : (uFl1 v).2.2.2.1.2.2 = nI (r + 1) := by rw [eF, er]; rfl
      rw [g4, g3]
      unfold uFlush at hQ
      rw [eR] at hQ
      refine ⟨fun c2 => ?_, fun c2 => ⟨uFl1 v, hF.ok, hF.2.2.2.2.2.2.2.2.2.2.1, hF.2.2.2.2.2.2.2.2.2.1.1.2, hrel, ?_⟩⟩
      · rw [if_pos c2] at hQ
        exact hQ f15 hrel
      · rw [if_neg c2] at hQ
        exact hQ
    · obtain ⟨l', rfl⟩ : ∃ l', l = l' + 1 := ⟨l - 1, by
        by_cases q : l = 0
        · subst q; exact absurd (by decide) c
        · omega⟩
      rw [n_pm, nI_1]
      refine ⟨l' + 1, by omega, rfl, 1000 * l' + 500 - 0, by omega, l', 0, mWp m' (l' + 1) 384, hN0, by omega, by omega, rfl, rfl, rfl, rfl, hp.cg h50 hC50 hD (fun j a => if_neg (by omega)), fun l2 k a hk => (ha l2 k (by omega) hk).cg (fun w hw => if_neg (by omega)), fun l2 k a1 a2 hk => (hb l2 k (by omega) a2 hk).cg (fun w hw => if_neg (by omega)), fun k hk => absurd hk (Nat.not_lt_zero k)⟩
  · rintro n y1 y2 z ⟨l, i, m', hN0, hl, hi, rfl, rfl, rfl, rfl, hp, ha, hb, hc⟩
    refine ⟨fun c x ex => ?_, fun c => ?_⟩
    · have h64 : i = 64 := by
        have := (nI_leI (a := 64) (b := i) (by decide) (by omega)).mp c
        omega
      subst h64
      refine ⟨1000 * l, by omega, l, m', hN0, by omega, rfl, ex, rfl, hp, fun l2 k a hk => ha l2 k (by omega) hk, fun l2 k a1 a2 hk => ?_⟩
      by_cases q : l2 = l
      · subst q; exact hc k hk
      · exact hb l2 k (by omega) a2 hk
    · have hi : i < 64 := by
        have : ¬ 64 ≤ i := fun q => c (nI_le q (by omega))
        omega
      rw [nI_1]
      refine ⟨l, l + 1, i, by omega, by omega, hi, rfl, rfl, rfl, fun x ex => ?_⟩
      have cp : ∀ w, w < 6 → mCp m' l (l + 1) i 6 (3102 + 6 * (64 * (l + 1) + i) + w) = m' (3102 + 6 * (64 * l + i) + w) := fun w hw => by
        unfold mCp
        rw [if_pos (by omega), show 3102 + 6 * (64 * (l + 1) + i) + w - (3102 + 6 * (64 * (l + 1) + i)) = w by omega]
      have co : ∀ j, ¬ (3102 + 6 * (64 * (l + 1) + i) ≤ j ∧ j < 3102 + 6 * (64 * (l + 1) + i) + 6) → mCp m' l (l + 1) i 6 j = m' j := fun j hj => if_neg hj
      refine ⟨1000 * l + 500 - (i + 1), by omega, l, i + 1, mCp m' l (l + 1) i 6, hN0, hl, by omega, rfl, rfl, by rw [ex, nI_1], rfl, hp.cg h50 hC50 hD (fun j a => co j (by omega)), fun l2 k a hk => (ha l2 k a hk).cg (fun w hw => co _ (by omega)), fun l2 k a1 a2 hk => (hb l2 k a1 a2 hk).cg (fun w hw => co _ (by omega)), fun k hk => ?_⟩
      by_cases q : k = i
      · subst q; exact (ha l k (Nat.le_refl _) hi).cg cp
      · exact (hc k (by omega)).cg (fun w hw => co _ (by omega))
  · unfold t_X11_flushes_e
    rw [n_c5, n_c6, n_c7, n_c14]
    refine ⟨vp_in_nI (n := 5) (by decide) (by decide), vp_in_nI (n := 6) (by decide) (by decide), fun f1 e1 => ⟨vp_in_nI (n := 5) (by decide) (by decide), vp_in_nI (n := 7) (by decide) (by decide), fun f2 e2 => ⟨0, by decide, rfl, ?_⟩⟩⟩
    have f15 : f1 5 = u.2.1 5 := by rw [e1, up_ne (by omega)]
    rw [f15] at e2
    have fo : ∀ j, ¬ j = 6 → ¬ j = 7 → f2 j = u.2.1 j := fun j a b => by rw [e2, up_ne b, e1, up_ne a]
    have f26 : f2 6 = u.2.1 5 := by rw [e2, up_ne (by omega), e1, up_eq rfl]
    have f27 : f2 7 = u.2.1 5 := by rw [e2, up_eq rfl]
    have c2 : fa_cnt (fun k => decide (¬ f2 (3102 + 6 * (64 * 0 + k) + 1) ≤ 0)) 64 = N := by
      rw [← hcnt]
      exact fa_cnt_cong (fun k hk => by rw [fo _ (by omega) (by omega)])
    show (¬ nI (fa_cnt (fun k => decide (¬ f2 (3102 + 6 * (64 * 0 + k) + 1) ≤ 0)) 64) = 0 → _) ∧ (nI (fa_cnt (fun k => decide (¬ f2 (3102 + 6 * (64 * 0 + k) + 1) ≤ 0)) 64) = 0 → _)
    rw [c2]
    refine ⟨fun d => ⟨vp_in_nI (n := 14) (by decide) (by decide), 0, by decide, rfl, ?_⟩, fun d => ?_⟩
    · have hN0 : ¬ N = 0 := fun q => d (by rw [q]; rfl)
      have hneg : ¬ v.2.2.2.1.2.1 0 ≤ 0 := by
        rw [hsz]
        exact fun q => hN0 (by have := (nI_leI (a := N) (b := 0) (by omega) (by decide)).mp q; omega)
      have eF : uFl1 v = (v.1, (v.2.1.1, v.2.1.2.1, v.2.1.2.2.1 + v.2.2.2.1.2.1 0, v.2.1.2.2.2.1, v.2.1.2.2.2.2), v.2.2.1, zShift v.2.2.2.1 (rN v), v.2.2.2.2.1, zTell v.2.2.2.2.2.1 (dN v.2.2.2.2.2.1) 0 (v.2.2.2.1.2.1 0) v.2.2.2.2.2.2.1, v.2.2.2.2.2.2.1, v.2.2.2.2.2.2.1, v.2.2.2.2.2.2.1) := if_neg hneg
      show vp_in (14 : Int32) 5497 ∧ ∀ f_6 : Nat → Int32, f_6 = upd f2 14 (f2 14 + nI (fa_cnt (fun k => decide (¬ f2 (3102 + 6 * (64 * 0 + k) + 1) ≤ 0)) 64)) → _
      rw [c2]
      refine ⟨vp_in_nI (n := 14) (by decide) (by decide), fun f6 e6 => ⟨0, by decide, rfl, ?_⟩⟩
      have c6 : fa_cnt (fun k => decide (¬ f6 (3102 + 6 * (64 * 0 + k) + 1) ≤ 0)) 64 = N := by
        rw [← c2]
        exact fa_cnt_cong (fun k hk => by rw [e6, up_ne (by omega)])
      show s_X11_logs (u.1, f6, u.2.2) (0 : Int32) (nI (fa_cnt (fun k => decide (¬ f6 (3102 + 6 * (64 * 0 + k) + 1) ≤ 0)) 64)) _
      rw [c6]
      refine ⟨v.2.2.2.2.2.1, hD, rL.cg hD.2 (fun j a b => by show f6 j = _; rw [e6, up_ne (by omega)]; exact fo j (by omega) (by omega)), fun m2 hlg hm2 => ?_⟩
      have hm2 : ∀ j, j < 5406 → m2 j = f6 j := hm2
      have hlg : mLg (zTell v.2.2.2.2.2.1 (dN v.2.2.2.2.2.1) 0 (nI N) (f6 5)) m2 := hlg
      have e5 : f6 5 = v.2.2.2.2.2.2.1 := by rw [e6, up_ne (by omega), fo 5 (by omega) (by omega)]; exact rT 5 (by decide)
      rw [e5, ← hsz] at hlg
      have mo2 : ∀ j, j < 5406 → ¬ j = 6 → ¬ j = 7 → ¬ j = 14 → m2 j = u.2.1 j := fun j a1 a2 a3 a4 => by rw [hm2 j a1, e6, up_ne a4, fo j a2 a3]
      dsimp only
      rw [n_c4, mo2 4 (by omega) (by omega) (by omega) (by omega), m4]
      refine ⟨vp_in_nI (n := 4) (by decide) (by decide), fun x ex => ⟨1000 * (r + 1), r + 1, m2, hN0, by omega, rfl, by rw [ex, n_pm], rfl, ⟨lt16 ?_ ?_ ?_ ?_ ?_ ?_ ?_ ?_ ?_ ?_ ?_ ?_ ?_ ?_ ?_ ?_, by rw [← er, mo2 4 (by omega) (by omega) (by omega) (by omega), m4], rS.cg (fun j a b => mo2 j (by omega) (by omega) (by omega) (by omega)), rR.cg h50 (fun j a b => mo2 j (by omega) (by omega) (by omega) (by omega)), rN'.cg hC50 (fun j a b => mo2 j (by omega) (by omega) (by omega) (by omega)), by rw [eF]; exact hlg⟩, fun l' k a hk => (rE l' k (by omega) hk).cg (fun w hw => mo2 _ (by omega) (by omega) (by omega) (by omega)), fun l' k a b => absurd a (by omega)⟩⟩
      all_goals try exact fun q => absurd rfl q
      all_goals try exact fun _ => by rw [mo2 _ (by omega) (by omega) (by omega) (by omega), rT _ (by decide), eF]; rfl
      · exact fun _ => by rw [hm2 6 (by omega), e6, up_ne (by omega), f26, rT 5 (by decide), eF]; rfl
      · exact fun _ => by rw [hm2 7 (by omega), e6, up_ne (by omega), f27, rT 5 (by decide), eF]; rfl
      · exact fun _ => by rw [hm2 14 (by omega), e6, up_eq rfl, fo 14 (by omega) (by omega), rT 14 (by decide), eF, ← hsz]; rfl
    · have hN0 : N = 0 := (nI_eq (a := N) (b := 0) (by omega) (by decide)).mp d
      have hpos : v.2.2.2.1.2.1 0 ≤ 0 := by rw [hsz, hN0]; decide
      have eF : uFl1 v = (v.1, v.2.1, v.2.2.1, v.2.2.2.1, v.2.2.2.2.1, v.2.2.2.2.2.1, v.2.2.2.2.2.2.1, v.2.2.2.2.2.2.1, v.2.2.2.2.2.2.1) := if_pos hpos
      have hle : (uFl1 v).2.2.2.1.2.2 ≤ v.1.2.2.2 := by
        rw [eF, h4.1]
        show v.2.2.2.1.2.2 ≤ nI lm
        rw [ho.r]
        exact nI_le hR (by omega)
      unfold uFlush at hQ
      rw [if_pos hle] at hQ
      refine hQ f2 ?_
      rw [eF]
      have h6 := ht.1.2
      refine mRel_iff.mpr ⟨lt16 ?_ ?_ ?_ ?_ ?_ ?_ ?_ ?_ ?_ ?_ ?_ ?_ ?_ ?_ ?_ ?_, rS.cg (fun j a b => fo j (by omega) (by omega)), rR.cg h50 (fun j a b => fo j (by omega) (by omega)), fun l k hl hk => ?_, rN'.cg hC50 (fun j a b => fo j (by omega) (by omega)), rL.cg hD.2 (fun j a b => fo j (by omega) (by omega))⟩
      all_goals try exact (fo _ (by omega) (by omega)).trans (rT _ (by decide))
      · exact f26.trans (rT 5 (by decide))
      · exact f27.trans (rT 5 (by decide))
      · have := rE l k (by rw [er]; exact hl) hk
        rw [eb, ef] at this
        exact this.cg (fun w hw => fo _ (by omega) (by omega))
theorem c_X11_flushes (l : Launch) (dC : Nat → ClassId) (dI : Nat → Nat → Nat) (cI cJ cS : ClassId) (a : Nat → Nat) (u : zModel) (Q : zModel → Prop) (hf : s_X11_flushes u Q) : ∀ sz : Nat, Met l yX11_flushes (Cond.code yX11_flushes cX11_flushes 3 none :: zT) rm_X11_flushes (zPm dC dI cI cJ cS (cl_X11 cI cJ a u) [.ref (a 0)] sz) (va_Qv Q (zB dC dI cI cJ cS (va_A (cl_X11 cI cJ a u) sz) (fun z => cl_X11 cI cJ a z)) (va_A (cl_X11 cI cJ a u) sz)) 0 0 (va_A (cl_X11 cI cJ a u) sz) := by
  obtain ⟨I67, I80, h67, h80, hf⟩ := st_X11_flushes hf
  exact L_X11_flushes l dC dI cI cJ cS a u Q I67 I80 h67 h80 hf

def t_X11_puts (u : zModel) (x1 : Int32) (x2 : Int32) (x3 : Int32) (Q : zModel → Prop) : Prop := s_X11_hasEntry u (0 : Int32) x1 (fun r_1 : Int32 => ((¬ r_1 = 0 → s_X11_appends u x1 x2 x3 (fun (u_4 : zModel) => Q u_4)) ∧ (r_1 = 0 → s_X11_entries u (0 : Int32) (fun r_5 : Int32 => vp_in (2 : Int32) 5497 ∧ ((r_5 < (u.2.1 (2 : Int32).toNatClampNeg) → s_X11_appends u x1 x2 x3 (fun (u_8 : zModel) => Q u_8)) ∧ (¬ r_5 < (u.2.1 (2 : Int32).toNatClampNeg) → s_X11_flushes u (fun (u_10 : zModel) => s_X11_appends u_10 x1 x2 x3 (fun (u_12 : zModel) => Q u_12))))))))
theorem zc_X11_puts : zCalV RX11 yX11_puts cX11_puts 4 none 3 := ⟨q_im_X11_puts, q_se_X11_puts, q_in_X11, q_cd_X11_puts, ⟨by decide, by decide, by decide +kernel⟩, rfl⟩
abbrev rm_X11_puts : Room := { frames := 5, cells := 0, slots := 0, locals := 110 }
set_option maxHeartbeats 4000000 in
set_option maxRecDepth 100000 in
theorem L_X11_puts (l : Launch) (dC : Nat → ClassId) (dI : Nat → Nat → Nat) (cI cJ cS : ClassId) (a : Nat → Nat) (u : zModel) (x1 : Int32) (x2 : Int32) (x3 : Int32) (Q : zModel → Prop) (hf : t_X11_puts u x1 x2 x3 Q) : ∀ sz : Nat, Met l yX11_puts (Cond.code yX11_puts cX11_puts 4 none :: zT) rm_X11_puts (zPm dC dI cI cJ cS (cl_X11 cI cJ a u) [.ref (a 0), .int x1, .int x2, .int x3] sz) (va_Qv Q (zB dC dI cI cJ cS (va_A (cl_X11 cI cJ a u) sz) (fun z => cl_X11 cI cJ a z)) (va_A (cl_X11 cI cJ a u) sz)) 0 0 (va_A (cl_X11 cI cJ a u) sz) := by
  intro sz
  refine z_enterM (Qc := fun A => va_Qv Q (zB dC dI cI cJ cS A (fun z => cl_X11 cI cJ a z)) A) (cc := cX11_puts) (maxL := 4) (ret := none) (by decide) (Nat.le_of_ble_eq_true rfl) ?_
  intro p e s m below meth c ls A X hP hD hS hA hl
  obtain ⟨⟨hx, hb, hml, hown, hts⟩, hr, hlk, hK⟩ := id X
  have hl : lv_has ls 4 [(0, .ref (a 0)), (1, .int x1), (2, .int x2), (3, .int x3)] := hl
  unfold t_X11_puts at hf
  refine lv_aload_n hx hb dX11_puts_0 rfl (lv_at hl 0 rfl) ?_
  refine lv_iconst (v := 0) hx hb dX11_puts_1 (by decide) ?_
  refine lv_iload_n hx hb dX11_puts_2 rfl (lv_at hl 1 rfl) ?_
  refine z_cVi (As := [.int (0 : Int32), .int x1]) (rest := []) X (c_X11_hasEntry l dC dI cI cJ cS a u (0 : Int32) x1 _ hf) zc_X11_hasEntry q_ml_X11_66 ⟨rfl, rfl⟩ ⟨Nat.le_of_ble_eq_true rfl, Nat.le_of_ble_eq_true rfl⟩ hP [0, 1, 2, 3, 4, 5, 6, 7, 8] rfl 10 rfl rfl hl.1 rfl rfl (Nat.le_of_ble_eq_true rfl) ⟨Nat.zero_le _, Nat.zero_le _⟩ dX11_puts_3 (fun r_1 hf => ?_)
  obtain ⟨hbr_1, hf⟩ := hf
  refine lv_if_ne (tgt := 27) hx hb dX11_puts_6 (by decide) (fun c_2 => ?_) (fun c_2 => ?_)
  · have hf := hf.1 c_2
    refine lv_aload_n hx hb dX11_puts_27 rfl (lv_at hl 0 rfl) ?_
    refine lv_iload_n hx hb dX11_puts_28 rfl (lv_at hl 1 rfl) ?_
    refine lv_iload_n hx hb dX11_puts_29 rfl (lv_at hl 2 rfl) ?_
    refine lv_iload_n hx hb dX11_puts_30 rfl (lv_at hl 3 rfl) ?_
    refine z_mVv (Wn := (fun u_4 => cl_X11 cI cJ a u_4)) (As := [.int x1, .int x2, .int x3]) (rest := []) (wr := []) X (c_X11_appends l dC dI cI cJ cS a u x1 x2 x3 _ hf _) zc_X11_appends q_ml_X11_121 ⟨rfl, rfl⟩ ⟨Nat.le_of_ble_eq_true rfl, Nat.le_of_ble_eq_true rfl⟩ hP hD hS hA [0, 1, 2, 3, 4, 5, 6, 7, 8] [] rfl (by decide) rfl (by decide) (by decide) [0, 1, 2, 3, 4, 5, 6, 7, 8] (by decide) (fun _ => rfl) 10 rfl rfl hl.1 rfl rfl (Nat.le_of_ble_eq_true rfl) ⟨Nat.zero_le _, Nat.zero_le _⟩ dX11_puts_31 (fun u_4 H locs hf hP hD hS => ?_)
    exact z_retMv (Wf := (fun z => cl_X11 cI cJ a z)) (u := u_4) X hf hP hD hS dX11_puts_34
  · have hf := hf.2 c_2
    refine lv_aload_n hx hb dX11_puts_9 rfl (lv_at hl 0 rfl) ?_
    refine lv_iconst (v := 0) hx hb dX11_puts_10 (by decide) ?_
    refine z_cVi (As := [.int (0 : Int32)]) (rest := []) X (c_X11_entries l dC dI cI cJ cS a u (0 : Int32) _ hf) zc_X11_entries q_ml_X11_108 ⟨rfl, rfl⟩ ⟨Nat.le_of_ble_eq_true rfl, Nat.le_of_ble_eq_true rfl⟩ hP [0, 1, 2, 3, 4, 5, 6, 7, 8] rfl 10 rfl rfl hl.1 rfl rfl (Nat.le_of_ble_eq_true rfl) ⟨Nat.zero_le _, Nat.zero_le _⟩ dX11_puts_11 (fun r_5 hf => ?_)
    refine lv_aload_n hx hb dX11_puts_14 rfl (lv_at hl 0 rfl) ?_
    refine va_get (D := (dC, dI)) (ci := 10) (v := .ref (a 1)) (C := RX11) (T := TX11) (N := 17) hx hb hts inX11 hown hK hP 0 rfl rfl 1 (by decide) (hts _ q_fl_X11_7) (fun _ h9 => h9) rfl dX11_puts_15 ?_
    refine lv_iconst (v := 2) hx hb dX11_puts_18 (by decide) ?_
    obtain ⟨hg, hf⟩ := hf
    refine va_iald hx hb hK hP 1 0 rfl rfl hg dX11_puts_19 ?_
    refine lv_icmp_lt (tgt := 27) hx hb dX11_puts_20 (by decide) (fun c_6 => ?_) (fun c_6 => ?_)
    · have hf := hf.1 c_6
      refine lv_aload_n hx hb dX11_puts_27 rfl (lv_at hl 0 rfl) ?_
      refine lv_iload_n hx hb dX11_puts_28 rfl (lv_at hl 1 rfl) ?_
      refine lv_iload_n hx hb dX11_puts_29 rfl (lv_at hl 2 rfl) ?_
      refine lv_iload_n hx hb dX11_puts_30 rfl (lv_at hl 3 rfl) ?_
      refine z_mVv (Wn := (fun u_8 => cl_X11 cI cJ a u_8)) (As := [.int x1, .int x2, .int x3]) (rest := []) (wr := []) X (c_X11_appends l dC dI cI cJ cS a u x1 x2 x3 _ hf _) zc_X11_appends q_ml_X11_121 ⟨rfl, rfl⟩ ⟨Nat.le_of_ble_eq_true rfl, Nat.le_of_ble_eq_true rfl⟩ hP hD hS hA [0, 1, 2, 3, 4, 5, 6, 7, 8] [] rfl (by decide) rfl (by decide) (by decide) [0, 1, 2, 3, 4, 5, 6, 7, 8] (by decide) (fun _ => rfl) 10 rfl rfl hl.1 rfl rfl (Nat.le_of_ble_eq_true rfl) ⟨Nat.zero_le _, Nat.zero_le _⟩ dX11_puts_31 (fun u_8 H locs hf hP hD hS => ?_)
      exact z_retMv (Wf := (fun z => cl_X11 cI cJ a z)) (u := u_8) X hf hP hD hS dX11_puts_34
    · have hf := hf.2 c_6
      refine lv_aload_n hx hb dX11_puts_23 rfl (lv_at hl 0 rfl) ?_
      refine z_mVv (Wn := (fun u_10 => cl_X11 cI cJ a u_10)) (As := []) (rest := []) (wr := []) X (c_X11_flushes l dC dI cI cJ cS a u  _ hf _) zc_X11_flushes q_ml_X11_118 ⟨rfl, rfl⟩ ⟨Nat.le_of_ble_eq_true rfl, Nat.le_of_ble_eq_true rfl⟩ hP hD hS hA [0, 1, 2, 3, 4, 5, 6, 7, 8] [] rfl (by decide) rfl (by decide) (by decide) [0, 1, 2, 3, 4, 5, 6, 7, 8] (by decide) (fun _ => rfl) 10 rfl rfl hl.1 rfl rfl (Nat.le_of_ble_eq_true rfl) ⟨Nat.zero_le _, Nat.zero_le _⟩ dX11_puts_24 (fun u_10 H locs hf hP hD hS => ?_)
      refine lv_aload_n hx hb dX11_puts_27 rfl (lv_at hl 0 rfl) ?_
      refine lv_iload_n hx hb dX11_puts_28 rfl (lv_at hl 1 rfl) ?_
      refine lv_iload_n hx hb dX11_puts_29 rfl (lv_at hl 2 rfl) ?_
      refine lv_iload_n hx hb dX11_puts_30 rfl (lv_at hl 3 rfl) ?_
      refine z_mVv (Wn := (fun u_12 => cl_X11 cI cJ a u_12)) (As := [.int x1, .int x2, .int x3]) (rest := []) (wr := []) X (c_X11_appends l dC dI cI cJ cS a u_10 x1 x2 x3 _ hf _) zc_X11_appends q_ml_X11_121 ⟨rfl, rfl⟩ ⟨Nat.le_of_ble_eq_true rfl, Nat.le_of_ble_eq_true rfl⟩ hP hD hS hA [0, 1, 2, 3, 4, 5, 6, 7, 8] [] rfl (by decide) rfl (by decide) (by decide) [0, 1, 2, 3, 4, 5, 6, 7, 8] (by decide) (fun _ => rfl) 10 rfl rfl hl.1 rfl rfl (Nat.le_of_ble_eq_true rfl) ⟨Nat.zero_le _, Nat.zero_le _⟩ dX11_puts_31 (fun u_12 H locs hf hP hD hS => ?_)
      exact z_retMv (Wf := (fun z => cl_X11 cI cJ a z)) (u := u_12) X hf hP hD hS dX11_puts_34
def s_X11_puts (u : zModel) (x1 x2 x3 : Int32) (Q : zModel → Prop) : Prop := ∃ (v : zState) (ρ β mo lm L S M B k ln sd : Nat), zP ρ β mo lm L S M B v ∧ B < 400000 ∧ k < 64 ∧ ln ≤ 40 ∧ sd < 256 ∧ x1 = nI k ∧ x2 = lnI ln ∧ x3 = nI sd ∧ uFits v (4 + nI ln) = true ∧ mRel v u.2.1 ∧ ∀ m' : Nat → Int32, mRel (uEnter v k ln sd) m' → Q (u.1, m', u.2.2)
theorem st_X11_puts {u : zModel} {x1 x2 x3 : Int32} {Q : zModel → Prop} (h : s_X11_puts u x1 x2 x3 Q) : t_X11_puts u x1 x2 x3 Q := by
  obtain ⟨v, ρ, β, mo, lm, L, S, M, B, k, ln, sd, hP, hB, hk, hl, hsd, rfl, rfl, rfl, hf, hr, hQ⟩ := h
  obtain ⟨rT, rS, rR, rE, rN', rL⟩ := mRel_iff.mp hr
  have ht := hP.2.2.2.2.2.2.1
  have hcnt := entries_rel hr (t := 0) (Nat.zero_le _)
  have hsz := ht.2.2.2 0 (Nat.zero_le _)
  have e0 := (rE 0 k (Nat.zero_le _) hk).1
  have m2 : u.2.1 2 = v.1.2.2.1 := rT 2 (by decide)
  unfold uEnter uE1 at hQ
  have ek : v.2.2.2.1.1 (64 * 0 + k) = v.2.2.2.1.1 k := by rw [show 64 * 0 + k = k by omega]
  refine ⟨0, k, by decide, hk, rfl, rfl, fun d => ⟨fun q => absurd rfl q, fun _ => ⟨0, by decide, rfl, ?_⟩⟩, fun d => ⟨fun _ => ?_, fun q => absurd q (by decide)⟩⟩
  · rw [e0, ek] at d
    have hz := (uKind_pos _).mp d
    rw [n_c2, m2, hcnt, ← hsz]
    refine ⟨vp_in_nI (n := 2) (by decide) (by decide), fun c => ?_, fun c => ⟨v, ρ, β, mo, lm, L, S, M, B, hP, hr, fun m1 hm1 => ?_⟩⟩
    · rw [if_pos (Or.inl c)] at hQ
      exact ⟨v, ρ, β, mo, lm, L, S, M, B, k, ln, sd, hP, hB, hk, hl, hsd, rfl, rfl, rfl, hf, hr, hQ⟩
    · rw [if_neg (fun q => q.elim c (fun q => q hz))] at hQ
      exact ⟨uFlush v, ρ, β, mo, lm, L, L, L, B, k, ln, sd, zPr.flush hP, hB, hk, hl, hsd, rfl, rfl, rfl, by rw [uFits_flush]; exact hf, hm1, hQ⟩
  · rw [e0, ek] at d
    rw [if_pos (Or.inr (fun q => d ((uKind_pos _).mpr q)))] at hQ
    exact ⟨v, ρ, β, mo, lm, L, S, M, B, k, ln, sd, hP, hB, hk, hl, hsd, rfl, rfl, rfl, hf, hr, hQ⟩
theorem c_X11_puts (l : Launch) (dC : Nat → ClassId) (dI : Nat → Nat → Nat) (cI cJ cS : ClassId) (a : Nat → Nat) (u : zModel) (x1 : Int32) (x2 : Int32) (x3 : Int32) (Q : zModel → Prop) (hf : s_X11_puts u x1 x2 x3 Q) : ∀ sz : Nat, Met l yX11_puts (Cond.code yX11_puts cX11_puts 4 none :: zT) rm_X11_puts (zPm dC dI cI cJ cS (cl_X11 cI cJ a u) [.ref (a 0), .int x1, .int x2, .int x3] sz) (va_Qv Q (zB dC dI cI cJ cS (va_A (cl_X11 cI cJ a u) sz) (fun z => cl_X11 cI cJ a z)) (va_A (cl_X11 cI cJ a u) sz)) 0 0 (va_A (cl_X11 cI cJ a u) sz) := L_X11_puts l dC dI cI cJ cS a u x1 x2 x3 Q (st_X11_puts hf)
