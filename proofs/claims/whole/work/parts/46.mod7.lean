def t_X11_merges_e (u : zModel) (K2 : Int32 → zModel → Prop) (K10 : Int32 → Int32 → zModel → Prop) (K127 : Int32 → zModel → Prop) (Q : zModel → Prop) : Prop := K2 (0 : Int32) u
def t_X11_merges_2 (y1 : Int32) (z : zModel) (K2 : Int32 → zModel → Prop) (K10 : Int32 → Int32 → zModel → Prop) (K127 : Int32 → zModel → Prop) (Q : zModel → Prop) : Prop := (((64 : Int32) ≤ y1 → vp_in (4 : Int32) 5497 ∧ (((z.2.1 (4 : Int32).toNatClampNeg) ≤ (1 : Int32) → K127 (2 : Int32) z) ∧ (¬ (z.2.1 (4 : Int32).toNatClampNeg) ≤ (1 : Int32) → vp_in (14 : Int32) 5497 ∧ s_X11_entries z (1 : Int32) (fun r_5 : Int32 => vp_in (14 : Int32) 5497 ∧ ∀ f_6 : Nat → Int32, f_6 = upd z.2.1 (14 : Int32).toNatClampNeg ((z.2.1 (14 : Int32).toNatClampNeg) + r_5) → s_X11_entries (z.1, f_6, z.2.2) (1 : Int32) (fun r_7 : Int32 => s_X11_logs (z.1, f_6, z.2.2) (1 : Int32) r_7 (fun (u_9 : zModel) => K127 (2 : Int32) u_9)))))) ∧ (¬ (64 : Int32) ≤ y1 → K10 y1 (1 : Int32) z))
def t_X11_merges_10 (y1 : Int32) (y2 : Int32) (z : zModel) (K2 : Int32 → zModel → Prop) (K10 : Int32 → Int32 → zModel → Prop) (K127 : Int32 → zModel → Prop) (Q : zModel → Prop) : Prop := vp_in (4 : Int32) 5497 ∧ (((z.2.1 (4 : Int32).toNatClampNeg) < y2 → vp_in (4 : Int32) 5497 ∧ ((y2 ≤ (z.2.1 (4 : Int32).toNatClampNeg) → s_X11_copies z y2 (1 : Int32) y1 (fun (u_15 : zModel) => s_X11_entryAt (1 : Int32) y1 (fun r_16 : Int32 => vp_in (r_16 + (1 : Int32)) 5497 ∧ ((¬ (u_15.2.1 (r_16 + (1 : Int32)).toNatClampNeg) = (1 : Int32) → ∀ x_18 : Int32, x_18 = y1 + (1 : Int32) → K2 x_18 u_15) ∧ ((u_15.2.1 (r_16 + (1 : Int32)).toNatClampNeg) = (1 : Int32) → s_X11_entryAt (1 : Int32) y1 (fun r_20 : Int32 => vp_in (r_20 + (1 : Int32)) 5497 ∧ ∀ f_21 : Nat → Int32, f_21 = upd u_15.2.1 (r_20 + (1 : Int32)).toNatClampNeg (0 : Int32) → ∀ x_22 : Int32, x_22 = y1 + (1 : Int32) → K2 x_22 (u_15.1, f_21, u_15.2.2))))))) ∧ (¬ y2 ≤ (z.2.1 (4 : Int32).toNatClampNeg) → ∀ x_24 : Int32, x_24 = y1 + (1 : Int32) → K2 x_24 z))) ∧ (¬ (z.2.1 (4 : Int32).toNatClampNeg) < y2 → s_X11_hasEntry z y2 y1 (fun r_26 : Int32 => ((¬ r_26 = 0 → vp_in (4 : Int32) 5497 ∧ ((y2 ≤ (z.2.1 (4 : Int32).toNatClampNeg) → s_X11_copies z y2 (1 : Int32) y1 (fun (u_30 : zModel) => s_X11_entryAt (1 : Int32) y1 (fun r_31 : Int32 => vp_in (r_31 + (1 : Int32)) 5497 ∧ ((¬ (u_30.2.1 (r_31 + (1 : Int32)).toNatClampNeg) = (1 : Int32) → ∀ x_33 : Int32, x_33 = y1 + (1 : Int32) → K2 x_33 u_30) ∧ ((u_30.2.1 (r_31 + (1 : Int32)).toNatClampNeg) = (1 : Int32) → s_X11_entryAt (1 : Int32) y1 (fun r_35 : Int32 => vp_in (r_35 + (1 : Int32)) 5497 ∧ ∀ f_36 : Nat → Int32, f_36 = upd u_30.2.1 (r_35 + (1 : Int32)).toNatClampNeg (0 : Int32) → ∀ x_37 : Int32, x_37 = y1 + (1 : Int32) → K2 x_37 (u_30.1, f_36, u_30.2.2))))))) ∧ (¬ y2 ≤ (z.2.1 (4 : Int32).toNatClampNeg) → ∀ x_39 : Int32, x_39 = y1 + (1 : Int32) → K2 x_39 z))) ∧ (r_26 = 0 → ∀ x_41 : Int32, x_41 = y2 + (1 : Int32) → K10 y1 x_41 z)))))
def t_X11_merges_127 (y1 : Int32) (z : zModel) (K2 : Int32 → zModel → Prop) (K10 : Int32 → Int32 → zModel → Prop) (K127 : Int32 → zModel → Prop) (Q : zModel → Prop) : Prop := vp_in (4 : Int32) 5497 ∧ (((z.2.1 (4 : Int32).toNatClampNeg) < y1 → vp_in (4 : Int32) 5497 ∧ (((z.2.1 (4 : Int32).toNatClampNeg) ≤ 0 → vp_in (4 : Int32) 5497 ∧ ∀ f_45 : Nat → Int32, f_45 = upd z.2.1 (4 : Int32).toNatClampNeg (0 : Int32) → Q (z.1, f_45, z.2.2)) ∧ (¬ (z.2.1 (4 : Int32).toNatClampNeg) ≤ 0 → s_X11_entries z (1 : Int32) (fun r_46 : Int32 => ((r_46 ≤ 0 → vp_in (4 : Int32) 5497 ∧ ∀ f_48 : Nat → Int32, f_48 = upd z.2.1 (4 : Int32).toNatClampNeg (0 : Int32) → Q (z.1, f_48, z.2.2)) ∧ (¬ r_46 ≤ 0 → vp_in (4 : Int32) 5497 ∧ ∀ f_49 : Nat → Int32, f_49 = upd z.2.1 (4 : Int32).toNatClampNeg (1 : Int32) → Q (z.1, f_49, z.2.2))))))) ∧ (¬ (z.2.1 (4 : Int32).toNatClampNeg) < y1 → s_X11_empties z y1 (fun (u_51 : zModel) => ∀ x_52 : Int32, x_52 = y1 + (1 : Int32) → K127 x_52 u_51)))
theorem zc_X11_merges : zCalV RX11 yX11_merges cX11_merges 3 none 0 := ⟨q_im_X11_merges, q_se_X11_merges, q_in_X11, q_cd_X11_merges, ⟨by decide, by decide, by decide +kernel⟩, rfl⟩
abbrev rm_X11_merges : Room := { frames := 3, cells := 0, slots := 0, locals := 66 }
def v_X11_merges (u : zModel) (Q : zModel → Prop) : Prop := ∃ I2 : Nat → Int32 → zModel → Prop, ∃ I10 : Nat → Int32 → Int32 → zModel → Prop, ∃ I127 : Nat → Int32 → zModel → Prop, (∀ (n : Nat) (y1 : Int32) (z : zModel), I2 n y1 z → t_X11_merges_2 y1 z (fun q0 q1 => ∃ k : Nat, k < n ∧ I2 k q0 q1) (fun q0 q1 q2 => ∃ k : Nat, k < n ∧ I10 k q0 q1 q2) (fun q0 q1 => ∃ k : Nat, k < n ∧ I127 k q0 q1) Q) ∧ (∀ (n : Nat) (y1 : Int32) (y2 : Int32) (z : zModel), I10 n y1 y2 z → t_X11_merges_10 y1 y2 z (fun q0 q1 => ∃ k : Nat, k < n ∧ I2 k q0 q1) (fun q0 q1 q2 => ∃ k : Nat, k < n ∧ I10 k q0 q1 q2) (fun q0 q1 => ∃ k : Nat, k < n ∧ I127 k q0 q1) Q) ∧ (∀ (n : Nat) (y1 : Int32) (z : zModel), I127 n y1 z → t_X11_merges_127 y1 z (fun q0 q1 => ∃ k : Nat, k < n ∧ I2 k q0 q1) (fun q0 q1 q2 => ∃ k : Nat, k < n ∧ I10 k q0 q1 q2) (fun q0 q1 => ∃ k : Nat, k < n ∧ I127 k q0 q1) Q) ∧ t_X11_merges_e u (fun q0 q1 => ∃ k : Nat, I2 k q0 q1) (fun q0 q1 q2 => ∃ k : Nat, I10 k q0 q1 q2) (fun q0 q1 => ∃ k : Nat, I127 k q0 q1) Q
set_option maxHeartbeats 4000000 in
set_option maxRecDepth 100000 in
theorem L_X11_merges (l : Launch) (dC : Nat → ClassId) (dI : Nat → Nat → Nat) (cI cJ cS : ClassId) (a : Nat → Nat) (u : zModel) (Q : zModel → Prop) (I2 : Nat → Int32 → zModel → Prop) (I10 : Nat → Int32 → Int32 → zModel → Prop) (I127 : Nat → Int32 → zModel → Prop) (h2 : ∀ (n : Nat) (y1 : Int32) (z : zModel), I2 n y1 z → t_X11_merges_2 y1 z (fun q0 q1 => ∃ k : Nat, k < n ∧ I2 k q0 q1) (fun q0 q1 q2 => ∃ k : Nat, k < n ∧ I10 k q0 q1 q2) (fun q0 q1 => ∃ k : Nat, k < n ∧ I127 k q0 q1) Q) (h10 : ∀ (n : Nat) (y1 : Int32) (y2 : Int32) (z : zModel), I10 n y1 y2 z → t_X11_merges_10 y1 y2 z (fun q0 q1 => ∃ k : Nat, k < n ∧ I2 k q0 q1) (fun q0 q1 q2 => ∃ k : Nat, k < n ∧ I10 k q0 q1 q2) (fun q0 q1 => ∃ k : Nat, k < n ∧ I127 k q0 q1) Q) (h127 : ∀ (n : Nat) (y1 : Int32) (z : zModel), I127 n y1 z → t_X11_merges_127 y1 z (fun q0 q1 => ∃ k : Nat, k < n ∧ I2 k q0 q1) (fun q0 q1 q2 => ∃ k : Nat, k < n ∧ I10 k q0 q1 q2) (fun q0 q1 => ∃ k : Nat, k < n ∧ I127 k q0 q1) Q) (hf : t_X11_merges_e u (fun q0 q1 => ∃ k : Nat, I2 k q0 q1) (fun q0 q1 q2 => ∃ k : Nat, I10 k q0 q1 q2) (fun q0 q1 => ∃ k : Nat, I127 k q0 q1) Q) : ∀ sz : Nat, Met l yX11_merges (Cond.code yX11_merges cX11_merges 3 none :: zT) rm_X11_merges (zPm dC dI cI cJ cS (cl_X11 cI cJ a u) [.ref (a 0)] sz) (va_Qv Q (zB dC dI cI cJ cS (va_A (cl_X11 cI cJ a u) sz) (fun z => cl_X11 cI cJ a z)) (va_A (cl_X11 cI cJ a u) sz)) 0 0 (va_A (cl_X11 cI cJ a u) sz) := by
  intro sz
  refine z_enterM (Qc := fun A => va_Qv Q (zB dC dI cI cJ cS A (fun z => cl_X11 cI cJ a z)) A) (cc := cX11_merges) (maxL := 3) (ret := none) (by decide) (Nat.le_of_ble_eq_true rfl) ?_
  intro p e s m below meth c ls A X hP hD hS hA hl
  obtain ⟨⟨hx, hb, hml, hown, hts⟩, hr, hlk, hK⟩ := id X
  have hl : lv_has ls 3 [(0, .ref (a 0))] := hl
  have LP : ∀ n : Nat, (∀ (y1 : Int32) (z : zModel) (H : Heap) (locs : List Loc) (ls : Array Slot), I2 n y1 z → va_P (dC, dI) vwCl (cl_X11 cI cJ a z) H → va_D A (cl_X11 cI cJ a z) → va_S A s.heap H locs → lv_has ls 3 [(0, .ref (a 0)), (1, .int y1)] → W p l e rm_X11_merges s m [.ref (a 0)].toArray below meth c H locs 0 0 (MQ below (va_Qv Q (zB dC dI cI cJ cS A (fun z => cl_X11 cI cJ a z)) A) [.ref (a 0)].toArray s 0 0 A) (F0 m 2 ls [])) ∧ (∀ (y1 : Int32) (y2 : Int32) (z : zModel) (H : Heap) (locs : List Loc) (ls : Array Slot), I10 n y1 y2 z → va_P (dC, dI) vwCl (cl_X11 cI cJ a z) H → va_D A (cl_X11 cI cJ a z) → va_S A s.heap H locs → lv_has ls 3 [(0, .ref (a 0)), (1, .int y1), (2, .int y2)] → W p l e rm_X11_merges s m [.ref (a 0)].toArray below meth c H locs 0 0 (MQ below (va_Qv Q (zB dC dI cI cJ cS A (fun z => cl_X11 cI cJ a z)) A) [.ref (a 0)].toArray s 0 0 A) (F0 m 10 ls [])) ∧ (∀ (y1 : Int32) (z : zModel) (H : Heap) (locs : List Loc) (ls : Array Slot), I127 n y1 z → va_P (dC, dI) vwCl (cl_X11 cI cJ a z) H → va_D A (cl_X11 cI cJ a z) → va_S A s.heap H locs → lv_has ls 3 [(0, .ref (a 0)), (1, .int y1)] → W p l e rm_X11_merges s m [.ref (a 0)].toArray below meth c H locs 0 0 (MQ below (va_Qv Q (zB dC dI cI cJ cS A (fun z => cl_X11 cI cJ a z)) A) [.ref (a 0)].toArray s 0 0 A) (F0 m 127 ls [])) := by
    intro n
    induction n using Nat.strongRecOn with
    | _ n ih =>
      refine ⟨?_, ?_, ?_⟩
      · intro y1 z H locs ls hI hP hD hS hl
        have hf := h2 n y1 z hI
        unfold t_X11_merges_2 at hf
        refine lv_iload_n hx hb dX11_merges_2 rfl (lv_at hl 1 rfl) ?_
        refine lv_bipush (v := 64) hx hb dX11_merges_3 (by decide) ?_
        refine lv_icmp_ge (tgt := 90) hx hb dX11_merges_5 (by decide) (fun c_2 => ?_) (fun c_2 => ?_)
        · have hf := hf.1 c_2
          refine lv_aload_n hx hb dX11_merges_90 rfl (lv_at hl 0 rfl) ?_
          refine va_get (D := (dC, dI)) (ci := 10) (v := .ref (a 1)) (C := RX11) (T := TX11) (N := 17) hx hb hts inX11 hown hK hP 0 rfl rfl 1 (by decide) (hts _ q_fl_X11_7) (fun _ h9 => h9) rfl dX11_merges_91 ?_
          refine lv_iconst (v := 4) hx hb dX11_merges_94 (by decide) ?_
          obtain ⟨hg, hf⟩ := hf
          refine va_iald hx hb hK hP 1 0 rfl rfl hg dX11_merges_95 ?_
          refine lv_iconst (v := 1) hx hb dX11_merges_96 (by decide) ?_
          refine lv_icmp_le (tgt := 125) hx hb dX11_merges_97 (by decide) (fun c_3 => ?_) (fun c_3 => ?_)
          · have hf := hf.1 c_3
            refine lv_iconst (v := 2) hx hb dX11_merges_125 (by decide) ?_
            refine lv_istore_n (lv' := [(1, .int (2 : Int32)), (0, .ref (a 0))]) hx hb dX11_merges_126 rfl hl (by decide) rfl (fun ls hl => ?_)
            obtain ⟨k_4, hk_4, hf⟩ := hf
            exact (ih k_4 hk_4).2.2 _ z _ _ ls hf hP hD hS (lv_sub hl [1, 0] rfl)
          · have hf := hf.2 c_3
            refine lv_aload_n hx hb dX11_merges_100 rfl (lv_at hl 0 rfl) ?_
            refine va_get (D := (dC, dI)) (ci := 10) (v := .ref (a 1)) (C := RX11) (T := TX11) (N := 17) hx hb hts inX11 hown hK hP 0 rfl rfl 1 (by decide) (hts _ q_fl_X11_7) (fun _ h9 => h9) rfl dX11_merges_101 ?_
            refine lv_bipush (v := 14) hx hb dX11_merges_104 (by decide) ?_
            refine lv_dup2_11 hx hb dX11_merges_106 rfl rfl ?_
            obtain ⟨hg, hf⟩ := hf
            refine va_iald hx hb hK hP 1 0 rfl rfl hg dX11_merges_107 ?_
            refine lv_aload_n hx hb dX11_merges_108 rfl (lv_at hl 0 rfl) ?_
            refine lv_iconst (v := 1) hx hb dX11_merges_109 (by decide) ?_
            refine z_cVi (As := [.int (1 : Int32)]) (rest := [.int (z.2.1 (14 : Int32).toNatClampNeg), .int (14 : Int32), .ref (a 1)]) X (c_X11_entries l dC dI cI cJ cS a z (1 : Int32) _ hf) zc_X11_entries q_ml_X11_108 ⟨rfl, rfl⟩ ⟨Nat.le_of_ble_eq_true rfl, Nat.le_of_ble_eq_true rfl⟩ hP [0, 1, 2, 3, 4, 5, 6, 7, 8] rfl 10 rfl rfl hl.1 rfl rfl (Nat.le_of_ble_eq_true rfl) ⟨Nat.zero_le _, Nat.zero_le _⟩ dX11_merges_110 (fun r_5 hf => ?_)
            refine lv_iadd hx hb dX11_merges_113 ?_
            obtain ⟨hg, hf⟩ := hf
            refine z_iast (Wn := fun f_6 => cl_X11 cI cJ a (z.1, f_6, z.2.2)) X hP hD hS 1 0 rfl rfl hg (fun _ => rfl) dX11_merges_114 (fun f_6 H locs ef_6 hP hD hS => ?_)
            have hf := hf f_6 ef_6
            refine lv_aload_n hx hb dX11_merges_115 rfl (lv_at hl 0 rfl) ?_
            refine lv_iconst (v := 1) hx hb dX11_merges_116 (by decide) ?_
            refine lv_aload_n hx hb dX11_merges_117 rfl (lv_at hl 0 rfl) ?_
            refine lv_iconst (v := 1) hx hb dX11_merges_118 (by decide) ?_
            refine z_cVi (As := [.int (1 : Int32)]) (rest := [.int (1 : Int32), .ref (a 0)]) X (c_X11_entries l dC dI cI cJ cS a (z.1, f_6, z.2.2) (1 : Int32) _ hf) zc_X11_entries q_ml_X11_108 ⟨rfl, rfl⟩ ⟨Nat.le_of_ble_eq_true rfl, Nat.le_of_ble_eq_true rfl⟩ hP [0, 1, 2, 3, 4, 5, 6, 7, 8] rfl 10 rfl rfl hl.1 rfl rfl (Nat.le_of_ble_eq_true rfl) ⟨Nat.zero_le _, Nat.zero_le _⟩ dX11_merges_119 (fun r_7 hf => ?_)
            refine z_mVv (Wn := (fun u_9 => cl_X11 cI cJ a u_9)) (As := [.int (1 : Int32), .int r_7]) (rest := []) (wr := []) X (c_X11_logs l dC dI cI cJ cS a (z.1, f_6, z.2.2) (1 : Int32) r_7 _ hf _) zc_X11_logs q_ml_X11_94 ⟨rfl, rfl⟩ ⟨Nat.le_of_ble_eq_true rfl, Nat.le_of_ble_eq_true rfl⟩ hP hD hS hA [0, 1, 2, 3, 4, 5, 6, 7, 8] [] rfl (by decide) rfl (by decide) (by decide) [0, 1, 2, 3, 4, 5, 6, 7, 8] (by decide) (fun _ => rfl) 10 rfl rfl hl.1 rfl rfl (Nat.le_of_ble_eq_true rfl) ⟨Nat.zero_le _, Nat.zero_le _⟩ dX11_merges_122 (fun u_9 H locs hf hP hD hS => ?_)
            refine lv_iconst (v := 2) hx hb dX11_merges_125 (by decide) ?_
            refine lv_istore_n (lv' := [(1, .int (2 : Int32)), (0, .ref (a 0))]) hx hb dX11_merges_126 rfl hl (by decide) rfl (fun ls hl => ?_)
            obtain ⟨k_10, hk_10, hf⟩ := hf
            exact (ih k_10 hk_10).2.2 _ u_9 _ _ ls hf hP hD hS (lv_sub hl [1, 0] rfl)
        · have hf := hf.2 c_2
          refine lv_iconst (v := 1) hx hb dX11_merges_8 (by decide) ?_
          refine lv_istore_n (lv' := [(2, .int (1 : Int32)), (0, .ref (a 0)), (1, .int y1)]) hx hb dX11_merges_9 rfl hl (by decide) rfl (fun ls hl => ?_)
          obtain ⟨k_11, hk_11, hf⟩ := hf
          exact (ih k_11 hk_11).2.1 _ _ z _ _ ls hf hP hD hS (lv_sub hl [1, 2, 0] rfl)
      · intro y1 y2 z H locs ls hI hP hD hS hl
        have hf := h10 n y1 y2 z hI
        unfold t_X11_merges_10 at hf
        refine lv_iload_n hx hb dX11_merges_10 rfl (lv_at hl 2 rfl) ?_
        refine lv_aload_n hx hb dX11_merges_11 rfl (lv_at hl 0 rfl) ?_
        refine va_get (D := (dC, dI)) (ci := 10) (v := .ref (a 1)) (C := RX11) (T := TX11) (N := 17) hx hb hts inX11 hown hK hP 0 rfl rfl 1 (by decide) (hts _ q_fl_X11_7) (fun _ h9 => h9) rfl dX11_merges_12 ?_
        refine lv_iconst (v := 4) hx hb dX11_merges_15 (by decide) ?_
        obtain ⟨hg, hf⟩ := hf
        refine va_iald hx hb hK hP 1 0 rfl rfl hg dX11_merges_16 ?_
        refine lv_icmp_gt (tgt := 35) hx hb dX11_merges_17 (by decide) (fun c_12 => ?_) (fun c_12 => ?_)
        · have hf := hf.1 c_12
          refine lv_iload_n hx hb dX11_merges_35 rfl (lv_at hl 2 rfl) ?_
          refine lv_aload_n hx hb dX11_merges_36 rfl (lv_at hl 0 rfl) ?_
          refine va_get (D := (dC, dI)) (ci := 10) (v := .ref (a 1)) (C := RX11) (T := TX11) (N := 17) hx hb hts inX11 hown hK hP 0 rfl rfl 1 (by decide) (hts _ q_fl_X11_7) (fun _ h9 => h9) rfl dX11_merges_37 ?_
          refine lv_iconst (v := 4) hx hb dX11_merges_40 (by decide) ?_
          obtain ⟨hg, hf⟩ := hf
          refine va_iald hx hb hK hP 1 0 rfl rfl hg dX11_merges_41 ?_
          refine lv_icmp_le (tgt := 48) hx hb dX11_merges_42 (by decide) (fun c_13 => ?_) (fun c_13 => ?_)
          · have hf := hf.1 c_13
            refine lv_aload_n hx hb dX11_merges_48 rfl (lv_at hl 0 rfl) ?_
            refine lv_iload_n hx hb dX11_merges_49 rfl (lv_at hl 2 rfl) ?_
            refine lv_iconst (v := 1) hx hb dX11_merges_50 (by decide) ?_
            refine lv_iload_n hx hb dX11_merges_51 rfl (lv_at hl 1 rfl) ?_
            refine z_mVv (Wn := (fun u_15 => cl_X11 cI cJ a u_15)) (As := [.int y2, .int (1 : Int32), .int y1]) (rest := []) (wr := []) X (c_X11_copies l dC dI cI cJ cS a z y2 (1 : Int32) y1 _ hf _) zc_X11_copies q_ml_X11_104 ⟨rfl, rfl⟩ ⟨Nat.le_of_ble_eq_true rfl, Nat.le_of_ble_eq_true rfl⟩ hP hD hS hA [0, 1, 2, 3, 4, 5, 6, 7, 8] [] rfl (by decide) rfl (by decide) (by decide) [0, 1, 2, 3, 4, 5, 6, 7, 8] (by decide) (fun _ => rfl) 10 rfl rfl hl.1 rfl rfl (Nat.le_of_ble_eq_true rfl) ⟨Nat.zero_le _, Nat.zero_le _⟩ dX11_merges_52 (fun u_15 H locs hf hP hD hS => ?_)
            refine lv_aload_n hx hb dX11_merges_55 rfl (lv_at hl 0 rfl) ?_
            refine va_get (D := (dC, dI)) (ci := 10) (v := .ref (a 1)) (C := RX11) (T := TX11) (N := 17) hx hb hts inX11 hown hK hP 0 rfl rfl 1 (by decide) (hts _ q_fl_X11_7) (fun _ h9 => h9) rfl dX11_merges_56 ?_
            refine lv_iconst (v := 1) hx hb dX11_merges_59 (by decide) ?_
            refine lv_iload_n hx hb dX11_merges_60 rfl (lv_at hl 1 rfl) ?_
            refine z_cSi (As := [.int (1 : Int32), .int y1]) (rest := [.ref (a 1)]) X (c_X11_entryAt l dC dI cI cJ cS   (1 : Int32) y1 _ hf) zc_X11_entryAt q_ml_X11_63 ⟨rfl, rfl⟩ ⟨Nat.le_of_ble_eq_true rfl, Nat.le_of_ble_eq_true rfl⟩ hP [] rfl hl.1 rfl rfl (Nat.le_of_ble_eq_true rfl) ⟨Nat.zero_le _, Nat.zero_le _⟩ dX11_merges_61 (fun r_16 hf => ?_)
            refine lv_iconst (v := 1) hx hb dX11_merges_64 (by decide) ?_
            refine lv_iadd hx hb dX11_merges_65 ?_
            obtain ⟨hg, hf⟩ := hf
            refine va_iald hx hb hK hP 1 0 rfl rfl hg dX11_merges_66 ?_
            refine lv_iconst (v := 1) hx hb dX11_merges_67 (by decide) ?_
            refine lv_icmp_ne (tgt := 84) hx hb dX11_merges_68 (by decide) (fun c_17 => ?_) (fun c_17 => ?_)
            · have hf := hf.1 c_17
              obtain ⟨x_18, ex_18⟩ : ∃ y : Int32, y = y1 + (1 : Int32) := ⟨_, rfl⟩
              have hf := hf x_18 ex_18
              refine lv_iinc (v := x_18) (lv' := [(1, .int x_18), (0, .ref (a 0)), (2, .int y2)]) hx hb dX11_merges_84 hl (k := 1) rfl (by rw [ex_18]; rfl) (by decide) rfl (fun ls hl => ?_)
              refine lv_goto (tgt := 2) hx hb dX11_merges_87 (by decide) ?_
              obtain ⟨k_19, hk_19, hf⟩ := hf
              exact (ih k_19 hk_19).1 _ u_15 _ _ ls hf hP hD hS (lv_sub hl [1, 0] rfl)
            · have hf := hf.2 c_17
              refine lv_aload_n hx hb dX11_merges_71 rfl (lv_at hl 0 rfl) ?_
              refine va_get (D := (dC, dI)) (ci := 10) (v := .ref (a 1)) (C := RX11) (T := TX11) (N := 17) hx hb hts inX11 hown hK hP 0 rfl rfl 1 (by decide) (hts _ q_fl_X11_7) (fun _ h9 => h9) rfl dX11_merges_72 ?_
              refine lv_iconst (v := 1) hx hb dX11_merges_75 (by decide) ?_
              refine lv_iload_n hx hb dX11_merges_76 rfl (lv_at hl 1 rfl) ?_
              refine z_cSi (As := [.int (1 : Int32), .int y1]) (rest := [.ref (a 1)]) X (c_X11_entryAt l dC dI cI cJ cS   (1 : Int32) y1 _ hf) zc_X11_entryAt q_ml_X11_63 ⟨rfl, rfl⟩ ⟨Nat.le_of_ble_eq_true rfl, Nat.le_of_ble_eq_true rfl⟩ hP [] rfl hl.1 rfl rfl (Nat.le_of_ble_eq_true rfl) ⟨Nat.zero_le _, Nat.zero_le _⟩ dX11_merges_77 (fun r_20 hf => ?_)
              refine lv_iconst (v := 1) hx hb dX11_merges_80 (by decide) ?_
              refine lv_iadd hx hb dX11_merges_81 ?_
              refine lv_iconst (v := 0) hx hb dX11_merges_82 (by decide) ?_
              obtain ⟨hg, hf⟩ := hf
              refine z_iast (Wn := fun f_21 => cl_X11 cI cJ a (u_15.1, f_21, u_15.2.2)) X hP hD hS 1 0 rfl rfl hg (fun _ => rfl) dX11_merges_83 (fun f_21 H locs ef_21 hP hD hS => ?_)
              have hf := hf f_21 ef_21
              obtain ⟨x_22, ex_22⟩ : ∃ y : Int32, y = y1 + (1 : Int32) := ⟨_, rfl⟩
              have hf := hf x_22 ex_22
              refine lv_iinc (v := x_22) (lv' := [(1, .int x_22), (0, .ref (a 0)), (2, .int y2)]) hx hb dX11_merges_84 hl (k := 1) rfl (by rw [ex_22]; rfl) (by decide) rfl (fun ls hl => ?_)
              refine lv_goto (tgt := 2) hx hb dX11_merges_87 (by decide) ?_
              obtain ⟨k_23, hk_23, hf⟩ := hf
              exact (ih k_23 hk_23).1 _ (u_15.1, f_21, u_15.2.2) _ _ ls hf hP hD hS (lv_sub hl [1, 0] rfl)
          · have hf := hf.2 c_13
            refine lv_goto (tgt := 84) hx hb dX11_merges_45 (by decide) ?_
            obtain ⟨x_24, ex_24⟩ : ∃ y : Int32, y = y1 + (1 : Int32) := ⟨_, rfl⟩
            have hf := hf x_24 ex_24
            refine lv_iinc (v := x_24) (lv' := [(1, .int x_24), (0, .ref (a 0)), (2, .int y2)]) hx hb dX11_merges_84 hl (k := 1) rfl (by rw [ex_24]; rfl) (by decide) rfl (fun ls hl => ?_)
            refine lv_goto (tgt := 2) hx hb dX11_merges_87 (by decide) ?_
            obtain ⟨k_25, hk_25, hf⟩ := hf
            exact (ih k_25 hk_25).1 _ z _ _ ls hf hP hD hS (lv_sub hl [1, 0] rfl)
        · have hf := hf.2 c_12
          refine lv_aload_n hx hb dX11_merges_20 rfl (lv_at hl 0 rfl) ?_
          refine lv_iload_n hx hb dX11_merges_21 rfl (lv_at hl 2 rfl) ?_
          refine lv_iload_n hx hb dX11_merges_22 rfl (lv_at hl 1 rfl) ?_
          refine z_cVi (As := [.int y2, .int y1]) (rest := []) X (c_X11_hasEntry l dC dI cI cJ cS a z y2 y1 _ hf) zc_X11_hasEntry q_ml_X11_66 ⟨rfl, rfl⟩ ⟨Nat.le_of_ble_eq_true rfl, Nat.le_of_ble_eq_true rfl⟩ hP [0, 1, 2, 3, 4, 5, 6, 7, 8] rfl 10 rfl rfl hl.1 rfl rfl (Nat.le_of_ble_eq_true rfl) ⟨Nat.zero_le _, Nat.zero_le _⟩ dX11_merges_23 (fun r_26 hf => ?_)
          obtain ⟨hbr_26, hf⟩ := hf
          refine lv_if_ne (tgt := 35) hx hb dX11_merges_26 (by decide) (fun c_27 => ?_) (fun c_27 => ?_)
          · have hf := hf.1 c_27
            refine lv_iload_n hx hb dX11_merges_35 rfl (lv_at hl 2 rfl) ?_
            refine lv_aload_n hx hb dX11_merges_36 rfl (lv_at hl 0 rfl) ?_
            refine va_get (D := (dC, dI)) (ci := 10) (v := .ref (a 1)) (C := RX11) (T := TX11) (N := 17) hx hb hts inX11 hown hK hP 0 rfl rfl 1 (by decide) (hts _ q_fl_X11_7) (fun _ h9 => h9) rfl dX11_merges_37 ?_
            refine lv_iconst (v := 4) hx hb dX11_merges_40 (by decide) ?_
            obtain ⟨hg, hf⟩ := hf
            refine va_iald hx hb hK hP 1 0 rfl rfl hg dX11_merges_41 ?_
            refine lv_icmp_le (tgt := 48) hx hb dX11_merges_42 (by decide) (fun c_28 => ?_) (fun c_28 => ?_)
            · have hf := hf.1 c_28
              refine lv_aload_n hx hb dX11_merges_48 rfl (lv_at hl 0 rfl) ?_
              refine lv_iload_n hx hb dX11_merges_49 rfl (lv_at hl 2 rfl) ?_
              refine lv_iconst (v := 1) hx hb dX11_merges_50 (by decide) ?_
              refine lv_iload_n hx hb dX11_merges_51 rfl (lv_at hl 1 rfl) ?_
              refine z_mVv (Wn := (fun u_30 => cl_X11 cI cJ a u_30)) (As := [.int y2, .int (1 : Int32), .int y1]) (rest := []) (wr := []) X (c_X11_copies l dC dI cI cJ cS a z y2 (1 : Int32) y1 _ hf _) zc_X11_copies q_ml_X11_104 ⟨rfl, rfl⟩ ⟨Nat.le_of_ble_eq_true rfl, Nat.le_of_ble_eq_true rfl⟩ hP hD hS hA [0, 1, 2, 3, 4, 5, 6, 7, 8] [] rfl (by decide) rfl (by decide) (by decide) [0, 1, 2, 3, 4, 5, 6, 7, 8] (by decide) (fun _ => rfl) 10 rfl rfl hl.1 rfl rfl (Nat.le_of_ble_eq_true rfl) ⟨Nat.zero_le _, Nat.zero_le _⟩ dX11_merges_52 (fun u_30 H locs hf hP hD hS => ?_)
              refine lv_aload_n hx hb dX11_merges_55 rfl (lv_at hl 0 rfl) ?_
              refine va_get (D := (dC, dI)) (ci := 10) (v := .ref (a 1)) (C := RX11) (T := TX11) (N := 17) hx hb hts inX11 hown hK hP 0 rfl rfl 1 (by decide) (hts _ q_fl_X11_7) (fun _ h9 => h9) rfl dX11_merges_56 ?_
              refine lv_iconst (v := 1) hx hb dX11_merges_59 (by decide) ?_
              refine lv_iload_n hx hb dX11_merges_60 rfl (lv_at hl 1 rfl) ?_
              refine z_cSi (As := [.int (1 : Int32), .int y1]) (rest := [.ref (a 1)]) X (c_X11_entryAt l dC dI cI cJ cS   (1 : Int32) y1 _ hf) zc_X11_entryAt q_ml_X11_63 ⟨rfl, rfl⟩ ⟨Nat.le_of_ble_eq_true rfl, Nat.le_of_ble_eq_true rfl⟩ hP [] rfl hl.1 rfl rfl (Nat.le_of_ble_eq_true rfl) ⟨Nat.zero_le _, Nat.zero_le _⟩ dX11_merges_61 (fun r_31 hf => ?_)
              refine lv_iconst (v := 1) hx hb dX11_merges_64 (by decide) ?_
              refine lv_iadd hx hb dX11_merges_65 ?_
              obtain ⟨hg, hf⟩ := hf
              refine va_iald hx hb hK hP 1 0 rfl rfl hg dX11_merges_66 ?_
              refine lv_iconst (v := 1) hx hb dX11_merges_67 (by decide) ?_
              refine lv_icmp_ne (tgt := 84) hx hb dX11_merges_68 (by decide) (fun c_32 => ?_) (fun c_32 => ?_)
              · have hf := hf.1 c_32
                obtain ⟨x_33, ex_33⟩ : ∃ y : Int32, y = y1 + (1 : Int32) := ⟨_, rfl⟩
                have hf := hf x_33 ex_33
                refine lv_iinc (v := x_33) (lv' := [(1, .int x_33), (0, .ref (a 0)), (2, .int y2)]) hx hb dX11_merges_84 hl (k := 1) rfl (by rw [ex_33]; rfl) (by decide) rfl (fun ls hl => ?_)
                refine lv_goto (tgt := 2) hx hb dX11_merges_87 (by decide) ?_
                obtain ⟨k_34, hk_34, hf⟩ := hf
                exact (ih k_34 hk_34).1 _ u_30 _ _ ls hf hP hD hS (lv_sub hl [1, 0] rfl)
              · have hf := hf.2 c_32
                refine lv_aload_n hx hb dX11_merges_71 rfl (lv_at hl 0 rfl) ?_
                refine va_get (D := (dC, dI)) (ci := 10) (v := .ref (a 1)) (C := RX11) (T := TX11) (N := 17) hx hb hts inX11 hown hK hP 0 rfl rfl 1 (by decide) (hts _ q_fl_X11_7) (fun _ h9 => h9) rfl dX11_merges_72 ?_
                refine lv_iconst (v := 1) hx hb dX11_merges_75 (by decide) ?_
                refine lv_iload_n hx hb dX11_merges_76 rfl (lv_at hl 1 rfl) ?_
                refine z_cSi (As := [.int (1 : Int32), .int y1]) (rest := [.ref (a 1)]) X (c_X11_entryAt l dC dI cI cJ cS   (1 : Int32) y1 _ hf) zc_X11_entryAt q_ml_X11_63 ⟨rfl, rfl⟩ ⟨Nat.le_of_ble_eq_true rfl, Nat.le_of_ble_eq_true rfl⟩ hP [] rfl hl.1 rfl rfl (Nat.le_of_ble_eq_true rfl) ⟨Nat.zero_le _, Nat.zero_le _⟩ dX11_merges_77 (fun r_35 hf => ?_)
                refine lv_iconst (v := 1) hx hb dX11_merges_80 (by decide) ?_
                refine lv_iadd hx hb dX11_merges_81 ?_
                refine lv_iconst (v := 0) hx hb dX11_merges_82 (by decide) ?_
                obtain ⟨hg, hf⟩ := hf
                refine z_iast (Wn := fun f_36 => cl_X11 cI cJ a (u_30.1, f_36, u_30.2.2)) X hP hD hS 1 0 rfl rfl hg (fun _ => rfl) dX11_merges_83 (fun f_36 H locs ef_36 hP hD hS => ?_)
                have hf := hf f_36 ef_36
                obtain ⟨x_37, ex_37⟩ : ∃ y : Int32, y = y1 + (1 : Int32) := ⟨_, rfl⟩
                have hf := hf x_37 ex_37
                refine lv_iinc (v := x_37) (lv' := [(1, .int x_37), (0, .ref (a 0)), (2, .int y2)]) hx hb dX11_merges_84 hl (k := 1) rfl (by rw [ex_37]; rfl) (by decide) rfl (fun ls hl => ?_)
                refine lv_goto (tgt := 2) hx hb dX11_merges_87 (by decide) ?_
                obtain ⟨k_38, hk_38, hf⟩ := hf
                exact (ih k_38 hk_38).1 _ (u_30.1, f_36, u_30.2.2) _ _ ls hf hP hD hS (lv_sub hl [1, 0] rfl)
            · have hf := hf.2 c_28
              refine lv_goto (tgt := 84) hx hb dX11_merges_45 (by decide) ?_
              obtain ⟨x_39, ex_39⟩ : ∃ y : Int32, y = y1 + (1 : Int32) := ⟨_, rfl⟩
              have hf := hf x_39 ex_39
              refine lv_iinc (v := x_39) (lv' := [(1, .int x_39), (0, .ref (a 0)), (2, .int y2)]) hx hb dX11_merges_84 hl (k := 1) rfl (by rw [ex_39]; rfl) (by decide) rfl (fun ls hl => ?_)
              refine lv_goto (tgt := 2) hx hb dX11_merges_87 (by decide) ?_
              obtain ⟨k_40, hk_40, hf⟩ := hf
              exact (ih k_40 hk_40).1 _ z _ _ ls hf hP hD hS (lv_sub hl [1, 0] rfl)
          · have hf := hf.2 c_27
            obtain ⟨x_41, ex_41⟩ : ∃ y : Int32, y = y2 + (1 : Int32) := ⟨_, rfl⟩
            have hf := hf x_41 ex_41
            refine lv_iinc (v := x_41) (lv' := [(2, .int x_41), (0, .ref (a 0)), (1, .int y1)]) hx hb dX11_merges_29 hl (k := 2) rfl (by rw [ex_41]; rfl) (by decide) rfl (fun ls hl => ?_)
            refine lv_goto (tgt := 10) hx hb dX11_merges_32 (by decide) ?_
            obtain ⟨k_42, hk_42, hf⟩ := hf
            exact (ih k_42 hk_42).2.1 _ _ z _ _ ls hf hP hD hS (lv_sub hl [1, 2, 0] rfl)
      · intro y1 z H locs ls hI hP hD hS hl
        have hf := h127 n y1 z hI
        unfold t_X11_merges_127 at hf
        refine lv_iload_n hx hb dX11_merges_127 rfl (lv_at hl 1 rfl) ?_
        refine lv_aload_n hx hb dX11_merges_128 rfl (lv_at hl 0 rfl) ?_
        refine va_get (D := (dC, dI)) (ci := 10) (v := .ref (a 1)) (C := RX11) (T := TX11) (N := 17) hx hb hts inX11 hown hK hP 0 rfl rfl 1 (by decide) (hts _ q_fl_X11_7) (fun _ h9 => h9) rfl dX11_merges_129 ?_
        refine lv_iconst (v := 4) hx hb dX11_merges_132 (by decide) ?_
        obtain ⟨hg, hf⟩ := hf
        refine va_iald hx hb hK hP 1 0 rfl rfl hg dX11_merges_133 ?_
        refine lv_icmp_gt (tgt := 148) hx hb dX11_merges_134 (by decide) (fun c_43 => ?_) (fun c_43 => ?_)
        · have hf := hf.1 c_43
          refine lv_aload_n hx hb dX11_merges_148 rfl (lv_at hl 0 rfl) ?_
          refine va_get (D := (dC, dI)) (ci := 10) (v := .ref (a 1)) (C := RX11) (T := TX11) (N := 17) hx hb hts inX11 hown hK hP 0 rfl rfl 1 (by decide) (hts _ q_fl_X11_7) (fun _ h9 => h9) rfl dX11_merges_149 ?_
          refine lv_iconst (v := 4) hx hb dX11_merges_152 (by decide) ?_
          refine lv_aload_n hx hb dX11_merges_153 rfl (lv_at hl 0 rfl) ?_
          refine va_get (D := (dC, dI)) (ci := 10) (v := .ref (a 1)) (C := RX11) (T := TX11) (N := 17) hx hb hts inX11 hown hK hP 0 rfl rfl 1 (by decide) (hts _ q_fl_X11_7) (fun _ h9 => h9) rfl dX11_merges_154 ?_
          refine lv_iconst (v := 4) hx hb dX11_merges_157 (by decide) ?_
          obtain ⟨hg, hf⟩ := hf
          refine va_iald hx hb hK hP 1 0 rfl rfl hg dX11_merges_158 ?_
          refine lv_if_le (tgt := 174) hx hb dX11_merges_159 (by decide) (fun c_44 => ?_) (fun c_44 => ?_)
          · have hf := hf.1 c_44
            refine lv_iconst (v := 0) hx hb dX11_merges_174 (by decide) ?_
            obtain ⟨hg, hf⟩ := hf
            refine z_iast (Wn := fun f_45 => cl_X11 cI cJ a (z.1, f_45, z.2.2)) X hP hD hS 1 0 rfl rfl hg (fun _ => rfl) dX11_merges_175 (fun f_45 H locs ef_45 hP hD hS => ?_)
            have hf := hf f_45 ef_45
            exact z_retMv (Wf := (fun z => cl_X11 cI cJ a z)) (u := (z.1, f_45, z.2.2)) X hf hP hD hS dX11_merges_176
          · have hf := hf.2 c_44
            refine lv_aload_n hx hb dX11_merges_162 rfl (lv_at hl 0 rfl) ?_
            refine lv_iconst (v := 1) hx hb dX11_merges_163 (by decide) ?_
            refine z_cVi (As := [.int (1 : Int32)]) (rest := [.int (4 : Int32), .ref (a 1)]) X (c_X11_entries l dC dI cI cJ cS a z (1 : Int32) _ hf) zc_X11_entries q_ml_X11_108 ⟨rfl, rfl⟩ ⟨Nat.le_of_ble_eq_true rfl, Nat.le_of_ble_eq_true rfl⟩ hP [0, 1, 2, 3, 4, 5, 6, 7, 8] rfl 10 rfl rfl hl.1 rfl rfl (Nat.le_of_ble_eq_true rfl) ⟨Nat.zero_le _, Nat.zero_le _⟩ dX11_merges_164 (fun r_46 hf => ?_)
            refine lv_if_le (tgt := 174) hx hb dX11_merges_167 (by decide) (fun c_47 => ?_) (fun c_47 => ?_)
            · have hf := hf.1 c_47
              refine lv_iconst (v := 0) hx hb dX11_merges_174 (by decide) ?_
              obtain ⟨hg, hf⟩ := hf
              refine z_iast (Wn := fun f_48 => cl_X11 cI cJ a (z.1, f_48, z.2.2)) X hP hD hS 1 0 rfl rfl hg (fun _ => rfl) dX11_merges_175 (fun f_48 H locs ef_48 hP hD hS => ?_)
              have hf := hf f_48 ef_48
              exact z_retMv (Wf := (fun z => cl_X11 cI cJ a z)) (u := (z.1, f_48, z.2.2)) X hf hP hD hS dX11_merges_176
            · have hf := hf.2 c_47
              refine lv_iconst (v := 1) hx hb dX11_merges_170 (by decide) ?_
              refine lv_goto (tgt := 175) hx hb dX11_merges_171 (by decide) ?_
              obtain ⟨hg, hf⟩ := hf
              refine z_iast (Wn := fun f_49 => cl_X11 cI cJ a (z.1, f_49, z.2.2)) X hP hD hS 1 0 rfl rfl hg (fun _ => rfl) dX11_merges_175 (fun f_49 H locs ef_49 hP hD hS => ?_)
              have hf := hf f_49 ef_49
              exact z_retMv (Wf := (fun z => cl_X11 cI cJ a z)) (u := (z.1, f_49, z.2.2)) X hf hP hD hS dX11_merges_176
        · have hf := hf.2 c_43
          refine lv_aload_n hx hb dX11_merges_137 rfl (lv_at hl 0 rfl) ?_
          refine lv_iload_n hx hb dX11_merges_138 rfl (lv_at hl 1 rfl) ?_
          refine z_mVv (Wn := (fun u_51 => cl_X11 cI cJ a u_51)) (As := [.int y1]) (rest := []) (wr := []) X (c_X11_empties l dC dI cI cJ cS a z y1 _ hf _) zc_X11_empties q_ml_X11_111 ⟨rfl, rfl⟩ ⟨Nat.le_of_ble_eq_true rfl, Nat.le_of_ble_eq_true rfl⟩ hP hD hS hA [0, 1, 2, 3, 4, 5, 6, 7, 8] [] rfl (by decide) rfl (by decide) (by decide) [0, 1, 2, 3, 4, 5, 6, 7, 8] (by decide) (fun _ => rfl) 10 rfl rfl hl.1 rfl rfl (Nat.le_of_ble_eq_true rfl) ⟨Nat.zero_le _, Nat.zero_le _⟩ dX11_merges_139 (fun u_51 H locs hf hP hD hS => ?_)
          obtain ⟨x_52, ex_52⟩ : ∃ y : Int32, y = y1 + (1 : Int32) := ⟨_, rfl⟩
          have hf := hf x_52 ex_52
          refine lv_iinc (v := x_52) (lv' := [(1, .int x_52), (0, .ref (a 0))]) hx hb dX11_merges_142 hl (k := 1) rfl (by rw [ex_52]; rfl) (by decide) rfl (fun ls hl => ?_)
          refine lv_goto (tgt := 127) hx hb dX11_merges_145 (by decide) ?_
          obtain ⟨k_53, hk_53, hf⟩ := hf
          exact (ih k_53 hk_53).2.2 _ u_51 _ _ ls hf hP hD hS (lv_sub hl [1, 0] rfl)
  unfold t_X11_merges_e at hf
  refine lv_iconst (v := 0) hx hb dX11_merges_0 (by decide) ?_
  refine lv_istore_n (lv' := [(1, .int (0 : Int32)), (0, .ref (a 0))]) hx hb dX11_merges_1 rfl hl (by decide) rfl (fun ls hl => ?_)
  obtain ⟨k_1, hf⟩ := hf
  exact (LP k_1).1 _ u _ _ ls hf hP hD hS (lv_sub hl [1, 0] rfl)
/-- MERGE on its way: the runs are one, those behind it not yet emptied -/
def mgP (v : zState) (m' : Nat → Int32) : Prop :=
  (∀ i, i < 16 → ¬ i = 4 → m' i = topF (uMerge v) i) ∧ m' 4 = nI (rN v) ∧ mSg v.2.2.1 m' ∧ mRc v.2.2.1 m' ∧ mNo v.2.2.2.2.1 v.2.2.1 m' ∧ mLg (uMerge v).2.2.2.2.2.1 m' ∧
  (∀ k, k < 64 → mE1 v.1.2.1 (v.2.2.2.1.1 k) m' (3102 + 6 * (64 * 0 + k))) ∧ (1 ≤ rN v → ∀ k, k < 64 → mE1 v.1.2.1 (zKp (runCur v.2.2.2.1.1 (rN v) k)) m' (3102 + 6 * (64 * 1 + k)))
theorem uMerge_lg (v : zState) : (uMerge v).2.2.2.2.2.1 = if rN v ≤ 1 then v.2.2.2.2.2.1 else zTell v.2.2.2.2.2.1 (dN v.2.2.2.2.2.1) 1 (nI (zFoldN v.2.2.2.1 (rN v))) v.2.2.2.2.2.2.1 := by
  unfold uMerge
  split <;> rfl
theorem mg_dia {v : zState} (h : DiaOk v.2.2.2.2.2.1) : DiaOk (uMerge v).2.2.2.2.2.1 := by
  rw [uMerge_lg]
  split
  · exact h
  · exact h.tell _ _ _
/-- how many entries the merged run has -/
theorem mg_cnt {v : zState} {m' : Nat → Int32} (hr : ¬ rN v = 0) (h : ∀ k, k < 64 → mE1 v.1.2.1 (zKp (runCur v.2.2.2.1.1 (rN v) k)) m' (3102 + 6 * (64 * 1 + k))) : fa_cnt (fun k => decide (¬ m' (3102 + 6 * (64 * 1 + k) + 1) ≤ 0)) 64 = zFoldN v.2.2.2.1 (rN v) := by
  unfold zFoldN
  rw [if_neg hr, ← fold_cnt v.2.2.2.1 hr]
  apply fa_cnt_cong
  intro k hk
  show decide (¬ m' (3102 + 6 * (64 * 1 + k) + 1) ≤ 0) = decide (¬ (zFold v.2.2.2.1 (rN v)).1 (64 * 1 + k) = 0)
  rw [(h k hk).1, show 64 * 1 + k = 64 + k by omega, fold_1 v.2.2.2.1 hr hk]
  exact decide_eq_decide.mpr (not_congr (uKind_pos _))
theorem mgP.fin {v : zState} {m' : Nat → Int32} (ho : zOk v) (hD : DiaOk v.2.2.2.2.2.1) (hC : wN v.2.2.2.2.1 ≤ 50) (h : mgP v m') {x : Int32} (hx : x = nI (foldR v.2.2.2.1 (rN v))) : mRel (uMerge v) (upd m' 4 x) := by
  obtain ⟨h1, h2, h3, h4, h5, h6, h7, h8⟩ := h
  obtain ⟨s1, s2, s3, s4, s5, s6, s7⟩ := uMerge_same v
  refine mRel_iff.mpr ⟨fun i hi => ?_, ?_, ?_, ?_, ?_, ?_⟩
  · by_cases q : i = 4
    · subst q
      rw [up_eq rfl, hx]
      show _ = (uMerge v).2.2.2.1.2.2
      rw [s5]; exact (fold_r _ _).symm
    · rw [up_ne q]; exact h1 i hi q
  · rw [s2]; exact h3.cg (fun j a b => up_ne (by omega))
  · rw [s2]; exact h4.cg (fun s hs => (ho.2.2 s hs).2) (fun j a b => up_ne (by omega))
  · rw [s1, s5]
    intro l k hl hk
    rw [fold_R] at hl
    have hle := foldR_le v.2.2.2.1 (rN v)
    by_cases hl0 : l = 0
    · subst hl0
      have := (h7 k hk).cg (m' := upd m' 4 x) (e' := 3102 + 6 * (64 * 0 + k)) (fun w hw => up_ne (by omega))
      rw [show 64 * 0 + k = k by omega] at this ⊢
      rw [fold_lo _ _ hk]; exact this
    · obtain ⟨q1, q2⟩ := foldR_pos (t := v.2.2.2.1) (r := rN v) (by omega)
      have hl1 : l = 1 := by omega
      subst hl1
      have := (h8 (by omega) k hk).cg (m' := upd m' 4 x) (e' := 3102 + 6 * (64 * 1 + k)) (fun w hw => up_ne (by omega))
      rw [show 64 * 1 + k = 64 + k by omega] at this ⊢
      rw [fold_1 _ q2 hk]; exact this
  · rw [s3, s2]; exact h5.cg hC (fun j a b => up_ne (by omega))
  · exact h6.cg (mg_dia hD).2 (fun j a b => up_ne (by omega))
def s_X11_merges (u : zModel) (Q : zModel → Prop) : Prop := ∃ v : zState, zOk v ∧ DiaOk v.2.2.2.2.2.1 ∧ wN v.2.2.2.2.1 ≤ 50 ∧ mRel v u.2.1 ∧ ∀ m' : Nat → Int32, mRel (uMerge v) m' → Q (u.1, m', u.2.2)
theorem runCur_0 (f : Nat → Int64) (k : Nat) : runCur f 0 k = 0 := rfl
theorem runCur_keep {f : Nat → Int64} {k a : Nat} (h : ¬ runCur f a k = 0) : ∀ d, runCur f (a + d) k = runCur f a k
  | 0 => rfl
  | d + 1 => by rw [show a + (d + 1) = (a + d) + 1 by omega, runCur_s, runCur_keep h d, if_neg h]
theorem st_X11_merges {u : zModel} {Q : zModel → Prop} (h : s_X11_merges u Q) : v_X11_merges u Q := by
  obtain ⟨v, ho, hD, hC, hr, hQ⟩ := h
  obtain ⟨rT, rS, rR, rE, rN', rL⟩ := mRel_iff.mp hr
  obtain ⟨r, er⟩ : ∃ r, r = rN v := ⟨_, rfl⟩
  have hr6 : r < 6 := by rw [er]; exact ho.2.1.2
  have m4 : u.2.1 4 = nI r := by rw [er]; exact (rT 4 (by decide)).trans ho.r
  have h50 : ∀ s, s < 12 → gN v.2.2.1 s ≤ 50 := fun s hs => (ho.2.2 s hs).2
  obtain ⟨b, eb⟩ : ∃ b, b = v.1.2.1 := ⟨_, rfl⟩
  obtain ⟨f, ef⟩ : ∃ f, f = v.2.2.2.1.1 := ⟨_, rfl⟩
  have rE : ∀ l k, l ≤ r → k < 64 → mE1 b (f (64 * l + k)) u.2.1 (3102 + 6 * (64 * l + k)) := fun l k hl hk => by rw [eb, ef]; exact rE l k (by rw [er] at hl; exact hl) hk
  refine ⟨fun n y1 z => ∃ (i : Nat) (m' : Nat → Int32), i ≤ 64 ∧ n = 20000 - 10 * i ∧ y1 = nI i ∧ z = (u.1, m', u.2.2) ∧ (∀ j, ¬ (3486 ≤ j ∧ j < 3486 + 6 * i) → m' j = u.2.1 j) ∧ (1 ≤ r → ∀ k, k < i → mE1 b (zKp (runCur f r k)) m' (3102 + 6 * (64 * 1 + k))),
    fun n y1 y2 z => ∃ (i t : Nat) (m' : Nat → Int32), i < 64 ∧ 1 ≤ t ∧ t ≤ r + 1 ∧ n = 20000 - 10 * i - t ∧ y1 = nI i ∧ y2 = nI t ∧ z = (u.1, m', u.2.2) ∧ (∀ j, ¬ (3486 ≤ j ∧ j < 3486 + 6 * i) → m' j = u.2.1 j) ∧ (1 ≤ r → ∀ k, k < i → mE1 b (zKp (runCur f r k)) m' (3102 + 6 * (64 * 1 + k))) ∧ runCur f (t - 1) i = 0,
    fun n y1 z => ∃ (l : Nat) (m' : Nat → Int32), 2 ≤ l ∧ l ≤ 6 ∧ n = 100 - l ∧ y1 = nI l ∧ z = (u.1, m', u.2.2) ∧ mgP v m', ?_, ?_, ?_, ?_⟩
  · rintro n y1 z ⟨i, m', hi, rfl, rfl, rfl, ha, hb⟩
    refine ⟨fun c => ?_, fun c => ?_⟩
    · have h64 : i = 64 := by
        have := (nI_leI (a := 64) (b := i) (by decide) (by omega)).mp c
        omega
      subst h64
      have e4 : m' 4 = nI r := by rw [ha 4 (by omega), m4]
      obtain ⟨s1, s2, s3, s4, s5, s6, s7⟩ := uMerge_same v
      have base : ∀ m2 : Nat → Int32, (∀ j, j < 5406 → ¬ j = 14 → m2 j = m' j) → m2 14 = topF (uMerge v) 14 → mLg (uMerge v).2.2.2.2.2.1 m2 → mgP v m2 := by
        intro m2 hm2 h14 hlg
        refine ⟨lt16 ?_ ?_ ?_ ?_ ?_ ?_ ?_ ?_ ?_ ?_ ?_ ?_ ?_ ?_ ?_ ?_, by rw [← er, hm2 4 (by omega) (by omega), e4], rS.cg (fun j a b => by rw [hm2 j (by omega) (by omega), ha j (by omega)]), rR.cg h50 (fun j a b => by rw [hm2 j (by omega) (by omega), ha j (by omega)]), rN'.cg hC (fun j a b => by rw [hm2 j (by omega) (by omega), ha j (by omega)]), hlg, fun k hk => ?_, fun h1 k hk => ?_⟩
        all_goals try exact fun q => absurd rfl q
        all_goals try exact fun _ => h14
        · exact fun _ => by rw [hm2 0 (by omega) (by omega), ha 0 (by omega), rT 0 (by decide)]; exact congrArg (fun x => x.1) s1.symm
        · exact fun _ => by rw [hm2 1 (by omega) (by omega), ha 1 (by omega), rT 1 (by decide)]; exact congrArg (fun x => x.2.1) s1.symm
        · exact fun _ => by rw [hm2 2 (by omega) (by omega), ha 2 (by omega), rT 2 (by decide)]; exact congrArg (fun x => x.2.2.1) s1.symm
        · exact fun _ => by rw [hm2 3 (by omega) (by omega), ha 3 (by omega), rT 3 (by decide)]; exact congrArg (fun x => x.2.2.2) s1.symm
        · exact fun _ => by rw [hm2 5 (by omega) (by omega), ha 5 (by omega), rT 5 (by decide)]; exact congrArg (fun x => x.1) s4.symm
        · exact fun _ => by rw [hm2 6 (by omega) (by omega), ha 6 (by omega), rT 6 (by decide)]; exact congrArg (fun x => x.2.1) s4.symm
        · exact fun _ => by rw [hm2 7 (by omega) (by omega), ha 7 (by omega), rT 7 (by decide)]; exact congrArg (fun x => x.2.2) s4.symm
        · exact fun _ => by rw [hm2 8 (by omega) (by omega), ha 8 (by omega), rT 8 (by decide)]; exact congrArg (fun x => x.2.1) s3.symm
        · exact fun _ => by rw [hm2 9 (by omega) (by omega), ha 9 (by omega), rT 9 (by decide)]; exact congrArg (fun x => x.2.2.1) s3.symm
        · exact fun _ => by rw [hm2 10 (by omega) (by omega), ha 10 (by omega), rT 10 (by decide)]; exact congrArg (fun x => x.2.2.2) s3.symm
        · exact fun _ => by rw [hm2 11 (by omega) (by omega), ha 11 (by omega), rT 11 (by decide)]; unfold uMerge; split <;> rfl
        · exact fun _ => by rw [hm2 12 (by omega) (by omega), ha 12 (by omega), rT 12 (by decide)]; unfold uMerge; split <;> rfl
        · exact fun _ => by rw [hm2 13 (by omega) (by omega), ha 13 (by omega), rT 13 (by decide)]; exact s6.symm
        · exact fun _ => by rw [hm2 15 (by omega) (by omega), ha 15 (by omega), rT 15 (by decide)]; exact s7.symm
        · have := rE 0 k (by omega) hk
          rw [show f (64 * 0 + k) = v.2.2.2.1.1 k by rw [ef, show 64 * 0 + k = k by omega], eb] at this
          exact this.cg (fun w hw => by rw [hm2 _ (by omega) (by omega), ha _ (by omega)])
        · have := hb (by omega) k hk
          rw [eb, ef, er] at this
          exact this.cg (fun w hw => by rw [hm2 _ (by omega) (by omega)])
      dsimp only
      rw [n_c4, n_c14, e4]
      refine ⟨vp_in_nI (n := 4) (by decide) (by decide), fun c2 => ?_, fun c2 => ⟨vp_in_nI (n := 14) (by decide) (by decide), 1, by decide, rfl, ?_⟩⟩
      · have hle : rN v ≤ 1 := by rw [← er]; exact (nI_leI (a := r) (b := 1) (by omega) (by decide)).mp c2
        refine ⟨100 - 2, by omega, 2, m', by omega, by omega, rfl, rfl, rfl, base m' (fun _ _ _ => rfl) ?_ ?_⟩
        · rw [ha 14 (by omega), rT 14 (by decide)]
          unfold uMerge
          rw [if_pos hle]; rfl
        · rw [uMerge_lg, if_pos hle]
          exact rL.cg hD.2 (fun j a b => ha j (by omega))
      · have hgt : ¬ rN v ≤ 1 := by rw [← er]; exact fun q => c2 (nI_le (b := 1) q (by decide))
        have hcnt := mg_cnt (v := v) (m' := m') (by omega) (fun k hk => by have := hb (by omega) k hk; rw [eb, ef, er] at this; exact this)
        show vp_in (14 : Int32) 5497 ∧ ∀ f_6 : Nat → Int32, f_6 = upd m' 14 (m' 14 + nI (fa_cnt (fun k => decide (¬ m' (3102 + 6 * (64 * 1 + k) + 1) ≤ 0)) 64)) → s_X11_entries (u.1, f_6, u.2.2) (1 : Int32) (fun r_7 : Int32 => s_X11_logs (u.1, f_6, u.2.2) (1 : Int32) r_7 _)
        rw [hcnt]
        refine ⟨vp_in_nI (n := 14) (by decide) (by decide), fun f6 e6 => ⟨1, by decide, rfl, ?_⟩⟩
        have hcnt6 : fa_cnt (fun k => decide (¬ f6 (3102 + 6 * (64 * 1 + k) + 1) ≤ 0)) 64 = zFoldN v.2.2.2.1 (rN v) := by
          rw [← hcnt]
          exact fa_cnt_cong (fun k hk => by rw [e6, up_ne (by omega)])
        show s_X11_logs (u.1, f6, u.2.2) (1 : Int32) (nI (fa_cnt (fun k => decide (¬ f6 (3102 + 6 * (64 * 1 + k) + 1) ≤ 0)) 64)) _
        rw [hcnt6]
        refine ⟨v.2.2.2.2.2.1, hD, rL.cg hD.2 (fun j a b => by show f6 j = _; rw [e6, up_ne (by omega)]; exact ha j (by omega)), fun m2 hlg hm2 => ?_⟩
        have hm2 : ∀ j, j < 5406 → m2 j = f6 j := hm2
        have hlg : mLg (zTell v.2.2.2.2.2.1 (dN v.2.2.2.2.2.1) 1 (nI (zFoldN v.2.2.2.1 (rN v))) (f6 5)) m2 := hlg
        have e5 : f6 5 = v.2.2.2.2.2.2.1 := by rw [e6, up_ne (by omega), ha 5 (by omega)]; exact rT 5 (by decide)
        rw [e5] at hlg
        refine ⟨100 - 2, by omega, 2, m2, by omega, by omega, rfl, rfl, rfl, base m2 (fun j a b => by rw [hm2 j a, e6, up_ne b]) ?_ ?_⟩
        · rw [hm2 14 (by omega), e6, up_eq rfl, ha 14 (by omega), rT 14 (by decide)]
          unfold uMerge
          rw [if_neg hgt]; rfl
        · rw [uMerge_lg, if_neg hgt]; exact hlg
    · have hi : i < 64 := by
        have : ¬ 64 ≤ i := fun q => c (nI_le q (by omega))
        omega
      exact ⟨20000 - 10 * i - 1, by omega, i, 1, m', hi, by omega, by omega, rfl, rfl, rfl, rfl, ha, hb, rfl⟩
  · rintro n y1 y2 z ⟨i, t, m', hi, ht1, ht2, rfl, rfl, rfl, rfl, ha, hb, h0⟩
    have e4 : m' 4 = nI r := by rw [ha 4 (by omega), m4]
    unfold t_X11_merges_10
    dsimp only
    rw [n_c4, e4]
    refine ⟨vp_in_nI (n := 4) (by decide) (by decide), fun c => ⟨vp_in_nI (n := 4) (by decide) (by decide), fun c2 => ?_, fun c2 x ex => ?_⟩, fun c => ⟨t, i, ?_, hi, rfl, rfl, fun d => ⟨fun q => absurd rfl q, fun _ x ex => ?_⟩, fun d => ⟨fun _ => ⟨vp_in_nI (n := 4) (by decide) (by decide), fun c2 => ?_, fun c2 => ?_⟩, fun q => absurd q (by decide)⟩⟩⟩
    · exact absurd c (nI_nlt ((nI_leI (a := t) (b := r) (by omega) (by omega)).mp c2) (by omega))
    · have htr : t = r + 1 := by
        have := (nI_ltI (a := r) (b := t) (by omega) (by omega)).mp c
        omega
      refine ⟨20000 - 10 * (i + 1), by omega, i + 1, m', by omega, rfl, by rw [ex, nI_1], rfl, fun j hj => ha j (by omega), fun h1 k hk => ?_⟩
      by_cases hki : k = i
      · subst hki
        rw [htr, show r + 1 - 1 = r by omega] at h0
        rw [h0]
        have e1 := (rE 1 k h1 hi).1
        have hz : f (64 * 1 + k) = 0 := by
          have h1c : runCur f 1 k = f (64 * 1 + k) := by rw [runCur_s, runCur_0, if_pos rfl]
          by_cases q : f (64 * 1 + k) = 0
          · exact q
          · have := runCur_keep (f := f) (k := k) (a := 1) (by rw [h1c]; exact q) (r - 1)
            rw [show 1 + (r - 1) = r by omega, h1c] at this
            rw [this] at h0
            exact absurd h0 q
        rw [hz] at e1
        refine ⟨?_, fun q => absurd (by decide) q⟩
        rw [ha _ (by omega), e1]; rfl
      · exact hb h1 k (by omega)
    · have : ¬ r < t := fun q => c (nI_lt q (by omega))
      omega
    · have hlt : ¬ r < t := fun q => c (nI_lt q (by omega))
      refine ⟨20000 - 10 * i - (t + 1), by omega, i, t + 1, m', hi, by omega, by omega, rfl, rfl, by rw [ex, nI_1], rfl, ha, hb, ?_⟩
      have e1 := (rE t i (by omega) hi).1
      have d : m' (3102 + 6 * (64 * t + i) + 1) ≤ 0 := d
      rw [ha _ (by omega), e1] at d
      have hz := (uKind_pos _).mp d
      obtain ⟨q, rfl⟩ : ∃ q, t = q + 1 := ⟨t - 1, by omega⟩
      rw [show q + 1 - 1 = q by omega] at h0
      rw [show q + 1 + 1 - 1 = q + 1 by omega, runCur_s, h0, if_pos rfl]
      exact hz
    · have hlt : ¬ r < t := fun q => c (nI_lt q (by omega))
      have d : ¬ m' (3102 + 6 * (64 * t + i) + 1) ≤ 0 := d
      have e1 := rE t i (by omega) hi
      have e2 : mE1 b (f (64 * t + i)) m' (3102 + 6 * (64 * t + i)) := e1.cg (fun w hw => ha _ (by omega))
      have hnz : ¬ f (64 * t + i) = 0 := fun q => d ((by rw [e2.1]; exact (uKind_pos _).mpr q))
      have hrc : runCur f r i = f (64 * t + i) := by
        obtain ⟨q, rfl⟩ : ∃ q, t = q + 1 := ⟨t - 1, by omega⟩
        rw [show q + 1 - 1 = q by omega] at h0
        have h1 : runCur f (q + 1) i = f (64 * (q + 1) + i) := by rw [runCur_s, h0, if_pos rfl]
        have := runCur_keep (f := f) (k := i) (a := q + 1) (by rw [h1]; exact hnz) (r - (q + 1))
        rw [show q + 1 + (r - (q + 1)) = r by omega] at this
        rw [this, h1]
      refine ⟨t, 1, i, by omega, by decide, hi, rfl, rfl, rfl, ?_⟩
      unfold s_X11_entryAt
      rw [show (1 : Int32) = nI 1 from rfl, ix_ent]
      dsimp only
      rw [nI_add, nI_clamp (by omega)]
      have cp : ∀ w, w < 6 → mCp m' t 1 i 6 (3102 + 6 * (64 * 1 + i) + w) = m' (3102 + 6 * (64 * t + i) + w) := fun w hw => by
        unfold mCp
        rw [if_pos (by omega), show 3102 + 6 * (64 * 1 + i) + w - (3102 + 6 * (64 * 1 + i)) = w by omega]
      have co : ∀ j, ¬ (3102 + 6 * (64 * 1 + i) ≤ j ∧ j < 3102 + 6 * (64 * 1 + i) + 6) → mCp m' t 1 i 6 j = m' j := fun j hj => if_neg hj
      have e3 : mE1 b (f (64 * t + i)) (mCp m' t 1 i 6) (3102 + 6 * (64 * 1 + i)) := e2.cg cp
      refine ⟨vp_in_nI (by omega) (by decide), fun d2 x ex => ?_, fun d2 => ⟨vp_in_nI (by omega) (by decide), fun f36 e36 x ex => ?_⟩⟩
      · refine ⟨20000 - 10 * (i + 1), by omega, i + 1, mCp m' t 1 i 6, by omega, rfl, by rw [ex, nI_add], rfl, fun j hj => by rw [co j (by omega)]; exact ha j (by omega), fun h1 k hk => ?_⟩
        by_cases hki : k = i
        · subst hki
          have : zKp (f (64 * t + k)) = f (64 * t + k) := if_neg (fun q => d2 (by rw [e3.1]; unfold uKind; rw [if_neg hnz, if_pos q]; rfl))
          rw [hrc, this]; exact e3
        · exact (hb h1 k (by omega)).cg (fun w hw => co _ (by omega))
      · refine ⟨20000 - 10 * (i + 1), by omega, i + 1, f36, by omega, rfl, by rw [ex, nI_add], rfl, fun j hj => by rw [e36, up_ne (by omega), co j (by omega)]; exact ha j (by omega), fun h1 k hk => ?_⟩
        by_cases hki : k = i
        · subst hki
          have d2 : mCp m' t 1 k 6 (3102 + 6 * (64 * 1 + k) + 1) = nI 1 := d2
          rw [e3.1] at d2
          have hdr : f (64 * t + k) &&& 16128 = 0 := by
            unfold uKind at d2
            rw [if_neg hnz] at d2
            by_cases q : f (64 * t + k) &&& 16128 = 0
            · exact q
            · rw [if_neg q] at d2
              split at d2
              · exact absurd d2 (by decide)
              · exact absurd d2 (by decide)
          rw [hrc, show zKp (f (64 * t + k)) = 0 from if_pos hdr]
          refine ⟨?_, fun q => absurd rfl q⟩
          rw [e36, up_eq rfl]; rfl
        · refine (hb h1 k (by omega)).cg (fun w hw => ?_)
          rw [e36, up_ne (by omega)]; exact co _ (by omega)
    · have hlt : ¬ r < t := fun q => c (nI_lt q (by omega))
      exact absurd (nI_le (by omega) (by omega)) c2
  · rintro n y1 z ⟨l, m', hl2, hl6, rfl, rfl, rfl, hm⟩
    have e4 : m' 4 = nI r := by rw [er]; exact hm.2.1
    unfold t_X11_merges_127
    dsimp only
    rw [n_c4, e4]
    refine ⟨vp_in_nI (n := 4) (by decide) (by decide), fun c => ⟨vp_in_nI (n := 4) (by decide) (by decide), fun c2 => ⟨vp_in_nI (n := 4) (by decide) (by decide), fun f45 e45 => ?_⟩, fun c2 => ⟨1, by decide, rfl, ?_⟩⟩, fun c => ⟨l, ?_, rfl, fun x ex => ?_⟩⟩
    · have h0 : rN v = 0 := by
        have := (nI_leI (a := r) (b := 0) (by omega) (by decide)).mp c2
        omega
      refine hQ f45 ?_
      rw [e45]
      refine hm.fin ho hD hC ?_
      unfold foldR
      rw [if_pos h0]; rfl
    · have h0 : ¬ rN v = 0 := fun q => c2 (by rw [er, q]; decide)
      have hcnt := mg_cnt h0 (hm.2.2.2.2.2.2.2 (by omega))
      show (nI (fa_cnt (fun k => decide (¬ m' (3102 + 6 * (64 * 1 + k) + 1) ≤ 0)) 64) ≤ 0 → _) ∧ (¬ nI (fa_cnt (fun k => decide (¬ m' (3102 + 6 * (64 * 1 + k) + 1) ≤ 0)) 64) ≤ 0 → _)
      rw [hcnt]
      have hN : zFoldN v.2.2.2.1 (rN v) ≤ 64 := by rw [← hcnt]; exact fa_cnt_le _ _
      have efN : zFoldN v.2.2.2.1 (rN v) = zLeft v.2.2.2.1.1 (rN v - 1) 64 := if_neg h0
      refine ⟨fun c3 => ⟨vp_in_nI (n := 4) (by decide) (by decide), fun f48 e48 => hQ f48 ?_⟩, fun c3 => ⟨vp_in_nI (n := 4) (by decide) (by decide), fun f48 e48 => hQ f48 ?_⟩⟩
      · rw [e48]
        refine hm.fin ho hD hC ?_
        unfold foldR
        have := (nI_leI (a := zFoldN v.2.2.2.1 (rN v)) (b := 0) (by omega) (by decide)).mp c3
        rw [if_neg h0, if_pos (by omega)]; rfl
      · rw [e48]
        refine hm.fin ho hD hC ?_
        unfold foldR
        rw [if_neg h0, if_neg (fun q => c3 (by rw [efN, q]; decide))]; rfl
    · have : ¬ r < l := fun q => c (nI_lt q (by omega))
      omega
    · have hlt : ¬ r < l := fun q => c (nI_lt q (by omega))
      refine ⟨100 - (l + 1), by omega, l + 1, mWp m' l 384, by omega, by omega, rfl, by rw [ex, nI_1], rfl, ?_⟩
      have wo : ∀ j, (j < 3870 ∨ 5406 ≤ j) → mWp m' l 384 j = m' j := fun j hj => if_neg (by omega)
      obtain ⟨k1, k2, k3, k4, k5, k6, k7, k8⟩ := hm
      exact ⟨fun i hi hn => by rw [wo i (by omega)]; exact k1 i hi hn, by rw [wo 4 (by omega)]; exact k2, k3.cg (fun j a b => wo j (by omega)), k4.cg h50 (fun j a b => wo j (by omega)), k5.cg hC (fun j a b => wo j (by omega)), k6.cg (mg_dia hD).2 (fun j a b => wo j (by omega)), fun k hk => (k7 k hk).cg (fun w hw => wo _ (by omega)), fun h1 k hk => (k8 h1 k hk).cg (fun w hw => wo _ (by omega))⟩
  · exact ⟨20000, 0, u.2.1, by omega, rfl, rfl, rfl, fun _ _ => rfl, fun _ k hk => absurd hk (Nat.not_lt_zero k)⟩
theorem c_X11_merges (l : Launch) (dC : Nat → ClassId) (dI : Nat → Nat → Nat) (cI cJ cS : ClassId) (a : Nat → Nat) (u : zModel) (Q : zModel → Prop) (hf : s_X11_merges u Q) : ∀ sz : Nat, Met l yX11_merges (Cond.code yX11_merges cX11_merges 3 none :: zT) rm_X11_merges (zPm dC dI cI cJ cS (cl_X11 cI cJ a u) [.ref (a 0)] sz) (va_Qv Q (zB dC dI cI cJ cS (va_A (cl_X11 cI cJ a u) sz) (fun z => cl_X11 cI cJ a z)) (va_A (cl_X11 cI cJ a u) sz)) 0 0 (va_A (cl_X11 cI cJ a u) sz) := by
  obtain ⟨I2, I10, I127, h2, h10, h127, hf⟩ := st_X11_merges hf
  exact L_X11_merges l dC dI cI cJ cS a u Q I2 I10 I127 h2 h10 h127 hf
