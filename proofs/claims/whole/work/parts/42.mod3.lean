def t_X11_liveOf_e (u : zModel) (x1 : Int32) (x2 : Int32) (K5 : Int32 → Int32 → Prop) (Q : Int32 → Prop) : Prop := K5 (0 : Int32) (0 : Int32)
def t_X11_liveOf_5 (u : zModel) (x1 : Int32) (x2 : Int32) (y3 : Int32) (y4 : Int32) (K5 : Int32 → Int32 → Prop) (Q : Int32 → Prop) : Prop := s_X11_segmentAt u x1 (1 : Int32) (fun r_2 : Int32 => ((r_2 ≤ y4 → Q y3) ∧ (¬ r_2 ≤ y4 → s_X11_isLive u x1 y4 (fun r_4 : Int32 => ((¬ r_4 = x2 → ∀ x_6 : Int32, x_6 = (y3 + (0 : Int32)) → ∀ x_7 : Int32, x_7 = y4 + (1 : Int32) → K5 x_6 x_7) ∧ (r_4 = x2 → s_X11_noted u x1 y4 (1 : Int32) (fun r_9 : Int32 => s_X11_sizeOf r_9 (fun r_10 : Int32 => ∀ x_11 : Int32, x_11 = (y3 + r_10) → ∀ x_12 : Int32, x_12 = y4 + (1 : Int32) → K5 x_11 x_12))))))))
theorem zc_X11_liveOf : zCalV RX11 yX11_liveOf cX11_liveOf 5 (some .int) 2 := ⟨q_im_X11_liveOf, q_se_X11_liveOf, q_in_X11, q_cd_X11_liveOf, ⟨by decide, by decide, by decide +kernel⟩, rfl⟩
abbrev rm_X11_liveOf : Room := { frames := 5, cells := 0, slots := 0, locals := 111 }
def v_X11_liveOf (u : zModel) (x1 : Int32) (x2 : Int32) (Q : Int32 → Prop) : Prop := ∃ I5 : Nat → Int32 → Int32 → Prop, (∀ (n : Nat) (y3 : Int32) (y4 : Int32), I5 n y3 y4 → t_X11_liveOf_5 u x1 x2 y3 y4 (fun q0 q1 => ∃ k : Nat, k < n ∧ I5 k q0 q1) Q) ∧ t_X11_liveOf_e u x1 x2 (fun q0 q1 => ∃ k : Nat, I5 k q0 q1) Q
set_option maxHeartbeats 4000000 in
set_option maxRecDepth 100000 in
theorem L_X11_liveOf (l : Launch) (dC : Nat → ClassId) (dI : Nat → Nat → Nat) (cI cJ cS : ClassId) (a : Nat → Nat) (u : zModel) (x1 : Int32) (x2 : Int32) (Q : Int32 → Prop) (I5 : Nat → Int32 → Int32 → Prop) (h5 : ∀ (n : Nat) (y3 : Int32) (y4 : Int32), I5 n y3 y4 → t_X11_liveOf_5 u x1 x2 y3 y4 (fun q0 q1 => ∃ k : Nat, k < n ∧ I5 k q0 q1) Q) (hf : t_X11_liveOf_e u x1 x2 (fun q0 q1 => ∃ k : Nat, I5 k q0 q1) Q) : Met l yX11_liveOf (Cond.code yX11_liveOf cX11_liveOf 5 (some .int) :: zT) rm_X11_liveOf (zPp dC dI cI cJ cS (cl_X11 cI cJ a u) [.ref (a 0), .int x1, .int x2]) (vp_Si Q) 0 0 (fun _ => False) := by
  refine z_enterP (cc := cX11_liveOf) (maxL := 5) (ret := (some .int)) (by decide) (Nat.le_of_ble_eq_true rfl) ?_
  intro p e s m below meth c ls X hP hl
  obtain ⟨⟨hx, hb, hml, hown, hts⟩, hr, hlk, hK⟩ := id X
  have hl : lv_has ls 5 [(0, .ref (a 0)), (1, .int x1), (2, .int x2)] := hl
  have LP : ∀ n : Nat, (∀ (y3 : Int32) (y4 : Int32) (ls : Array Slot), I5 n y3 y4 → lv_has ls 5 [(0, .ref (a 0)), (1, .int x1), (2, .int x2), (3, .int y3), (4, .int y4)] → W p l e rm_X11_liveOf s m [.ref (a 0), .int x1, .int x2].toArray below meth c s.heap [] 0 0 (MQ below (vp_Si Q) [.ref (a 0), .int x1, .int x2].toArray s 0 0 (fun _ => False)) (F0 m 5 ls [])) := by
    intro n
    induction n using Nat.strongRecOn with
    | _ n ih =>
      intro y3 y4 ls hI hl
      have hf := h5 n y3 y4 hI
      unfold t_X11_liveOf_5 at hf
      refine lv_iload hx hb dX11_liveOf_5 (lv_at hl 4 rfl) ?_
      refine lv_aload_n hx hb dX11_liveOf_7 rfl (lv_at hl 0 rfl) ?_
      refine lv_iload_n hx hb dX11_liveOf_8 rfl (lv_at hl 1 rfl) ?_
      refine lv_iconst (v := 1) hx hb dX11_liveOf_9 (by decide) ?_
      refine z_cVi (As := [.int x1, .int (1 : Int32)]) (rest := [.int y4]) X (c_X11_segmentAt l dC dI cI cJ cS a u x1 (1 : Int32) _ hf) zc_X11_segmentAt q_ml_X11_53 ⟨rfl, rfl⟩ ⟨Nat.le_of_ble_eq_true rfl, Nat.le_of_ble_eq_true rfl⟩ hP [0, 1, 2, 3, 4, 5, 6, 7, 8] rfl 10 rfl rfl hl.1 rfl rfl (Nat.le_of_ble_eq_true rfl) ⟨Nat.zero_le _, Nat.zero_le _⟩ dX11_liveOf_10 (fun r_2 hf => ?_)
      refine lv_icmp_ge (tgt := 51) hx hb dX11_liveOf_13 (by decide) (fun c_3 => ?_) (fun c_3 => ?_)
      · have hf := hf.1 c_3
        refine lv_iload_n hx hb dX11_liveOf_51 rfl (lv_at hl 3 rfl) ?_
        exact z_retPi X hf dX11_liveOf_52
      · have hf := hf.2 c_3
        refine lv_iload_n hx hb dX11_liveOf_16 rfl (lv_at hl 3 rfl) ?_
        refine lv_aload_n hx hb dX11_liveOf_17 rfl (lv_at hl 0 rfl) ?_
        refine lv_iload_n hx hb dX11_liveOf_18 rfl (lv_at hl 1 rfl) ?_
        refine lv_iload hx hb dX11_liveOf_19 (lv_at hl 4 rfl) ?_
        refine z_cVi (As := [.int x1, .int y4]) (rest := [.int y3]) X (c_X11_isLive l dC dI cI cJ cS a u x1 y4 _ hf) zc_X11_isLive q_ml_X11_88 ⟨rfl, rfl⟩ ⟨Nat.le_of_ble_eq_true rfl, Nat.le_of_ble_eq_true rfl⟩ hP [0, 1, 2, 3, 4, 5, 6, 7, 8] rfl 10 rfl rfl hl.1 rfl rfl (Nat.le_of_ble_eq_true rfl) ⟨Nat.zero_le _, Nat.zero_le _⟩ dX11_liveOf_21 (fun r_4 hf => ?_)
        obtain ⟨hbr_4, hf⟩ := hf
        refine lv_iload_n hx hb dX11_liveOf_24 rfl (lv_at hl 2 rfl) ?_
        refine lv_icmp_ne (tgt := 42) hx hb dX11_liveOf_25 (by decide) (fun c_5 => ?_) (fun c_5 => ?_)
        · have hf := hf.1 c_5
          refine lv_iconst (v := 0) hx hb dX11_liveOf_42 (by decide) ?_
          refine lv_iadd hx hb dX11_liveOf_43 ?_
          refine lv_topi (fun x_6 ex_6 => ?_)
          have hf := hf x_6 ex_6
          refine lv_istore_n (lv' := [(3, .int x_6), (0, .ref (a 0)), (1, .int x1), (2, .int x2), (4, .int y4)]) hx hb dX11_liveOf_44 rfl hl (by decide) rfl (fun ls hl => ?_)
          obtain ⟨x_7, ex_7⟩ : ∃ y : Int32, y = y4 + (1 : Int32) := ⟨_, rfl⟩
          have hf := hf x_7 ex_7
          refine lv_iinc (v := x_7) (lv' := [(4, .int x_7), (3, .int x_6), (0, .ref (a 0)), (1, .int x1), (2, .int x2)]) hx hb dX11_liveOf_45 hl (k := 4) rfl (by rw [ex_7]; rfl) (by decide) rfl (fun ls hl => ?_)
          refine lv_goto (tgt := 5) hx hb dX11_liveOf_48 (by decide) ?_
          obtain ⟨k_8, hk_8, hf⟩ := hf
          exact (ih k_8 hk_8) _ _ ls hf (lv_sub hl [2, 3, 4, 1, 0] rfl)
        · have hf := hf.2 c_5
          refine lv_aload_n hx hb dX11_liveOf_28 rfl (lv_at hl 0 rfl) ?_
          refine lv_iload_n hx hb dX11_liveOf_29 rfl (lv_at hl 1 rfl) ?_
          refine lv_iload hx hb dX11_liveOf_30 (lv_at hl 4 rfl) ?_
          refine lv_iconst (v := 1) hx hb dX11_liveOf_32 (by decide) ?_
          refine z_cVi (As := [.int x1, .int y4, .int (1 : Int32)]) (rest := [.int y3]) X (c_X11_noted l dC dI cI cJ cS a u x1 y4 (1 : Int32) _ hf) zc_X11_noted q_ml_X11_77 ⟨rfl, rfl⟩ ⟨Nat.le_of_ble_eq_true rfl, Nat.le_of_ble_eq_true rfl⟩ hP [0, 1, 2, 3, 4, 5, 6, 7, 8] rfl 10 rfl rfl hl.1 rfl rfl (Nat.le_of_ble_eq_true rfl) ⟨Nat.zero_le _, Nat.zero_le _⟩ dX11_liveOf_33 (fun r_9 hf => ?_)
          refine z_cSi (As := [.int r_9]) (rest := [.int y3]) X (c_X11_sizeOf l dC dI cI cJ cS   r_9 _ hf) zc_X11_sizeOf q_ml_X11_91 ⟨rfl, rfl⟩ ⟨Nat.le_of_ble_eq_true rfl, Nat.le_of_ble_eq_true rfl⟩ hP [] rfl hl.1 rfl rfl (Nat.le_of_ble_eq_true rfl) ⟨Nat.zero_le _, Nat.zero_le _⟩ dX11_liveOf_36 (fun r_10 hf => ?_)
          refine lv_goto (tgt := 43) hx hb dX11_liveOf_39 (by decide) ?_
          refine lv_iadd hx hb dX11_liveOf_43 ?_
          refine lv_topi (fun x_11 ex_11 => ?_)
          have hf := hf x_11 ex_11
          refine lv_istore_n (lv' := [(3, .int x_11), (0, .ref (a 0)), (1, .int x1), (2, .int x2), (4, .int y4)]) hx hb dX11_liveOf_44 rfl hl (by decide) rfl (fun ls hl => ?_)
          obtain ⟨x_12, ex_12⟩ : ∃ y : Int32, y = y4 + (1 : Int32) := ⟨_, rfl⟩
          have hf := hf x_12 ex_12
          refine lv_iinc (v := x_12) (lv' := [(4, .int x_12), (3, .int x_11), (0, .ref (a 0)), (1, .int x1), (2, .int x2)]) hx hb dX11_liveOf_45 hl (k := 4) rfl (by rw [ex_12]; rfl) (by decide) rfl (fun ls hl => ?_)
          refine lv_goto (tgt := 5) hx hb dX11_liveOf_48 (by decide) ?_
          obtain ⟨k_13, hk_13, hf⟩ := hf
          exact (ih k_13 hk_13) _ _ ls hf (lv_sub hl [2, 3, 4, 1, 0] rfl)
  unfold t_X11_liveOf_e at hf
  refine lv_iconst (v := 0) hx hb dX11_liveOf_0 (by decide) ?_
  refine lv_istore_n (lv' := [(3, .int (0 : Int32)), (0, .ref (a 0)), (1, .int x1), (2, .int x2)]) hx hb dX11_liveOf_1 rfl hl (by decide) rfl (fun ls hl => ?_)
  refine lv_iconst (v := 0) hx hb dX11_liveOf_2 (by decide) ?_
  refine lv_istore (lv' := [(4, .int (0 : Int32)), (3, .int (0 : Int32)), (0, .ref (a 0)), (1, .int x1), (2, .int x2)]) hx hb dX11_liveOf_3 hl (by decide) rfl (fun ls hl => ?_)
  obtain ⟨k_1, hf⟩ := hf
  exact (LP k_1) _ _ ls hf (lv_sub hl [2, 3, 4, 1, 0] rfl)
/-- a record's size out of the reference's length -/
theorem size_rel (c : Int64) {Q : Int32 → Prop} (h : Q (4 + cLen c)) : s_X11_sizeOf (lenI c) Q := by
  unfold lenI
  obtain ⟨e, hl⟩ := lnN_eq c
  by_cases h0 : cLen c = 0
  · rw [if_pos h0]
    rw [h0] at h
    exact ⟨fun q => absurd q (by decide), fun _ => h⟩
  · rw [if_neg h0]
    refine ⟨fun _ => h, fun q => ?_⟩
    rw [e] at q
    exact absurd (nI_pos' (by omega)) q
/-- dead bytes of the first j records -/
def uDeadN (v : zState) (s : Nat) : Nat → Int32 := l_sum (fun k => if uLiv v (uRec v s k) then 0 else 4 + cLen (uRec v s k))
theorem dead_sum (v : zState) (s : Nat) : ∀ j, uDeadN v s j = nI (gB v.2.2.1 s j) - l_sum (fun k => if uLiv v (uRec v s k) then 4 + cLen (uRec v s k) else 0) j
  | 0 => by show (0 : Int32) = nI 0 - 0; decide
  | j + 1 => by
    have ih := dead_sum v s j
    have e : nI (gB v.2.2.1 s (j + 1)) = nI (gB v.2.2.1 s j) + (4 + cLen (uRec v s j)) := by
      rw [(lnN_eq (uRec v s j)).1, n_lit4, nI_add, nI_add]; rfl
    show uDeadN v s j + (if uLiv v (uRec v s j) then 0 else 4 + cLen (uRec v s j)) = nI (gB v.2.2.1 s (j + 1)) - (l_sum (fun k => if uLiv v (uRec v s k) then 4 + cLen (uRec v s k) else 0) j + (if uLiv v (uRec v s j) then 4 + cLen (uRec v s j) else 0))
    rw [ih, e]
    generalize l_sum (fun k => if uLiv v (uRec v s k) then 4 + cLen (uRec v s k) else 0) j = a
    generalize nI (gB v.2.2.1 s j) = b
    generalize (4 : Int32) + cLen (uRec v s j) = d
    cases uLiv v (uRec v s j) with
    | true =>
      show b - a + 0 = b + d - (a + d)
      rw [Int32.add_zero, Int32.sub_eq_add_neg, Int32.sub_eq_add_neg, Int32.neg_add, Int32.sub_eq_add_neg, Int32.add_assoc b d, Int32.add_comm (-a) (-d), ← Int32.add_assoc d (-d), Int32.add_right_neg, Int32.zero_add]
    | false =>
      show b - a + d = b + d - (a + 0)
      rw [Int32.add_zero, Int32.sub_eq_add_neg, Int32.sub_eq_add_neg, Int32.add_assoc, Int32.add_comm (-a) d, ← Int32.add_assoc]
def s_X11_liveOf (u : zModel) (x1 x2 : Int32) (Q : Int32 → Prop) : Prop := ∃ (v : zState) (s : Nat), mOk v u.2.1 ∧ s < 12 ∧ x1 = nI s ∧ ((x2 = 1 ∧ Q (uLive v s)) ∨ (x2 = 0 ∧ Q (v.2.2.1.2.2.1 s - uLive v s)))
theorem st_X11_liveOf {u : zModel} {x1 x2 : Int32} {Q : Int32 → Prop} (h : s_X11_liveOf u x1 x2 Q) : v_X11_liveOf u x1 x2 Q := by
  obtain ⟨v, s, hm, hs, rfl, h⟩ := h
  obtain ⟨⟨ρ, β, mo, lm, L, S, M, B, hP⟩, hr⟩ := id hm
  have hg := hP.2.2.2.2.2.1
  have h50 := (hg.2.1 s hs).2
  have e1 : u.2.1 (66 + 3 * s + 1) = nI (gN v.2.2.1 s) := (hr.2.1 s 1 hs (by decide)).trans (hg.2.1 s hs).1
  have sz : ∀ i, i < gN v.2.2.1 s → ∀ {R : Int32 → Prop}, R (4 + cLen (uRec v s i)) → s_X11_noted u (nI s) (nI i) (1 : Int32) (fun r_9 : Int32 => s_X11_sizeOf r_9 R) := fun i hi R hR => by
    refine ⟨s, i, 1, hs, by omega, by decide, rfl, rfl, rfl, ?_⟩
    rw [hr.2.2.1 s i 1 hs hi (by decide)]
    exact size_rel _ hR
  rcases h with ⟨rfl, h⟩ | ⟨rfl, h⟩
  · refine zlp2 (T := fun y y' K => t_X11_liveOf_5 u (nI s) 1 y y' K Q) (E := fun K => t_X11_liveOf_e u (nI s) 1 K Q) (gN v.2.2.1 s) (fun i => l_sum (fun k => if uLiv v (uRec v s k) then 4 + cLen (uRec v s k) else 0) i) (fun i => nI i) (fun K hK => hK) ?_ ?_
    · intro i hi K hK
      have hK : K (l_sum (fun k => if uLiv v (uRec v s k) then 4 + cLen (uRec v s k) else 0) i + (if uLiv v (uRec v s i) then 4 + cLen (uRec v s i) else 0)) (nI (i + 1)) := hK
      refine ⟨s, 1, hs, by decide, rfl, rfl, ?_⟩
      rw [e1]
      refine ⟨fun c => absurd c (nI_ge hi (by omega)), fun _ => ⟨v, s, i, hm, hs, hi, rfl, rfl, fun hl => ⟨fun q => absurd rfl q, fun _ => sz i hi (fun x e x' e' => ?_)⟩, fun hl => ⟨fun _ x e x' e' => ?_, fun q => absurd q (by decide)⟩⟩⟩
      · rw [if_pos hl] at hK; rw [e, e', nI_1]; exact hK
      · rw [if_neg (by rw [hl]; decide)] at hK; rw [e, e', nI_1]; exact hK
    · intro K
      refine ⟨s, 1, hs, by decide, rfl, rfl, ?_⟩
      rw [e1]
      exact ⟨fun _ => h, fun c => absurd (nI_le (Nat.le_refl _) (by omega)) c⟩
  · have h : Q (uDeadN v s (gN v.2.2.1 s)) := by
      rw [dead_sum, ← (hg.2.2.2.1 s hs).1]; exact h
    refine zlp2 (T := fun y y' K => t_X11_liveOf_5 u (nI s) 0 y y' K Q) (E := fun K => t_X11_liveOf_e u (nI s) 0 K Q) (gN v.2.2.1 s) (fun i => uDeadN v s i) (fun i => nI i) (fun K hK => hK) ?_ ?_
    · intro i hi K hK
      have hK : K (uDeadN v s i + (if uLiv v (uRec v s i) then 0 else 4 + cLen (uRec v s i))) (nI (i + 1)) := hK
      refine ⟨s, 1, hs, by decide, rfl, rfl, ?_⟩
      rw [e1]
      refine ⟨fun c => absurd c (nI_ge hi (by omega)), fun _ => ⟨v, s, i, hm, hs, hi, rfl, rfl, fun hl => ⟨fun _ x e x' e' => ?_, fun q => absurd q (by decide)⟩, fun hl => ⟨fun q => absurd rfl q, fun _ => sz i hi (fun x e x' e' => ?_)⟩⟩⟩
      · rw [if_pos hl] at hK; rw [e, e', nI_1]; exact hK
      · rw [if_neg (by rw [hl]; decide)] at hK; rw [e, e', nI_1]; exact hK
    · intro K
      refine ⟨s, 1, hs, by decide, rfl, rfl, ?_⟩
      rw [e1]
      exact ⟨fun _ => h, fun c => absurd (nI_le (Nat.le_refl _) (by omega)) c⟩
theorem c_X11_liveOf (l : Launch) (dC : Nat → ClassId) (dI : Nat → Nat → Nat) (cI cJ cS : ClassId) (a : Nat → Nat) (u : zModel) (x1 : Int32) (x2 : Int32) (Q : Int32 → Prop) (hf : s_X11_liveOf u x1 x2 Q) : Met l yX11_liveOf (Cond.code yX11_liveOf cX11_liveOf 5 (some .int) :: zT) rm_X11_liveOf (zPp dC dI cI cJ cS (cl_X11 cI cJ a u) [.ref (a 0), .int x1, .int x2]) (vp_Si Q) 0 0 (fun _ => False) := by
  obtain ⟨I5, h5, hf⟩ := st_X11_liveOf hf
  exact L_X11_liveOf l dC dI cI cJ cS a u x1 x2 Q I5 h5 hf

def t_X11_poorest_e (u : zModel) (K4 : Int32 → Int32 → Prop) (Q : Int32 → Prop) : Prop := K4 (-1 : Int32) (0 : Int32)
def t_X11_poorest_4 (u : zModel) (y1 : Int32) (y2 : Int32) (K4 : Int32 → Int32 → Prop) (Q : Int32 → Prop) : Prop := (((12 : Int32) ≤ y2 → Q y1) ∧ (¬ (12 : Int32) ≤ y2 → s_X11_segmentAt u y2 (0 : Int32) (fun r_3 : Int32 => ((¬ r_3 = (2 : Int32) → ∀ x_5 : Int32, x_5 = y2 + (1 : Int32) → K4 y1 x_5) ∧ (r_3 = (2 : Int32) → ((y1 = (-1 : Int32) → ∀ x_8 : Int32, x_8 = y2 + (1 : Int32) → K4 y2 x_8) ∧ (¬ y1 = (-1 : Int32) → s_X11_liveOf u y2 (1 : Int32) (fun r_10 : Int32 => s_X11_liveOf u y1 (1 : Int32) (fun r_11 : Int32 => ((r_11 ≤ r_10 → ∀ x_13 : Int32, x_13 = y2 + (1 : Int32) → K4 y1 x_13) ∧ (¬ r_11 ≤ r_10 → ∀ x_15 : Int32, x_15 = y2 + (1 : Int32) → K4 y2 x_15)))))))))))
theorem zc_X11_poorest : zCalV RX11 yX11_poorest cX11_poorest 3 (some .int) 0 := ⟨q_im_X11_poorest, q_se_X11_poorest, q_in_X11, q_cd_X11_poorest, ⟨by decide, by decide, by decide +kernel⟩, rfl⟩
abbrev rm_X11_poorest : Room := { frames := 6, cells := 0, slots := 0, locals := 135 }
def v_X11_poorest (u : zModel) (Q : Int32 → Prop) : Prop := ∃ I4 : Nat → Int32 → Int32 → Prop, (∀ (n : Nat) (y1 : Int32) (y2 : Int32), I4 n y1 y2 → t_X11_poorest_4 u y1 y2 (fun q0 q1 => ∃ k : Nat, k < n ∧ I4 k q0 q1) Q) ∧ t_X11_poorest_e u (fun q0 q1 => ∃ k : Nat, I4 k q0 q1) Q
set_option maxHeartbeats 4000000 in
set_option maxRecDepth 100000 in
theorem L_X11_poorest (l : Launch) (dC : Nat → ClassId) (dI : Nat → Nat → Nat) (cI cJ cS : ClassId) (a : Nat → Nat) (u : zModel) (Q : Int32 → Prop) (I4 : Nat → Int32 → Int32 → Prop) (h4 : ∀ (n : Nat) (y1 : Int32) (y2 : Int32), I4 n y1 y2 → t_X11_poorest_4 u y1 y2 (fun q0 q1 => ∃ k : Nat, k < n ∧ I4 k q0 q1) Q) (hf : t_X11_poorest_e u (fun q0 q1 => ∃ k : Nat, I4 k q0 q1) Q) : Met l yX11_poorest (Cond.code yX11_poorest cX11_poorest 3 (some .int) :: zT) rm_X11_poorest (zPp dC dI cI cJ cS (cl_X11 cI cJ a u) [.ref (a 0)]) (vp_Si Q) 0 0 (fun _ => False) := by
  refine z_enterP (cc := cX11_poorest) (maxL := 3) (ret := (some .int)) (by decide) (Nat.le_of_ble_eq_true rfl) ?_
  intro p e s m below meth c ls X hP hl
  obtain ⟨⟨hx, hb, hml, hown, hts⟩, hr, hlk, hK⟩ := id X
  have hl : lv_has ls 3 [(0, .ref (a 0))] := hl
  have LP : ∀ n : Nat, (∀ (y1 : Int32) (y2 : Int32) (ls : Array Slot), I4 n y1 y2 → lv_has ls 3 [(0, .ref (a 0)), (1, .int y1), (2, .int y2)] → W p l e rm_X11_poorest s m [.ref (a 0)].toArray below meth c s.heap [] 0 0 (MQ below (vp_Si Q) [.ref (a 0)].toArray s 0 0 (fun _ => False)) (F0 m 4 ls [])) := by
    intro n
    induction n using Nat.strongRecOn with
    | _ n ih =>
      intro y1 y2 ls hI hl
      have hf := h4 n y1 y2 hI
      unfold t_X11_poorest_4 at hf
      refine lv_iload_n hx hb dX11_poorest_4 rfl (lv_at hl 2 rfl) ?_
      refine lv_bipush (v := 12) hx hb dX11_poorest_5 (by decide) ?_
      refine lv_icmp_ge (tgt := 48) hx hb dX11_poorest_7 (by decide) (fun c_2 => ?_) (fun c_2 => ?_)
      · have hf := hf.1 c_2
        refine lv_iload_n hx hb dX11_poorest_48 rfl (lv_at hl 1 rfl) ?_
        exact z_retPi X hf dX11_poorest_49
      · have hf := hf.2 c_2
        refine lv_aload_n hx hb dX11_poorest_10 rfl (lv_at hl 0 rfl) ?_
        refine lv_iload_n hx hb dX11_poorest_11 rfl (lv_at hl 2 rfl) ?_
        refine lv_iconst (v := 0) hx hb dX11_poorest_12 (by decide) ?_
        refine z_cVi (As := [.int y2, .int (0 : Int32)]) (rest := []) X (c_X11_segmentAt l dC dI cI cJ cS a u y2 (0 : Int32) _ hf) zc_X11_segmentAt q_ml_X11_53 ⟨rfl, rfl⟩ ⟨Nat.le_of_ble_eq_true rfl, Nat.le_of_ble_eq_true rfl⟩ hP [0, 1, 2, 3, 4, 5, 6, 7, 8] rfl 10 rfl rfl hl.1 rfl rfl (Nat.le_of_ble_eq_true rfl) ⟨Nat.zero_le _, Nat.zero_le _⟩ dX11_poorest_13 (fun r_3 hf => ?_)
        refine lv_iconst (v := 2) hx hb dX11_poorest_16 (by decide) ?_
        refine lv_icmp_ne (tgt := 42) hx hb dX11_poorest_17 (by decide) (fun c_4 => ?_) (fun c_4 => ?_)
        · have hf := hf.1 c_4
          obtain ⟨x_5, ex_5⟩ : ∃ y : Int32, y = y2 + (1 : Int32) := ⟨_, rfl⟩
          have hf := hf x_5 ex_5
          refine lv_iinc (v := x_5) (lv' := [(2, .int x_5), (0, .ref (a 0)), (1, .int y1)]) hx hb dX11_poorest_42 hl (k := 2) rfl (by rw [ex_5]; rfl) (by decide) rfl (fun ls hl => ?_)
          refine lv_goto (tgt := 4) hx hb dX11_poorest_45 (by decide) ?_
          obtain ⟨k_6, hk_6, hf⟩ := hf
          exact (ih k_6 hk_6) _ _ ls hf (lv_sub hl [1, 2, 0] rfl)
        · have hf := hf.2 c_4
          refine lv_iload_n hx hb dX11_poorest_20 rfl (lv_at hl 1 rfl) ?_
          refine lv_iconst (v := (-1)) hx hb dX11_poorest_21 (by decide) ?_
          refine lv_icmp_eq (tgt := 40) hx hb dX11_poorest_22 (by decide) (fun c_7 => ?_) (fun c_7 => ?_)
          · have hf := hf.1 c_7
            refine lv_iload_n hx hb dX11_poorest_40 rfl (lv_at hl 2 rfl) ?_
            refine lv_istore_n (lv' := [(1, .int y2), (0, .ref (a 0)), (2, .int y2)]) hx hb dX11_poorest_41 rfl hl (by decide) rfl (fun ls hl => ?_)
            obtain ⟨x_8, ex_8⟩ : ∃ y : Int32, y = y2 + (1 : Int32) := ⟨_, rfl⟩
            have hf := hf x_8 ex_8
            refine lv_iinc (v := x_8) (lv' := [(2, .int x_8), (1, .int y2), (0, .ref (a 0))]) hx hb dX11_poorest_42 hl (k := 2) rfl (by rw [ex_8]; rfl) (by decide) rfl (fun ls hl => ?_)
            refine lv_goto (tgt := 4) hx hb dX11_poorest_45 (by decide) ?_
            obtain ⟨k_9, hk_9, hf⟩ := hf
            exact (ih k_9 hk_9) _ _ ls hf (lv_sub hl [2, 1, 0] rfl)
          · have hf := hf.2 c_7
            refine lv_aload_n hx hb dX11_poorest_25 rfl (lv_at hl 0 rfl) ?_
            refine lv_iload_n hx hb dX11_poorest_26 rfl (lv_at hl 2 rfl) ?_
            refine lv_iconst (v := 1) hx hb dX11_poorest_27 (by decide) ?_
            refine z_cVi (As := [.int y2, .int (1 : Int32)]) (rest := []) X (c_X11_liveOf l dC dI cI cJ cS a u y2 (1 : Int32) _ hf) zc_X11_liveOf q_ml_X11_130 ⟨rfl, rfl⟩ ⟨Nat.le_of_ble_eq_true rfl, Nat.le_of_ble_eq_true rfl⟩ hP [0, 1, 2, 3, 4, 5, 6, 7, 8] rfl 10 rfl rfl hl.1 rfl rfl (Nat.le_of_ble_eq_true rfl) ⟨Nat.zero_le _, Nat.zero_le _⟩ dX11_poorest_28 (fun r_10 hf => ?_)
            refine lv_aload_n hx hb dX11_poorest_31 rfl (lv_at hl 0 rfl) ?_
            refine lv_iload_n hx hb dX11_poorest_32 rfl (lv_at hl 1 rfl) ?_
            refine lv_iconst (v := 1) hx hb dX11_poorest_33 (by decide) ?_
            refine z_cVi (As := [.int y1, .int (1 : Int32)]) (rest := [.int r_10]) X (c_X11_liveOf l dC dI cI cJ cS a u y1 (1 : Int32) _ hf) zc_X11_liveOf q_ml_X11_130 ⟨rfl, rfl⟩ ⟨Nat.le_of_ble_eq_true rfl, Nat.le_of_ble_eq_true rfl⟩ hP [0, 1, 2, 3, 4, 5, 6, 7, 8] rfl 10 rfl rfl hl.1 rfl rfl (Nat.le_of_ble_eq_true rfl) ⟨Nat.zero_le _, Nat.zero_le _⟩ dX11_poorest_34 (fun r_11 hf => ?_)
            refine lv_icmp_ge (tgt := 42) hx hb dX11_poorest_37 (by decide) (fun c_12 => ?_) (fun c_12 => ?_)
            · have hf := hf.1 c_12
              obtain ⟨x_13, ex_13⟩ : ∃ y : Int32, y = y2 + (1 : Int32) := ⟨_, rfl⟩
              have hf := hf x_13 ex_13
              refine lv_iinc (v := x_13) (lv' := [(2, .int x_13), (0, .ref (a 0)), (1, .int y1)]) hx hb dX11_poorest_42 hl (k := 2) rfl (by rw [ex_13]; rfl) (by decide) rfl (fun ls hl => ?_)
              refine lv_goto (tgt := 4) hx hb dX11_poorest_45 (by decide) ?_
              obtain ⟨k_14, hk_14, hf⟩ := hf
              exact (ih k_14 hk_14) _ _ ls hf (lv_sub hl [1, 2, 0] rfl)
            · have hf := hf.2 c_12
              refine lv_iload_n hx hb dX11_poorest_40 rfl (lv_at hl 2 rfl) ?_
              refine lv_istore_n (lv' := [(1, .int y2), (0, .ref (a 0)), (2, .int y2)]) hx hb dX11_poorest_41 rfl hl (by decide) rfl (fun ls hl => ?_)
              obtain ⟨x_15, ex_15⟩ : ∃ y : Int32, y = y2 + (1 : Int32) := ⟨_, rfl⟩
              have hf := hf x_15 ex_15
              refine lv_iinc (v := x_15) (lv' := [(2, .int x_15), (1, .int y2), (0, .ref (a 0))]) hx hb dX11_poorest_42 hl (k := 2) rfl (by rw [ex_15]; rfl) (by decide) rfl (fun ls hl => ?_)
              refine lv_goto (tgt := 4) hx hb dX11_poorest_45 (by decide) ?_
              obtain ⟨k_16, hk_16, hf⟩ := hf
              exact (ih k_16 hk_16) _ _ ls hf (lv_sub hl [2, 1, 0] rfl)
  unfold t_X11_poorest_e at hf
  refine lv_iconst (v := (-1)) hx hb dX11_poorest_0 (by decide) ?_
  refine lv_istore_n (lv' := [(1, .int (-1 : Int32)), (0, .ref (a 0))]) hx hb dX11_poorest_1 rfl hl (by decide) rfl (fun ls hl => ?_)
  refine lv_iconst (v := 0) hx hb dX11_poorest_2 (by decide) ?_
  refine lv_istore_n (lv' := [(2, .int (0 : Int32)), (1, .int (-1 : Int32)), (0, .ref (a 0))]) hx hb dX11_poorest_3 rfl hl (by decide) rfl (fun ls hl => ?_)
  obtain ⟨k_1, hf⟩ := hf
  exact (LP k_1) _ _ ls hf (lv_sub hl [2, 1, 0] rfl)
theorem uPoor_ok (v : zState) : ∀ n, n ≤ 12 → (uPoor v n).1 = -1 ∨ ∃ s, s < n ∧ (uPoor v n).1 = nI s ∧ (uPoor v n).2 = uLive v s
  | 0, _ => Or.inl rfl
  | n + 1, h => by
    have ih := uPoor_ok v n (by omega)
    unfold uPoor
    split
    · split
      · exact Or.inr ⟨n, by omega, rfl, rfl⟩
      · split
        · rcases ih with q | ⟨s, a, b, c⟩
          · exact Or.inl q
          · exact Or.inr ⟨s, by omega, b, c⟩
        · exact Or.inr ⟨n, by omega, rfl, rfl⟩
    · rcases ih with q | ⟨s, a, b, c⟩
      · exact Or.inl q
      · exact Or.inr ⟨s, by omega, b, c⟩
def s_X11_poorest (u : zModel) (Q : Int32 → Prop) : Prop := ∃ v : zState, mOk v u.2.1 ∧ Q (uPoor v 12).1
theorem st_X11_poorest {u : zModel} {Q : Int32 → Prop} (h : s_X11_poorest u Q) : v_X11_poorest u Q := by
  obtain ⟨v, hm, h⟩ := h
  have hr := hm.2
  refine zlp2 (T := fun y y' K => t_X11_poorest_4 u y y' K Q) (E := fun K => t_X11_poorest_e u K Q) 12 (fun i => (uPoor v i).1) (fun i => nI i) (fun K hK => hK) ?_ ?_
  · intro i hi K hK
    have hu : uPoor v (i + 1) = if v.2.2.1.2.2.2.1 i = 2 then (if (uPoor v i).1 = -1 then (nI i, uLive v i) else if (uPoor v i).2 ≤ uLive v i then uPoor v i else (nI i, uLive v i)) else uPoor v i := rfl
    have hK : K (uPoor v (i + 1)).1 (nI (i + 1)) := hK
    rw [hu] at hK
    have e0 : u.2.1 (66 + 3 * i + 0) = v.2.2.1.2.2.2.1 i := hr.2.1 i 0 hi (by decide)
    refine ⟨fun c => absurd c (ge12 hi), fun _ => ⟨i, 0, hi, by decide, rfl, rfl, fun c x e => ?_, fun c => ⟨fun c2 x e => ?_, fun c2 => ?_⟩⟩⟩
    · rw [e0] at c
      rw [if_neg c] at hK; rw [e, nI_1]; exact hK
    · rw [e0] at c
      rw [if_pos c, if_pos c2] at hK; rw [e, nI_1]; exact hK
    · rw [e0] at c
      rw [if_pos c, if_neg c2] at hK
      rcases uPoor_ok v i (by omega) with q | ⟨s, a, b, d⟩
      · exact absurd q c2
      · refine ⟨v, i, hm, hi, rfl, Or.inl ⟨rfl, v, s, hm, by omega, b, Or.inl ⟨rfl, fun c3 x e => ?_, fun c3 x e => ?_⟩⟩⟩
        · rw [if_pos (by rw [d]; exact c3)] at hK; rw [e, nI_1]; exact hK
        · rw [if_neg (by rw [d]; exact c3)] at hK; rw [e, nI_1]; exact hK
  · intro K
    exact ⟨fun _ => h, fun c => absurd (le12 (Nat.le_refl _) (by decide)) c⟩
theorem c_X11_poorest (l : Launch) (dC : Nat → ClassId) (dI : Nat → Nat → Nat) (cI cJ cS : ClassId) (a : Nat → Nat) (u : zModel) (Q : Int32 → Prop) (hf : s_X11_poorest u Q) : Met l yX11_poorest (Cond.code yX11_poorest cX11_poorest 3 (some .int) :: zT) rm_X11_poorest (zPp dC dI cI cJ cS (cl_X11 cI cJ a u) [.ref (a 0)]) (vp_Si Q) 0 0 (fun _ => False) := by
  obtain ⟨I4, h4, hf⟩ := st_X11_poorest hf
  exact L_X11_poorest l dC dI cI cJ cS a u Q I4 h4 hf

def t_X11_spare (u : zModel) (Q : Int32 → Prop) : Prop := vp_in (0 : Int32) 5497 ∧ s_X11_openOne u (fun r_1 : Int32 => s_X11_segmentAt u r_1 (2 : Int32) (fun r_2 : Int32 => vp_in (0 : Int32) 5497 ∧ s_X11_freeOnes u (fun r_3 : Int32 => Q (((u.2.1 (0 : Int32).toNatClampNeg) - r_2) + ((u.2.1 (0 : Int32).toNatClampNeg) * r_3)))))
theorem zc_X11_spare : zCalV RX11 yX11_spare cX11_spare 1 (some .int) 0 := ⟨q_im_X11_spare, q_se_X11_spare, q_in_X11, q_cd_X11_spare, ⟨by decide, by decide, by decide +kernel⟩, rfl⟩
abbrev rm_X11_spare : Room := { frames := 2, cells := 0, slots := 0, locals := 44 }
set_option maxHeartbeats 4000000 in
set_option maxRecDepth 100000 in
theorem L_X11_spare (l : Launch) (dC : Nat → ClassId) (dI : Nat → Nat → Nat) (cI cJ cS : ClassId) (a : Nat → Nat) (u : zModel) (Q : Int32 → Prop) (hf : t_X11_spare u Q) : Met l yX11_spare (Cond.code yX11_spare cX11_spare 1 (some .int) :: zT) rm_X11_spare (zPp dC dI cI cJ cS (cl_X11 cI cJ a u) [.ref (a 0)]) (vp_Si Q) 0 0 (fun _ => False) := by
  refine z_enterP (cc := cX11_spare) (maxL := 1) (ret := (some .int)) (by decide) (Nat.le_of_ble_eq_true rfl) ?_
  intro p e s m below meth c ls X hP hl
  obtain ⟨⟨hx, hb, hml, hown, hts⟩, hr, hlk, hK⟩ := id X
  have hl : lv_has ls 1 [(0, .ref (a 0))] := hl
  unfold t_X11_spare at hf
  refine lv_aload_n hx hb dX11_spare_0 rfl (lv_at hl 0 rfl) ?_
  refine va_get (D := (dC, dI)) (ci := 10) (v := .ref (a 1)) (C := RX11) (T := TX11) (N := 17) hx hb hts inX11 hown hK hP 0 rfl rfl 1 (by decide) (hts _ q_fl_X11_7) (fun _ h9 => h9) rfl dX11_spare_1 ?_
  refine lv_iconst (v := 0) hx hb dX11_spare_4 (by decide) ?_
  obtain ⟨hg, hf⟩ := hf
  refine va_iald hx hb hK hP 1 0 rfl rfl hg dX11_spare_5 ?_
  refine lv_aload_n hx hb dX11_spare_6 rfl (lv_at hl 0 rfl) ?_
  refine lv_aload_n hx hb dX11_spare_7 rfl (lv_at hl 0 rfl) ?_
  refine z_cVi (As := []) (rest := [.ref (a 0), .int (u.2.1 (0 : Int32).toNatClampNeg)]) X (c_X11_openOne l dC dI cI cJ cS a u  _ hf) zc_X11_openOne q_ml_X11_56 ⟨rfl, rfl⟩ ⟨Nat.le_of_ble_eq_true rfl, Nat.le_of_ble_eq_true rfl⟩ hP [0, 1, 2, 3, 4, 5, 6, 7, 8] rfl 10 rfl rfl hl.1 rfl rfl (Nat.le_of_ble_eq_true rfl) ⟨Nat.zero_le _, Nat.zero_le _⟩ dX11_spare_8 (fun r_1 hf => ?_)
  refine lv_iconst (v := 2) hx hb dX11_spare_11 (by decide) ?_
  refine z_cVi (As := [.int r_1, .int (2 : Int32)]) (rest := [.int (u.2.1 (0 : Int32).toNatClampNeg)]) X (c_X11_segmentAt l dC dI cI cJ cS a u r_1 (2 : Int32) _ hf) zc_X11_segmentAt q_ml_X11_53 ⟨rfl, rfl⟩ ⟨Nat.le_of_ble_eq_true rfl, Nat.le_of_ble_eq_true rfl⟩ hP [0, 1, 2, 3, 4, 5, 6, 7, 8] rfl 10 rfl rfl hl.1 rfl rfl (Nat.le_of_ble_eq_true rfl) ⟨Nat.zero_le _, Nat.zero_le _⟩ dX11_spare_12 (fun r_2 hf => ?_)
  refine lv_isub hx hb dX11_spare_15 ?_
  refine lv_aload_n hx hb dX11_spare_16 rfl (lv_at hl 0 rfl) ?_
  refine va_get (D := (dC, dI)) (ci := 10) (v := .ref (a 1)) (C := RX11) (T := TX11) (N := 17) hx hb hts inX11 hown hK hP 0 rfl rfl 1 (by decide) (hts _ q_fl_X11_7) (fun _ h9 => h9) rfl dX11_spare_17 ?_
  refine lv_iconst (v := 0) hx hb dX11_spare_20 (by decide) ?_
  obtain ⟨hg, hf⟩ := hf
  refine va_iald hx hb hK hP 1 0 rfl rfl hg dX11_spare_21 ?_
  refine lv_aload_n hx hb dX11_spare_22 rfl (lv_at hl 0 rfl) ?_
  refine z_cVi (As := []) (rest := [.int (u.2.1 (0 : Int32).toNatClampNeg), .int ((u.2.1 (0 : Int32).toNatClampNeg) - r_2)]) X (c_X11_freeOnes l dC dI cI cJ cS a u  _ hf) zc_X11_freeOnes q_ml_X11_60 ⟨rfl, rfl⟩ ⟨Nat.le_of_ble_eq_true rfl, Nat.le_of_ble_eq_true rfl⟩ hP [0, 1, 2, 3, 4, 5, 6, 7, 8] rfl 10 rfl rfl hl.1 rfl rfl (Nat.le_of_ble_eq_true rfl) ⟨Nat.zero_le _, Nat.zero_le _⟩ dX11_spare_23 (fun r_3 hf => ?_)
  refine lv_imul hx hb dX11_spare_26 ?_
  refine lv_iadd hx hb dX11_spare_27 ?_
  exact z_retPi X hf dX11_spare_28
def s_X11_spare (u : zModel) (Q : Int32 → Prop) : Prop := ∃ v : zState, mOk v u.2.1 ∧ Q (uSpare v)
theorem st_X11_spare {u : zModel} {Q : Int32 → Prop} (h : s_X11_spare u Q) : t_X11_spare u Q := by
  obtain ⟨v, hm, h⟩ := h
  have ho : oN v < 12 := hm.ok.1.2
  have hr := hm.2
  refine ⟨n_in0 (by decide) (by decide), v, hm, oN v, 2, ho, by decide, rfl, rfl, n_in0 (by decide) (by decide), v, hm, ?_⟩
  rw [n_c0, show u.2.1 0 = v.1.1 from hr.1 0 (by decide), show u.2.1 (66 + 3 * oN v + 2) = v.2.2.1.2.2.1 (oN v) from hr.2.1 (oN v) 2 ho (by decide)]
  show Q (v.1.1 - v.2.2.1.2.2.1 (oN v) + v.1.1 * nI (uFree v))
  rw [Int32.mul_comm v.1.1]
  exact h
theorem c_X11_spare (l : Launch) (dC : Nat → ClassId) (dI : Nat → Nat → Nat) (cI cJ cS : ClassId) (a : Nat → Nat) (u : zModel) (Q : Int32 → Prop) (hf : s_X11_spare u Q) : Met l yX11_spare (Cond.code yX11_spare cX11_spare 1 (some .int) :: zT) rm_X11_spare (zPp dC dI cI cJ cS (cl_X11 cI cJ a u) [.ref (a 0)]) (vp_Si Q) 0 0 (fun _ => False) := L_X11_spare l dC dI cI cJ cS a u Q (st_X11_spare hf)

def t_X11_liveInAll_e (u : zModel) (x1 : Int32) (K4 : Int32 → Int32 → Prop) (Q : Int32 → Prop) : Prop := K4 (0 : Int32) (0 : Int32)
def t_X11_liveInAll_4 (u : zModel) (x1 : Int32) (y2 : Int32) (y3 : Int32) (K4 : Int32 → Int32 → Prop) (Q : Int32 → Prop) : Prop := (((12 : Int32) ≤ y3 → Q y2) ∧ (¬ (12 : Int32) ≤ y3 → s_X11_liveOf u y3 x1 (fun r_3 : Int32 => ∀ x_4 : Int32, x_4 = (y2 + r_3) → ∀ x_5 : Int32, x_5 = y3 + (1 : Int32) → K4 x_4 x_5)))
theorem zc_X11_liveInAll : zCalV RX11 yX11_liveInAll cX11_liveInAll 4 (some .int) 1 := ⟨q_im_X11_liveInAll, q_se_X11_liveInAll, q_in_X11, q_cd_X11_liveInAll, ⟨by decide, by decide, by decide +kernel⟩, rfl⟩
abbrev rm_X11_liveInAll : Room := { frames := 6, cells := 0, slots := 0, locals := 135 }
def v_X11_liveInAll (u : zModel) (x1 : Int32) (Q : Int32 → Prop) : Prop := ∃ I4 : Nat → Int32 → Int32 → Prop, (∀ (n : Nat) (y2 : Int32) (y3 : Int32), I4 n y2 y3 → t_X11_liveInAll_4 u x1 y2 y3 (fun q0 q1 => ∃ k : Nat, k < n ∧ I4 k q0 q1) Q) ∧ t_X11_liveInAll_e u x1 (fun q0 q1 => ∃ k : Nat, I4 k q0 q1) Q
set_option maxHeartbeats 4000000 in
set_option maxRecDepth 100000 in
theorem L_X11_liveInAll (l : Launch) (dC : Nat → ClassId) (dI : Nat → Nat → Nat) (cI cJ cS : ClassId) (a : Nat → Nat) (u : zModel) (x1 : Int32) (Q : Int32 → Prop) (I4 : Nat → Int32 → Int32 → Prop) (h4 : ∀ (n : Nat) (y2 : Int32) (y3 : Int32), I4 n y2 y3 → t_X11_liveInAll_4 u x1 y2 y3 (fun q0 q1 => ∃ k : Nat, k < n ∧ I4 k q0 q1) Q) (hf : t_X11_liveInAll_e u x1 (fun q0 q1 => ∃ k : Nat, I4 k q0 q1) Q) : Met l yX11_liveInAll (Cond.code yX11_liveInAll cX11_liveInAll 4 (some .int) :: zT) rm_X11_liveInAll (zPp dC dI cI cJ cS (cl_X11 cI cJ a u) [.ref (a 0), .int x1]) (vp_Si Q) 0 0 (fun _ => False) := by
  refine z_enterP (cc := cX11_liveInAll) (maxL := 4) (ret := (some .int)) (by decide) (Nat.le_of_ble_eq_true rfl) ?_
  intro p e s m below meth c ls X hP hl
  obtain ⟨⟨hx, hb, hml, hown, hts⟩, hr, hlk, hK⟩ := id X
  have hl : lv_has ls 4 [(0, .ref (a 0)), (1, .int x1)] := hl
  have LP : ∀ n : Nat, (∀ (y2 : Int32) (y3 : Int32) (ls : Array Slot), I4 n y2 y3 → lv_has ls 4 [(0, .ref (a 0)), (1, .int x1), (2, .int y2), (3, .int y3)] → W p l e rm_X11_liveInAll s m [.ref (a 0), .int x1].toArray below meth c s.heap [] 0 0 (MQ below (vp_Si Q) [.ref (a 0), .int x1].toArray s 0 0 (fun _ => False)) (F0 m 4 ls [])) := by
    intro n
    induction n using Nat.strongRecOn with
    | _ n ih =>
      intro y2 y3 ls hI hl
      have hf := h4 n y2 y3 hI
      unfold t_X11_liveInAll_4 at hf
      refine lv_iload_n hx hb dX11_liveInAll_4 rfl (lv_at hl 3 rfl) ?_
      refine lv_bipush (v := 12) hx hb dX11_liveInAll_5 (by decide) ?_
      refine lv_icmp_ge (tgt := 25) hx hb dX11_liveInAll_7 (by decide) (fun c_2 => ?_) (fun c_2 => ?_)
      · have hf := hf.1 c_2
        refine lv_iload_n hx hb dX11_liveInAll_25 rfl (lv_at hl 2 rfl) ?_
        exact z_retPi X hf dX11_liveInAll_26
      · have hf := hf.2 c_2
        refine lv_iload_n hx hb dX11_liveInAll_10 rfl (lv_at hl 2 rfl) ?_
        refine lv_aload_n hx hb dX11_liveInAll_11 rfl (lv_at hl 0 rfl) ?_
        refine lv_iload_n hx hb dX11_liveInAll_12 rfl (lv_at hl 3 rfl) ?_
        refine lv_iload_n hx hb dX11_liveInAll_13 rfl (lv_at hl 1 rfl) ?_
        refine z_cVi (As := [.int y3, .int x1]) (rest := [.int y2]) X (c_X11_liveOf l dC dI cI cJ cS a u y3 x1 _ hf) zc_X11_liveOf q_ml_X11_130 ⟨rfl, rfl⟩ ⟨Nat.le_of_ble_eq_true rfl, Nat.le_of_ble_eq_true rfl⟩ hP [0, 1, 2, 3, 4, 5, 6, 7, 8] rfl 10 rfl rfl hl.1 rfl rfl (Nat.le_of_ble_eq_true rfl) ⟨Nat.zero_le _, Nat.zero_le _⟩ dX11_liveInAll_14 (fun r_3 hf => ?_)
        refine lv_iadd hx hb dX11_liveInAll_17 ?_
        refine lv_topi (fun x_4 ex_4 => ?_)
        have hf := hf x_4 ex_4
        refine lv_istore_n (lv' := [(2, .int x_4), (0, .ref (a 0)), (1, .int x1), (3, .int y3)]) hx hb dX11_liveInAll_18 rfl hl (by decide) rfl (fun ls hl => ?_)
        obtain ⟨x_5, ex_5⟩ : ∃ y : Int32, y = y3 + (1 : Int32) := ⟨_, rfl⟩
        have hf := hf x_5 ex_5
        refine lv_iinc (v := x_5) (lv' := [(3, .int x_5), (2, .int x_4), (0, .ref (a 0)), (1, .int x1)]) hx hb dX11_liveInAll_19 hl (k := 3) rfl (by rw [ex_5]; rfl) (by decide) rfl (fun ls hl => ?_)
        refine lv_goto (tgt := 4) hx hb dX11_liveInAll_22 (by decide) ?_
        obtain ⟨k_6, hk_6, hf⟩ := hf
        exact (ih k_6 hk_6) _ _ ls hf (lv_sub hl [2, 3, 1, 0] rfl)
  unfold t_X11_liveInAll_e at hf
  refine lv_iconst (v := 0) hx hb dX11_liveInAll_0 (by decide) ?_
  refine lv_istore_n (lv' := [(2, .int (0 : Int32)), (0, .ref (a 0)), (1, .int x1)]) hx hb dX11_liveInAll_1 rfl hl (by decide) rfl (fun ls hl => ?_)
  refine lv_iconst (v := 0) hx hb dX11_liveInAll_2 (by decide) ?_
  refine lv_istore_n (lv' := [(3, .int (0 : Int32)), (2, .int (0 : Int32)), (0, .ref (a 0)), (1, .int x1)]) hx hb dX11_liveInAll_3 rfl hl (by decide) rfl (fun ls hl => ?_)
  obtain ⟨k_1, hf⟩ := hf
  exact (LP k_1) _ _ ls hf (lv_sub hl [2, 3, 1, 0] rfl)
def s_X11_liveInAll (u : zModel) (x1 : Int32) (Q : Int32 → Prop) : Prop := ∃ v : zState, mOk v u.2.1 ∧ ((x1 = 1 ∧ Q (l_sum (uLive v) 12)) ∨ (x1 = 0 ∧ Q (l_sum (fun s => v.2.2.1.2.2.1 s - uLive v s) 12)))
theorem st_X11_liveInAll {u : zModel} {x1 : Int32} {Q : Int32 → Prop} (h : s_X11_liveInAll u x1 Q) : v_X11_liveInAll u x1 Q := by
  obtain ⟨v, hm, h⟩ := h
  rcases h with ⟨rfl, h⟩ | ⟨rfl, h⟩
  · refine zlp2 (T := fun y y' K => t_X11_liveInAll_4 u 1 y y' K Q) (E := fun K => t_X11_liveInAll_e u 1 K Q) 12 (fun i => l_sum (uLive v) i) (fun i => nI i) (fun K hK => hK) ?_ ?_
    · intro i hi K hK
      refine ⟨fun c => absurd c (ge12 hi), fun _ => ⟨v, i, hm, hi, rfl, Or.inl ⟨rfl, fun x e x' e' => ?_⟩⟩⟩
      rw [e, e', nI_1]; exact hK
    · intro K
      exact ⟨fun _ => h, fun c => absurd (le12 (Nat.le_refl _) (by decide)) c⟩
  · refine zlp2 (T := fun y y' K => t_X11_liveInAll_4 u 0 y y' K Q) (E := fun K => t_X11_liveInAll_e u 0 K Q) 12 (fun i => l_sum (fun s => v.2.2.1.2.2.1 s - uLive v s) i) (fun i => nI i) (fun K hK => hK) ?_ ?_
    · intro i hi K hK
      refine ⟨fun c => absurd c (ge12 hi), fun _ => ⟨v, i, hm, hi, rfl, Or.inr ⟨rfl, fun x e x' e' => ?_⟩⟩⟩
      rw [e, e', nI_1]; exact hK
    · intro K
      exact ⟨fun _ => h, fun c => absurd (le12 (Nat.le_refl _) (by decide)) c⟩
theorem c_X11_liveInAll (l : Launch) (dC : Nat → ClassId) (dI : Nat → Nat → Nat) (cI cJ cS : ClassId) (a : Nat → Nat) (u : zModel) (x1 : Int32) (Q : Int32 → Prop) (hf : s_X11_liveInAll u x1 Q) : Met l yX11_liveInAll (Cond.code yX11_liveInAll cX11_liveInAll 4 (some .int) :: zT) rm_X11_liveInAll (zPp dC dI cI cJ cS (cl_X11 cI cJ a u) [.ref (a 0), .int x1]) (vp_Si Q) 0 0 (fun _ => False) := by
  obtain ⟨I4, h4, hf⟩ := st_X11_liveInAll hf
  exact L_X11_liveInAll l dC dI cI cJ cS a u x1 Q I4 h4 hf

def t_X11_valuesBelow_e (u : zModel) (x1 : Int32) (K4 : Int32 → Int32 → Prop) (Q : Int32 → Prop) : Prop := K4 (0 : Int32) (0 : Int32)
def t_X11_valuesBelow_4 (u : zModel) (x1 : Int32) (y2 : Int32) (y3 : Int32) (K4 : Int32 → Int32 → Prop) (Q : Int32 → Prop) : Prop := ((x1 ≤ y3 → Q y2) ∧ (¬ x1 ≤ y3 → s_X11_hasValue u y3 (fun r_3 : Int32 => ((r_3 = 0 → ∀ x_5 : Int32, x_5 = (y2 + (0 : Int32)) → ∀ x_6 : Int32, x_6 = y3 + (1 : Int32) → K4 x_5 x_6) ∧ (¬ r_3 = 0 → ∀ x_8 : Int32, x_8 = (y2 + (1 : Int32)) → ∀ x_9 : Int32, x_9 = y3 + (1 : Int32) → K4 x_8 x_9)))))
theorem zc_X11_valuesBelow : zCalV RX11 yX11_valuesBelow cX11_valuesBelow 4 (some .int) 1 := ⟨q_im_X11_valuesBelow, q_se_X11_valuesBelow, q_in_X11, q_cd_X11_valuesBelow, ⟨by decide, by decide, by decide +kernel⟩, rfl⟩
abbrev rm_X11_valuesBelow : Room := { frames := 5, cells := 0, slots := 0, locals := 109 }
def v_X11_valuesBelow (u : zModel) (x1 : Int32) (Q : Int32 → Prop) : Prop := ∃ I4 : Nat → Int32 → Int32 → Prop, (∀ (n : Nat) (y2 : Int32) (y3 : Int32), I4 n y2 y3 → t_X11_valuesBelow_4 u x1 y2 y3 (fun q0 q1 => ∃ k : Nat, k < n ∧ I4 k q0 q1) Q) ∧ t_X11_valuesBelow_e u x1 (fun q0 q1 => ∃ k : Nat, I4 k q0 q1) Q
set_option maxHeartbeats 4000000 in
set_option maxRecDepth 100000 in
theorem L_X11_valuesBelow (l : Launch) (dC : Nat → ClassId) (dI : Nat → Nat → Nat) (cI cJ cS : ClassId) (a : Nat → Nat) (u : zModel) (x1 : Int32) (Q : Int32 → Prop) (I4 : Nat → Int32 → Int32 → Prop) (h4 : ∀ (n : Nat) (y2 : Int32) (y3 : Int32), I4 n y2 y3 → t_X11_valuesBelow_4 u x1 y2 y3 (fun q0 q1 => ∃ k : Nat, k < n ∧ I4 k q0 q1) Q) (hf : t_X11_valuesBelow_e u x1 (fun q0 q1 => ∃ k : Nat, I4 k q0 q1) Q) : Met l yX11_valuesBelow (Cond.code yX11_valuesBelow cX11_valuesBelow 4 (some .int) :: zT) rm_X11_valuesBelow (zPp dC dI cI cJ cS (cl_X11 cI cJ a u) [.ref (a 0), .int x1]) (vp_Si Q) 0 0 (fun _ => False) := by
  refine z_enterP (cc := cX11_valuesBelow) (maxL := 4) (ret := (some .int)) (by decide) (Nat.le_of_ble_eq_true rfl) ?_
  intro p e s m below meth c ls X hP hl
  obtain ⟨⟨hx, hb, hml, hown, hts⟩, hr, hlk, hK⟩ := id X
  have hl : lv_has ls 4 [(0, .ref (a 0)), (1, .int x1)] := hl
  have LP : ∀ n : Nat, (∀ (y2 : Int32) (y3 : Int32) (ls : Array Slot), I4 n y2 y3 → lv_has ls 4 [(0, .ref (a 0)), (1, .int x1), (2, .int y2), (3, .int y3)] → W p l e rm_X11_valuesBelow s m [.ref (a 0), .int x1].toArray below meth c s.heap [] 0 0 (MQ below (vp_Si Q) [.ref (a 0), .int x1].toArray s 0 0 (fun _ => False)) (F0 m 4 ls [])) := by
    intro n
    induction n using Nat.strongRecOn with
    | _ n ih =>
      intro y2 y3 ls hI hl
      have hf := h4 n y2 y3 hI
      unfold t_X11_valuesBelow_4 at hf
      refine lv_iload_n hx hb dX11_valuesBelow_4 rfl (lv_at hl 3 rfl) ?_
      refine lv_iload_n hx hb dX11_valuesBelow_5 rfl (lv_at hl 1 rfl) ?_
      refine lv_icmp_ge (tgt := 31) hx hb dX11_valuesBelow_6 (by decide) (fun c_2 => ?_) (fun c_2 => ?_)
      · have hf := hf.1 c_2
        refine lv_iload_n hx hb dX11_valuesBelow_31 rfl (lv_at hl 2 rfl) ?_
        exact z_retPi X hf dX11_valuesBelow_32
      · have hf := hf.2 c_2
        refine lv_iload_n hx hb dX11_valuesBelow_9 rfl (lv_at hl 2 rfl) ?_
        refine lv_aload_n hx hb dX11_valuesBelow_10 rfl (lv_at hl 0 rfl) ?_
        refine lv_iload_n hx hb dX11_valuesBelow_11 rfl (lv_at hl 3 rfl) ?_
        refine z_cVi (As := [.int y3]) (rest := [.int y2]) X (c_X11_hasValue l dC dI cI cJ cS a u y3 _ hf) zc_X11_hasValue q_ml_X11_81 ⟨rfl, rfl⟩ ⟨Nat.le_of_ble_eq_true rfl, Nat.le_of_ble_eq_true rfl⟩ hP [0, 1, 2, 3, 4, 5, 6, 7, 8] rfl 10 rfl rfl hl.1 rfl rfl (Nat.le_of_ble_eq_true rfl) ⟨Nat.zero_le _, Nat.zero_le _⟩ dX11_valuesBelow_12 (fun r_3 hf => ?_)
        obtain ⟨hbr_3, hf⟩ := hf
        refine lv_if_eq (tgt := 22) hx hb dX11_valuesBelow_15 (by decide) (fun c_4 => ?_) (fun c_4 => ?_)
        · have hf := hf.1 c_4
          refine lv_iconst (v := 0) hx hb dX11_valuesBelow_22 (by decide) ?_
          refine lv_iadd hx hb dX11_valuesBelow_23 ?_
          refine lv_topi (fun x_5 ex_5 => ?_)
          have hf := hf x_5 ex_5
          refine lv_istore_n (lv' := [(2, .int x_5), (0, .ref (a 0)), (1, .int x1), (3, .int y3)]) hx hb dX11_valuesBelow_24 rfl hl (by decide) rfl (fun ls hl => ?_)
          obtain ⟨x_6, ex_6⟩ : ∃ y : Int32, y = y3 + (1 : Int32) := ⟨_, rfl⟩
          have hf := hf x_6 ex_6
          refine lv_iinc (v := x_6) (lv' := [(3, .int x_6), (2, .int x_5), (0, .ref (a 0)), (1, .int x1)]) hx hb dX11_valuesBelow_25 hl (k := 3) rfl (by rw [ex_6]; rfl) (by decide) rfl (fun ls hl => ?_)
          refine lv_goto (tgt := 4) hx hb dX11_valuesBelow_28 (by decide) ?_
          obtain ⟨k_7, hk_7, hf⟩ := hf
          exact (ih k_7 hk_7) _ _ ls hf (lv_sub hl [2, 3, 1, 0] rfl)
        · have hf := hf.2 c_4
          refine lv_iconst (v := 1) hx hb dX11_valuesBelow_18 (by decide) ?_
          refine lv_goto (tgt := 23) hx hb dX11_valuesBelow_19 (by decide) ?_
          refine lv_iadd hx hb dX11_valuesBelow_23 ?_
          refine lv_topi (fun x_8 ex_8 => ?_)
          have hf := hf x_8 ex_8
          refine lv_istore_n (lv' := [(2, .int x_8), (0, .ref (a 0)), (1, .int x1), (3, .int y3)]) hx hb dX11_valuesBelow_24 rfl hl (by decide) rfl (fun ls hl => ?_)
          obtain ⟨x_9, ex_9⟩ : ∃ y : Int32, y = y3 + (1 : Int32) := ⟨_, rfl⟩
          have hf := hf x_9 ex_9
          refine lv_iinc (v := x_9) (lv' := [(3, .int x_9), (2, .int x_8), (0, .ref (a 0)), (1, .int x1)]) hx hb dX11_valuesBelow_25 hl (k := 3) rfl (by rw [ex_9]; rfl) (by decide) rfl (fun ls hl => ?_)
          refine lv_goto (tgt := 4) hx hb dX11_valuesBelow_28 (by decide) ?_
          obtain ⟨k_10, hk_10, hf⟩ := hf
          exact (ih k_10 hk_10) _ _ ls hf (lv_sub hl [2, 3, 1, 0] rfl)
  unfold t_X11_valuesBelow_e at hf
  refine lv_iconst (v := 0) hx hb dX11_valuesBelow_0 (by decide) ?_
  refine lv_istore_n (lv' := [(2, .int (0 : Int32)), (0, .ref (a 0)), (1, .int x1)]) hx hb dX11_valuesBelow_1 rfl hl (by decide) rfl (fun ls hl => ?_)
  refine lv_iconst (v := 0) hx hb dX11_valuesBelow_2 (by decide) ?_
  refine lv_istore_n (lv' := [(3, .int (0 : Int32)), (2, .int (0 : Int32)), (0, .ref (a 0)), (1, .int x1)]) hx hb dX11_valuesBelow_3 rfl hl (by decide) rfl (fun ls hl => ?_)
  obtain ⟨k_1, hf⟩ := hf
  exact (LP k_1) _ _ ls hf (lv_sub hl [2, 3, 1, 0] rfl)
def s_X11_valuesBelow (u : zModel) (x1 : Int32) (Q : Int32 → Prop) : Prop := ∃ (v : zState) (k : Nat), mOk v u.2.1 ∧ k ≤ 64 ∧ x1 = nI k ∧ Q (nI (fa_cnt (uVal v) k))
theorem st_X11_valuesBelow {u : zModel} {x1 : Int32} {Q : Int32 → Prop} (h : s_X11_valuesBelow u x1 Q) : v_X11_valuesBelow u x1 Q := by
  obtain ⟨v, k, hm, hk, rfl, h⟩ := h
  refine zlp2 (T := fun y y' K => t_X11_valuesBelow_4 u (nI k) y y' K Q) (E := fun K => t_X11_valuesBelow_e u (nI k) K Q) k (fun i => nI (fa_cnt (uVal v) i)) (fun i => nI i) (fun K hK => hK) ?_ ?_
  · intro i hi K hK
    refine ⟨fun c => absurd c (nI_ge hi (by omega)), fun _ => ⟨v, i, hm, by omega, rfl, fun d => ⟨fun q => absurd q (by decide), fun _ x e x' e' => ?_⟩, fun d => ⟨fun _ x e x' e' => ?_, fun q => absurd rfl q⟩⟩⟩
    · rw [e, e', nI_1, nI_1]
      rw [fa_cnt_yes (p := uVal v) d] at hK; exact hK
    · rw [e, e', nI_1, Int32.add_zero]
      rw [fa_cnt_no (p := uVal v) d] at hK; exact hK
  · intro K
    exact ⟨fun _ => h, fun c => absurd (nI_le (Nat.le_refl _) (by omega)) c⟩
theorem c_X11_valuesBelow (l : Launch) (dC : Nat → ClassId) (dI : Nat → Nat → Nat) (cI cJ cS : ClassId) (a : Nat → Nat) (u : zModel) (x1 : Int32) (Q : Int32 → Prop) (hf : s_X11_valuesBelow u x1 Q) : Met l yX11_valuesBelow (Cond.code yX11_valuesBelow cX11_valuesBelow 4 (some .int) :: zT) rm_X11_valuesBelow (zPp dC dI cI cJ cS (cl_X11 cI cJ a u) [.ref (a 0), .int x1]) (vp_Si Q) 0 0 (fun _ => False) := by
  obtain ⟨I4, h4, hf⟩ := st_X11_valuesBelow hf
  exact L_X11_valuesBelow l dC dI cI cJ cS a u x1 Q I4 h4 hf

def t_X11_costOf (u : zModel) (x1 : Int32) (Q : Int32 → Prop) : Prop := s_X11_tableOf u x1 (fun r_1 : Int32 => ((¬ r_1 = (-1 : Int32) → s_X11_current u x1 (1 : Int32) (fun r_3 : Int32 => ((¬ r_3 = (3 : Int32) → Q (((1 : Int32) + r_1) + (0 : Int32))) ∧ (r_3 = (3 : Int32) → Q (((1 : Int32) + r_1) + (1 : Int32)))))) ∧ (r_1 = (-1 : Int32) → vp_in (4 : Int32) 5497 ∧ Q ((1 : Int32) + (u.2.1 (4 : Int32).toNatClampNeg)))))
theorem zc_X11_costOf : zCalV RX11 yX11_costOf cX11_costOf 3 (some .int) 1 := ⟨q_im_X11_costOf, q_se_X11_costOf, q_in_X11, q_cd_X11_costOf, ⟨by decide, by decide, by decide +kernel⟩, rfl⟩
abbrev rm_X11_costOf : Room := { frames := 4, cells := 0, slots := 0, locals := 88 }
set_option maxHeartbeats 4000000 in
set_option maxRecDepth 100000 in
theorem L_X11_costOf (l : Launch) (dC : Nat → ClassId) (dI : Nat → Nat → Nat) (cI cJ cS : ClassId) (a : Nat → Nat) (u : zModel) (x1 : Int32) (Q : Int32 → Prop) (hf : t_X11_costOf u x1 Q) : Met l yX11_costOf (Cond.code yX11_costOf cX11_costOf 3 (some .int) :: zT) rm_X11_costOf (zPp dC dI cI cJ cS (cl_X11 cI cJ a u) [.ref (a 0), .int x1]) (vp_Si Q) 0 0 (fun _ => False) := by
  refine z_enterP (cc := cX11_costOf) (maxL := 3) (ret := (some .int)) (by decide) (Nat.le_of_ble_eq_true rfl) ?_
  intro p e s m below meth c ls X hP hl
  obtain ⟨⟨hx, hb, hml, hown, hts⟩, hr, hlk, hK⟩ := id X
  have hl : lv_has ls 3 [(0, .ref (a 0)), (1, .int x1)] := hl
  unfold t_X11_costOf at hf
  refine lv_aload_n hx hb dX11_costOf_0 rfl (lv_at hl 0 rfl) ?_
  refine lv_iload_n hx hb dX11_costOf_1 rfl (lv_at hl 1 rfl) ?_
  refine z_cVi (As := [.int x1]) (rest := []) X (c_X11_tableOf l dC dI cI cJ cS a u x1 _ hf) zc_X11_tableOf q_ml_X11_70 ⟨rfl, rfl⟩ ⟨Nat.le_of_ble_eq_true rfl, Nat.le_of_ble_eq_true rfl⟩ hP [0, 1, 2, 3, 4, 5, 6, 7, 8] rfl 10 rfl rfl hl.1 rfl rfl (Nat.le_of_ble_eq_true rfl) ⟨Nat.zero_le _, Nat.zero_le _⟩ dX11_costOf_2 (fun r_1 hf => ?_)
  refine lv_istore_n (lv' := [(2, .int r_1), (0, .ref (a 0)), (1, .int x1)]) hx hb dX11_costOf_5 rfl hl (by decide) rfl (fun ls hl => ?_)
  refine lv_iload_n hx hb dX11_costOf_6 rfl (lv_at hl 0 rfl) ?_
  refine lv_iconst (v := (-1)) hx hb dX11_costOf_7 (by decide) ?_
  refine lv_icmp_ne (tgt := 20) hx hb dX11_costOf_8 (by decide) (fun c_2 => ?_) (fun c_2 => ?_)
  · have hf := hf.1 c_2
    refine lv_iconst (v := 1) hx hb dX11_costOf_20 (by decide) ?_
    refine lv_iload_n hx hb dX11_costOf_21 rfl (lv_at hl 0 rfl) ?_
    refine lv_iadd hx hb dX11_costOf_22 ?_
    refine lv_aload_n hx hb dX11_costOf_23 rfl (lv_at hl 1 rfl) ?_
    refine lv_iload_n hx hb dX11_costOf_24 rfl (lv_at hl 2 rfl) ?_
    refine lv_iconst (v := 1) hx hb dX11_costOf_25 (by decide) ?_
    refine z_cVi (As := [.int x1, .int (1 : Int32)]) (rest := [.int ((1 : Int32) + r_1)]) X (c_X11_current l dC dI cI cJ cS a u x1 (1 : Int32) _ hf) zc_X11_current q_ml_X11_74 ⟨rfl, rfl⟩ ⟨Nat.le_of_ble_eq_true rfl, Nat.le_of_ble_eq_true rfl⟩ hP [0, 1, 2, 3, 4, 5, 6, 7, 8] rfl 10 rfl rfl hl.1 rfl rfl (Nat.le_of_ble_eq_true rfl) ⟨Nat.zero_le _, Nat.zero_le _⟩ dX11_costOf_26 (fun r_3 hf => ?_)
    refine lv_iconst (v := 3) hx hb dX11_costOf_29 (by decide) ?_
    refine lv_icmp_ne (tgt := 37) hx hb dX11_costOf_30 (by decide) (fun c_4 => ?_) (fun c_4 => ?_)
    · have hf := hf.1 c_4
      refine lv_iconst (v := 0) hx hb dX11_costOf_37 (by decide) ?_
      refine lv_iadd hx hb dX11_costOf_38 ?_
      exact z_retPi X hf dX11_costOf_39
    · have hf := hf.2 c_4
      refine lv_iconst (v := 1) hx hb dX11_costOf_33 (by decide) ?_
      refine lv_goto (tgt := 38) hx hb dX11_costOf_34 (by decide) ?_
      refine lv_iadd hx hb dX11_costOf_38 ?_
      exact z_retPi X hf dX11_costOf_39
  · have hf := hf.2 c_2
    refine lv_iconst (v := 1) hx hb dX11_costOf_11 (by decide) ?_
    refine lv_aload_n hx hb dX11_costOf_12 rfl (lv_at hl 1 rfl) ?_
    refine va_get (D := (dC, dI)) (ci := 10) (v := .ref (a 1)) (C := RX11) (T := TX11) (N := 17) hx hb hts inX11 hown hK hP 0 rfl rfl 1 (by decide) (hts _ q_fl_X11_7) (fun _ h9 => h9) rfl dX11_costOf_13 ?_
    refine lv_iconst (v := 4) hx hb dX11_costOf_16 (by decide) ?_
    obtain ⟨hg, hf⟩ := hf
    refine va_iald hx hb hK hP 1 0 rfl rfl hg dX11_costOf_17 ?_
    refine lv_iadd hx hb dX11_costOf_18 ?_
    exact z_retPi X hf dX11_costOf_19
def s_X11_costOf (u : zModel) (x1 : Int32) (Q : Int32 → Prop) : Prop := ∃ (v : zState) (k : Nat), mOk v u.2.1 ∧ k < 64 ∧ x1 = nI k ∧ Q (uCost v k)
theorem st_X11_costOf {u : zModel} {x1 : Int32} {Q : Int32 → Prop} (h : s_X11_costOf u x1 Q) : t_X11_costOf u x1 Q := by
  obtain ⟨v, k, hm, hk, rfl, h⟩ := h
  unfold uCost at h
  refine ⟨v, k, hm, hk, rfl, fun c => ⟨v, k, 1, hm, hk, by decide, rfl, rfl, ?_⟩, fun c => ⟨vp_in_nI (n := 4) (by decide) (by decide), ?_⟩⟩
  · rw [if_neg c] at h
    rw [curF_1]
    refine ⟨fun d => ?_, fun d => ?_⟩
    · rw [if_neg d] at h; exact h
    · rw [if_pos d] at h; exact h
  · rw [if_pos c] at h
    rw [n_c4, show u.2.1 4 = v.2.2.2.1.2.2 from hm.2.1 4 (by decide)]; exact h
theorem c_X11_costOf (l : Launch) (dC : Nat → ClassId) (dI : Nat → Nat → Nat) (cI cJ cS : ClassId) (a : Nat → Nat) (u : zModel) (x1 : Int32) (Q : Int32 → Prop) (hf : s_X11_costOf u x1 Q) : Met l yX11_costOf (Cond.code yX11_costOf cX11_costOf 3 (some .int) :: zT) rm_X11_costOf (zPp dC dI cI cJ cS (cl_X11 cI cJ a u) [.ref (a 0), .int x1]) (vp_Si Q) 0 0 (fun _ => False) := L_X11_costOf l dC dI cI cJ cS a u x1 Q (st_X11_costOf hf)
