def t_X11_allRows_e (u : zModel) (K4 : Int32 → Int32 → Prop) (Q : Int32 → Prop) : Prop := K4 (0 : Int32) (1 : Int32)
def t_X11_allRows_4 (u : zModel) (y1 : Int32) (y2 : Int32) (K4 : Int32 → Int32 → Prop) (Q : Int32 → Prop) : Prop := vp_in (4 : Int32) 5497 ∧ (((u.2.1 (4 : Int32).toNatClampNeg) < y2 → Q y1) ∧ (¬ (u.2.1 (4 : Int32).toNatClampNeg) < y2 → s_X11_entries u y2 (fun r_3 : Int32 => ∀ x_4 : Int32, x_4 = (y1 + r_3) → ∀ x_5 : Int32, x_5 = y2 + (1 : Int32) → K4 x_4 x_5)))
theorem zc_X11_allRows : zCalV RX11 yX11_allRows cX11_allRows 3 (some .int) 0 := ⟨q_im_X11_allRows, q_se_X11_allRows, q_in_X11, q_cd_X11_allRows, ⟨by decide, by decide, by decide +kernel⟩, rfl⟩
abbrev rm_X11_allRows : Room := { frames := 3, cells := 0, slots := 0, locals := 66 }
def v_X11_allRows (u : zModel) (Q : Int32 → Prop) : Prop := ∃ I4 : Nat → Int32 → Int32 → Prop, (∀ (n : Nat) (y1 : Int32) (y2 : Int32), I4 n y1 y2 → t_X11_allRows_4 u y1 y2 (fun q0 q1 => ∃ k : Nat, k < n ∧ I4 k q0 q1) Q) ∧ t_X11_allRows_e u (fun q0 q1 => ∃ k : Nat, I4 k q0 q1) Q
set_option maxHeartbeats 4000000 in
set_option maxRecDepth 100000 in
theorem L_X11_allRows (l : Launch) (dC : Nat → ClassId) (dI : Nat → Nat → Nat) (cI cJ cS : ClassId) (a : Nat → Nat) (u : zModel) (Q : Int32 → Prop) (I4 : Nat → Int32 → Int32 → Prop) (h4 : ∀ (n : Nat) (y1 : Int32) (y2 : Int32), I4 n y1 y2 → t_X11_allRows_4 u y1 y2 (fun q0 q1 => ∃ k : Nat, k < n ∧ I4 k q0 q1) Q) (hf : t_X11_allRows_e u (fun q0 q1 => ∃ k : Nat, I4 k q0 q1) Q) : Met l yX11_allRows (Cond.code yX11_allRows cX11_allRows 3 (some .int) :: zT) rm_X11_allRows (zPp dC dI cI cJ cS (cl_X11 cI cJ a u) [.ref (a 0)]) (vp_Si Q) 0 0 (fun _ => False) := by
  refine z_enterP (cc := cX11_allRows) (maxL := 3) (ret := (some .int)) (by decide) (Nat.le_of_ble_eq_true rfl) ?_
  intro p e s m below meth c ls X hP hl
  obtain ⟨⟨hx, hb, hml, hown, hts⟩, hr, hlk, hK⟩ := id X
  have hl : lv_has ls 3 [(0, .ref (a 0))] := hl
  have LP : ∀ n : Nat, (∀ (y1 : Int32) (y2 : Int32) (ls : Array Slot), I4 n y1 y2 → lv_has ls 3 [(0, .ref (a 0)), (1, .int y1), (2, .int y2)] → W p l e rm_X11_allRows s m [.ref (a 0)].toArray below meth c s.heap [] 0 0 (MQ below (vp_Si Q) [.ref (a 0)].toArray s 0 0 (fun _ => False)) (F0 m 4 ls [])) := by
    intro n
    induction n using Nat.strongRecOn with
    | _ n ih =>
      intro y1 y2 ls hI hl
      have hf := h4 n y1 y2 hI
      unfold t_X11_allRows_4 at hf
      refine lv_iload_n hx hb dX11_allRows_4 rfl (lv_at hl 2 rfl) ?_
      refine lv_aload_n hx hb dX11_allRows_5 rfl (lv_at hl 0 rfl) ?_
      refine va_get (D := (dC, dI)) (ci := 10) (v := .ref (a 1)) (C := RX11) (T := TX11) (N := 17) hx hb hts inX11 hown hK hP 0 rfl rfl 1 (by decide) (hts _ q_fl_X11_7) (fun _ h9 => h9) rfl dX11_allRows_6 ?_
      refine lv_iconst (v := 4) hx hb dX11_allRows_9 (by decide) ?_
      obtain ⟨hg, hf⟩ := hf
      refine va_iald hx hb hK hP 1 0 rfl rfl hg dX11_allRows_10 ?_
      refine lv_icmp_gt (tgt := 28) hx hb dX11_allRows_11 (by decide) (fun c_2 => ?_) (fun c_2 => ?_)
      · have hf := hf.1 c_2
        refine lv_iload_n hx hb dX11_allRows_28 rfl (lv_at hl 1 rfl) ?_
        exact z_retPi X hf dX11_allRows_29
      · have hf := hf.2 c_2
        refine lv_iload_n hx hb dX11_allRows_14 rfl (lv_at hl 1 rfl) ?_
        refine lv_aload_n hx hb dX11_allRows_15 rfl (lv_at hl 0 rfl) ?_
        refine lv_iload_n hx hb dX11_allRows_16 rfl (lv_at hl 2 rfl) ?_
        refine z_cVi (As := [.int y2]) (rest := [.int y1]) X (c_X11_entries l dC dI cI cJ cS a u y2 _ hf) zc_X11_entries q_ml_X11_108 ⟨rfl, rfl⟩ ⟨Nat.le_of_ble_eq_true rfl, Nat.le_of_ble_eq_true rfl⟩ hP [0, 1, 2, 3, 4, 5, 6, 7, 8] rfl 10 rfl rfl hl.1 rfl rfl (Nat.le_of_ble_eq_true rfl) ⟨Nat.zero_le _, Nat.zero_le _⟩ dX11_allRows_17 (fun r_3 hf => ?_)
        refine lv_iadd hx hb dX11_allRows_20 ?_
        refine lv_topi (fun x_4 ex_4 => ?_)
        have hf := hf x_4 ex_4
        refine lv_istore_n (lv' := [(1, .int x_4), (0, .ref (a 0)), (2, .int y2)]) hx hb dX11_allRows_21 rfl hl (by decide) rfl (fun ls hl => ?_)
        obtain ⟨x_5, ex_5⟩ : ∃ y : Int32, y = y2 + (1 : Int32) := ⟨_, rfl⟩
        have hf := hf x_5 ex_5
        refine lv_iinc (v := x_5) (lv' := [(2, .int x_5), (1, .int x_4), (0, .ref (a 0))]) hx hb dX11_allRows_22 hl (k := 2) rfl (by rw [ex_5]; rfl) (by decide) rfl (fun ls hl => ?_)
        refine lv_goto (tgt := 4) hx hb dX11_allRows_25 (by decide) ?_
        obtain ⟨k_6, hk_6, hf⟩ := hf
        exact (ih k_6 hk_6) _ _ ls hf (lv_sub hl [2, 1, 0] rfl)
  unfold t_X11_allRows_e at hf
  refine lv_iconst (v := 0) hx hb dX11_allRows_0 (by decide) ?_
  refine lv_istore_n (lv' := [(1, .int (0 : Int32)), (0, .ref (a 0))]) hx hb dX11_allRows_1 rfl hl (by decide) rfl (fun ls hl => ?_)
  refine lv_iconst (v := 1) hx hb dX11_allRows_2 (by decide) ?_
  refine lv_istore_n (lv' := [(2, .int (1 : Int32)), (1, .int (0 : Int32)), (0, .ref (a 0))]) hx hb dX11_allRows_3 rfl hl (by decide) rfl (fun ls hl => ?_)
  obtain ⟨k_1, hf⟩ := hf
  exact (LP k_1) _ _ ls hf (lv_sub hl [2, 1, 0] rfl)
def s_X11_allRows (u : zModel) (Q : Int32 → Prop) : Prop := ∃ v : zState, mOk v u.2.1 ∧ Q (l_sum (fun i => v.2.2.2.1.2.1 (i + 1)) (rN v))
theorem st_X11_allRows {u : zModel} {Q : Int32 → Prop} (h : s_X11_allRows u Q) : v_X11_allRows u Q := by
  obtain ⟨v, hm, h⟩ := h
  have ho := hm.ok
  obtain ⟨⟨ρ, β, mo, lm, L, S, M, B, hP⟩, hr⟩ := id hm
  have ht := hP.2.2.2.2.2.2.1
  have hR : rN v < 6 := ho.2.1.2
  have e4 : u.2.1 4 = nI (rN v) := (hr.1 4 (by decide)).trans ho.r
  refine zlp2 (T := fun y y' K => t_X11_allRows_4 u y y' K Q) (E := fun K => t_X11_allRows_e u K Q) (rN v) (fun i => l_sum (fun i => v.2.2.2.1.2.1 (i + 1)) i) (fun i => nI (i + 1)) (fun K hK => hK) ?_ ?_
  · intro i hi K hK
    refine ⟨vp_in_nI (n := 4) (by decide) (by decide), ?_⟩
    rw [n_c4, e4]
    refine ⟨fun c => absurd c (nI_nlt (by omega) (by omega)), fun _ => ⟨i + 1, by omega, rfl, fun x e x' e' => ?_⟩⟩
    rw [entries_rel hr (show i + 1 ≤ rN v by omega), ← ht.2.2.2 (i + 1) (show i + 1 ≤ rN v by omega)] at e
    rw [e, e', nI_1]; exact hK
  · intro K
    refine ⟨vp_in_nI (n := 4) (by decide) (by decide), ?_⟩
    rw [n_c4, e4]
    exact ⟨fun _ => h, fun c => absurd (nI_lt (Nat.lt_succ_self _) (by omega)) c⟩
theorem c_X11_allRows (l : Launch) (dC : Nat → ClassId) (dI : Nat → Nat → Nat) (cI cJ cS : ClassId) (a : Nat → Nat) (u : zModel) (Q : Int32 → Prop) (hf : s_X11_allRows u Q) : Met l yX11_allRows (Cond.code yX11_allRows cX11_allRows 3 (some .int) :: zT) rm_X11_allRows (zPp dC dI cI cJ cS (cl_X11 cI cJ a u) [.ref (a 0)]) (vp_Si Q) 0 0 (fun _ => False) := by
  obtain ⟨I4, h4, hf⟩ := st_X11_allRows hf
  exact L_X11_allRows l dC dI cI cJ cS a u Q I4 h4 hf

def t_X11_entriesOf_e (u : zModel) (x1 : Int32) (K4 : Int32 → Int32 → Prop) (Q : Int32 → Prop) : Prop := K4 (0 : Int32) (0 : Int32)
def t_X11_entriesOf_4 (u : zModel) (x1 : Int32) (y2 : Int32) (y3 : Int32) (K4 : Int32 → Int32 → Prop) (Q : Int32 → Prop) : Prop := vp_in (4 : Int32) 5497 ∧ (((u.2.1 (4 : Int32).toNatClampNeg) < y3 → Q y2) ∧ (¬ (u.2.1 (4 : Int32).toNatClampNeg) < y3 → s_X11_hasEntry u y3 x1 (fun r_3 : Int32 => ((r_3 = 0 → ∀ x_5 : Int32, x_5 = (y2 + (0 : Int32)) → ∀ x_6 : Int32, x_6 = y3 + (1 : Int32) → K4 x_5 x_6) ∧ (¬ r_3 = 0 → ∀ x_8 : Int32, x_8 = (y2 + (1 : Int32)) → ∀ x_9 : Int32, x_9 = y3 + (1 : Int32) → K4 x_8 x_9)))))
theorem zc_X11_entriesOf : zCalV RX11 yX11_entriesOf cX11_entriesOf 4 (some .int) 1 := ⟨q_im_X11_entriesOf, q_se_X11_entriesOf, q_in_X11, q_cd_X11_entriesOf, ⟨by decide, by decide, by decide +kernel⟩, rfl⟩
abbrev rm_X11_entriesOf : Room := { frames := 2, cells := 0, slots := 0, locals := 43 }
def v_X11_entriesOf (u : zModel) (x1 : Int32) (Q : Int32 → Prop) : Prop := ∃ I4 : Nat → Int32 → Int32 → Prop, (∀ (n : Nat) (y2 : Int32) (y3 : Int32), I4 n y2 y3 → t_X11_entriesOf_4 u x1 y2 y3 (fun q0 q1 => ∃ k : Nat, k < n ∧ I4 k q0 q1) Q) ∧ t_X11_entriesOf_e u x1 (fun q0 q1 => ∃ k : Nat, I4 k q0 q1) Q
set_option maxHeartbeats 4000000 in
set_option maxRecDepth 100000 in
theorem L_X11_entriesOf (l : Launch) (dC : Nat → ClassId) (dI : Nat → Nat → Nat) (cI cJ cS : ClassId) (a : Nat → Nat) (u : zModel) (x1 : Int32) (Q : Int32 → Prop) (I4 : Nat → Int32 → Int32 → Prop) (h4 : ∀ (n : Nat) (y2 : Int32) (y3 : Int32), I4 n y2 y3 → t_X11_entriesOf_4 u x1 y2 y3 (fun q0 q1 => ∃ k : Nat, k < n ∧ I4 k q0 q1) Q) (hf : t_X11_entriesOf_e u x1 (fun q0 q1 => ∃ k : Nat, I4 k q0 q1) Q) : Met l yX11_entriesOf (Cond.code yX11_entriesOf cX11_entriesOf 4 (some .int) :: zT) rm_X11_entriesOf (zPp dC dI cI cJ cS (cl_X11 cI cJ a u) [.ref (a 0), .int x1]) (vp_Si Q) 0 0 (fun _ => False) := by
  refine z_enterP (cc := cX11_entriesOf) (maxL := 4) (ret := (some .int)) (by decide) (Nat.le_of_ble_eq_true rfl) ?_
  intro p e s m below meth c ls X hP hl
  obtain ⟨⟨hx, hb, hml, hown, hts⟩, hr, hlk, hK⟩ := id X
  have hl : lv_has ls 4 [(0, .ref (a 0)), (1, .int x1)] := hl
  have LP : ∀ n : Nat, (∀ (y2 : Int32) (y3 : Int32) (ls : Array Slot), I4 n y2 y3 → lv_has ls 4 [(0, .ref (a 0)), (1, .int x1), (2, .int y2), (3, .int y3)] → W p l e rm_X11_entriesOf s m [.ref (a 0), .int x1].toArray below meth c s.heap [] 0 0 (MQ below (vp_Si Q) [.ref (a 0), .int x1].toArray s 0 0 (fun _ => False)) (F0 m 4 ls [])) := by
    intro n
    induction n using Nat.strongRecOn with
    | _ n ih =>
      intro y2 y3 ls hI hl
      have hf := h4 n y2 y3 hI
      unfold t_X11_entriesOf_4 at hf
      refine lv_iload_n hx hb dX11_entriesOf_4 rfl (lv_at hl 3 rfl) ?_
      refine lv_aload_n hx hb dX11_entriesOf_5 rfl (lv_at hl 0 rfl) ?_
      refine va_get (D := (dC, dI)) (ci := 10) (v := .ref (a 1)) (C := RX11) (T := TX11) (N := 17) hx hb hts inX11 hown hK hP 0 rfl rfl 1 (by decide) (hts _ q_fl_X11_7) (fun _ h9 => h9) rfl dX11_entriesOf_6 ?_
      refine lv_iconst (v := 4) hx hb dX11_entriesOf_9 (by decide) ?_
      obtain ⟨hg, hf⟩ := hf
      refine va_iald hx hb hK hP 1 0 rfl rfl hg dX11_entriesOf_10 ?_
      refine lv_icmp_gt (tgt := 37) hx hb dX11_entriesOf_11 (by decide) (fun c_2 => ?_) (fun c_2 => ?_)
      · have hf := hf.1 c_2
        refine lv_iload_n hx hb dX11_entriesOf_37 rfl (lv_at hl 2 rfl) ?_
        exact z_retPi X hf dX11_entriesOf_38
      · have hf := hf.2 c_2
        refine lv_iload_n hx hb dX11_entriesOf_14 rfl (lv_at hl 2 rfl) ?_
        refine lv_aload_n hx hb dX11_entriesOf_15 rfl (lv_at hl 0 rfl) ?_
        refine lv_iload_n hx hb dX11_entriesOf_16 rfl (lv_at hl 3 rfl) ?_
        refine lv_iload_n hx hb dX11_entriesOf_17 rfl (lv_at hl 1 rfl) ?_
        refine z_cVi (As := [.int y3, .int x1]) (rest := [.int y2]) X (c_X11_hasEntry l dC dI cI cJ cS a u y3 x1 _ hf) zc_X11_hasEntry q_ml_X11_66 ⟨rfl, rfl⟩ ⟨Nat.le_of_ble_eq_true rfl, Nat.le_of_ble_eq_true rfl⟩ hP [0, 1, 2, 3, 4, 5, 6, 7, 8] rfl 10 rfl rfl hl.1 rfl rfl (Nat.le_of_ble_eq_true rfl) ⟨Nat.zero_le _, Nat.zero_le _⟩ dX11_entriesOf_18 (fun r_3 hf => ?_)
        obtain ⟨hbr_3, hf⟩ := hf
        refine lv_if_eq (tgt := 28) hx hb dX11_entriesOf_21 (by decide) (fun c_4 => ?_) (fun c_4 => ?_)
        · have hf := hf.1 c_4
          refine lv_iconst (v := 0) hx hb dX11_entriesOf_28 (by decide) ?_
          refine lv_iadd hx hb dX11_entriesOf_29 ?_
          refine lv_topi (fun x_5 ex_5 => ?_)
          have hf := hf x_5 ex_5
          refine lv_istore_n (lv' := [(2, .int x_5), (0, .ref (a 0)), (1, .int x1), (3, .int y3)]) hx hb dX11_entriesOf_30 rfl hl (by decide) rfl (fun ls hl => ?_)
          obtain ⟨x_6, ex_6⟩ : ∃ y : Int32, y = y3 + (1 : Int32) := ⟨_, rfl⟩
          have hf := hf x_6 ex_6
          refine lv_iinc (v := x_6) (lv' := [(3, .int x_6), (2, .int x_5), (0, .ref (a 0)), (1, .int x1)]) hx hb dX11_entriesOf_31 hl (k := 3) rfl (by rw [ex_6]; rfl) (by decide) rfl (fun ls hl => ?_)
          refine lv_goto (tgt := 4) hx hb dX11_entriesOf_34 (by decide) ?_
          obtain ⟨k_7, hk_7, hf⟩ := hf
          exact (ih k_7 hk_7) _ _ ls hf (lv_sub hl [2, 3, 1, 0] rfl)
        · have hf := hf.2 c_4
          refine lv_iconst (v := 1) hx hb dX11_entriesOf_24 (by decide) ?_
          refine lv_goto (tgt := 29) hx hb dX11_entriesOf_25 (by decide) ?_
          refine lv_iadd hx hb dX11_entriesOf_29 ?_
          refine lv_topi (fun x_8 ex_8 => ?_)
          have hf := hf x_8 ex_8
          refine lv_istore_n (lv' := [(2, .int x_8), (0, .ref (a 0)), (1, .int x1), (3, .int y3)]) hx hb dX11_entriesOf_30 rfl hl (by decide) rfl (fun ls hl => ?_)
          obtain ⟨x_9, ex_9⟩ : ∃ y : Int32, y = y3 + (1 : Int32) := ⟨_, rfl⟩
          have hf := hf x_9 ex_9
          refine lv_iinc (v := x_9) (lv' := [(3, .int x_9), (2, .int x_8), (0, .ref (a 0)), (1, .int x1)]) hx hb dX11_entriesOf_31 hl (k := 3) rfl (by rw [ex_9]; rfl) (by decide) rfl (fun ls hl => ?_)
          refine lv_goto (tgt := 4) hx hb dX11_entriesOf_34 (by decide) ?_
          obtain ⟨k_10, hk_10, hf⟩ := hf
          exact (ih k_10 hk_10) _ _ ls hf (lv_sub hl [2, 3, 1, 0] rfl)
  unfold t_X11_entriesOf_e at hf
  refine lv_iconst (v := 0) hx hb dX11_entriesOf_0 (by decide) ?_
  refine lv_istore_n (lv' := [(2, .int (0 : Int32)), (0, .ref (a 0)), (1, .int x1)]) hx hb dX11_entriesOf_1 rfl hl (by decide) rfl (fun ls hl => ?_)
  refine lv_iconst (v := 0) hx hb dX11_entriesOf_2 (by decide) ?_
  refine lv_istore_n (lv' := [(3, .int (0 : Int32)), (2, .int (0 : Int32)), (0, .ref (a 0)), (1, .int x1)]) hx hb dX11_entriesOf_3 rfl hl (by decide) rfl (fun ls hl => ?_)
  obtain ⟨k_1, hf⟩ := hf
  exact (LP k_1) _ _ ls hf (lv_sub hl [2, 3, 1, 0] rfl)
def s_X11_entriesOf (u : zModel) (x1 : Int32) (Q : Int32 → Prop) : Prop := ∃ (v : zState) (k : Nat), mOk v u.2.1 ∧ k < 64 ∧ x1 = nI k ∧ Q (nI (fa_cnt (fun l => zHas v.2.2.2.1.1 l k) (rN v + 1)))
theorem st_X11_entriesOf {u : zModel} {x1 : Int32} {Q : Int32 → Prop} (h : s_X11_entriesOf u x1 Q) : v_X11_entriesOf u x1 Q := by
  obtain ⟨v, k, hm, hk, rfl, h⟩ := h
  have ho := hm.ok
  have hr := hm.2
  have hR : rN v < 6 := ho.2.1.2
  have e4 : u.2.1 4 = nI (rN v) := (hr.1 4 (by decide)).trans ho.r
  refine zlp2 (T := fun y y' K => t_X11_entriesOf_4 u (nI k) y y' K Q) (E := fun K => t_X11_entriesOf_e u (nI k) K Q) (rN v + 1) (fun i => nI (fa_cnt (fun l => zHas v.2.2.2.1.1 l k) i)) (fun i => nI i) (fun K hK => hK) ?_ ?_
  · intro i hi K hK
    have ek := (hr.2.2.2.1 i k (show i ≤ rN v by omega) hk).1
    refine ⟨vp_in_nI (n := 4) (by decide) (by decide), ?_⟩
    rw [n_c4, e4]
    refine ⟨fun c => absurd c (nI_nlt (by omega) (by omega)), fun _ => ⟨i, k, by omega, hk, rfl, rfl, fun d => ⟨fun _ x e x' e' => ?_, fun q => absurd rfl q⟩, fun d => ⟨fun q => absurd q (by decide), fun _ x e x' e' => ?_⟩⟩⟩
    · rw [ek] at d
      rw [fa_cnt_no (p := fun l => zHas v.2.2.2.1.1 l k) (decide_eq_false (fun q => q ((uKind_pos _).mp d)))] at hK
      rw [e, e', nI_1, Int32.add_zero]; exact hK
    · rw [ek] at d
      rw [fa_cnt_yes (p := fun l => zHas v.2.2.2.1.1 l k) (decide_eq_true (fun q => d ((uKind_pos _).mpr q)))] at hK
      rw [e, e', nI_1, nI_1]; exact hK
  · intro K
    refine ⟨vp_in_nI (n := 4) (by decide) (by decide), ?_⟩
    rw [n_c4, e4]
    exact ⟨fun _ => h, fun c => absurd (nI_lt (Nat.lt_succ_self _) (by omega)) c⟩
theorem c_X11_entriesOf (l : Launch) (dC : Nat → ClassId) (dI : Nat → Nat → Nat) (cI cJ cS : ClassId) (a : Nat → Nat) (u : zModel) (x1 : Int32) (Q : Int32 → Prop) (hf : s_X11_entriesOf u x1 Q) : Met l yX11_entriesOf (Cond.code yX11_entriesOf cX11_entriesOf 4 (some .int) :: zT) rm_X11_entriesOf (zPp dC dI cI cJ cS (cl_X11 cI cJ a u) [.ref (a 0), .int x1]) (vp_Si Q) 0 0 (fun _ => False) := by
  obtain ⟨I4, h4, hf⟩ := st_X11_entriesOf hf
  exact L_X11_entriesOf l dC dI cI cJ cS a u x1 Q I4 h4 hf

def s_X11_asideOnly (u : zModel) (x1 : Int32) (x2 : Int32) (Q : Int32 → Prop) : Prop := s_X11_current u x1 (1 : Int32) (fun r_1 : Int32 => ((¬ r_1 = (3 : Int32) → Q (-1 : Int32)) ∧ (r_1 = (3 : Int32) → s_X11_current u x1 x2 (fun r_3 : Int32 => Q r_3))))
theorem zc_X11_asideOnly : zCalV RX11 yX11_asideOnly cX11_asideOnly 3 (some .int) 2 := ⟨q_im_X11_asideOnly, q_se_X11_asideOnly, q_in_X11, q_cd_X11_asideOnly, ⟨by decide, by decide, by decide +kernel⟩, rfl⟩
abbrev rm_X11_asideOnly : Room := { frames := 4, cells := 0, slots := 0, locals := 88 }
set_option maxHeartbeats 4000000 in
set_option maxRecDepth 100000 in
theorem c_X11_asideOnly (l : Launch) (dC : Nat → ClassId) (dI : Nat → Nat → Nat) (cI cJ cS : ClassId) (a : Nat → Nat) (u : zModel) (x1 : Int32) (x2 : Int32) (Q : Int32 → Prop) (hf : s_X11_asideOnly u x1 x2 Q) : Met l yX11_asideOnly (Cond.code yX11_asideOnly cX11_asideOnly 3 (some .int) :: zT) rm_X11_asideOnly (zPp dC dI cI cJ cS (cl_X11 cI cJ a u) [.ref (a 0), .int x1, .int x2]) (vp_Si Q) 0 0 (fun _ => False) := by
  refine z_enterP (cc := cX11_asideOnly) (maxL := 3) (ret := (some .int)) (by decide) (Nat.le_of_ble_eq_true rfl) ?_
  intro p e s m below meth c ls X hP hl
  obtain ⟨⟨hx, hb, hml, hown, hts⟩, hr, hlk, hK⟩ := id X
  have hl : lv_has ls 3 [(0, .ref (a 0)), (1, .int x1), (2, .int x2)] := hl
  unfold s_X11_asideOnly at hf
  refine lv_aload_n hx hb dX11_asideOnly_0 rfl (lv_at hl 0 rfl) ?_
  refine lv_iload_n hx hb dX11_asideOnly_1 rfl (lv_at hl 1 rfl) ?_
  refine lv_iconst (v := 1) hx hb dX11_asideOnly_2 (by decide) ?_
  refine z_cVi (As := [.int x1, .int (1 : Int32)]) (rest := []) X (c_X11_current l dC dI cI cJ cS a u x1 (1 : Int32) _ hf) zc_X11_current q_ml_X11_74 ⟨rfl, rfl⟩ ⟨Nat.le_of_ble_eq_true rfl, Nat.le_of_ble_eq_true rfl⟩ hP [0, 1, 2, 3, 4, 5, 6, 7, 8] rfl 10 rfl rfl hl.1 rfl rfl (Nat.le_of_ble_eq_true rfl) ⟨Nat.zero_le _, Nat.zero_le _⟩ dX11_asideOnly_3 (fun r_1 hf => ?_)
  refine lv_iconst (v := 3) hx hb dX11_asideOnly_6 (by decide) ?_
  refine lv_icmp_ne (tgt := 19) hx hb dX11_asideOnly_7 (by decide) (fun c_2 => ?_) (fun c_2 => ?_)
  · have hf := hf.1 c_2
    refine lv_iconst (v := (-1)) hx hb dX11_asideOnly_19 (by decide) ?_
    exact z_retPi X hf dX11_asideOnly_20
  · have hf := hf.2 c_2
    refine lv_aload_n hx hb dX11_asideOnly_10 rfl (lv_at hl 0 rfl) ?_
    refine lv_iload_n hx hb dX11_asideOnly_11 rfl (lv_at hl 1 rfl) ?_
    refine lv_iload_n hx hb dX11_asideOnly_12 rfl (lv_at hl 2 rfl) ?_
    refine z_cVi (As := [.int x1, .int x2]) (rest := []) X (c_X11_current l dC dI cI cJ cS a u x1 x2 _ hf) zc_X11_current q_ml_X11_74 ⟨rfl, rfl⟩ ⟨Nat.le_of_ble_eq_true rfl, Nat.le_of_ble_eq_true rfl⟩ hP [0, 1, 2, 3, 4, 5, 6, 7, 8] rfl 10 rfl rfl hl.1 rfl rfl (Nat.le_of_ble_eq_true rfl) ⟨Nat.zero_le _, Nat.zero_le _⟩ dX11_asideOnly_13 (fun r_3 hf => ?_)
    refine lv_goto (tgt := 20) hx hb dX11_asideOnly_16 (by decide) ?_
    exact z_retPi X hf dX11_asideOnly_20

def t_X11_lastIn (u : zModel) (x1 : Int32) (Q : Int32 → Prop) : Prop := s_X11_segmentAt u x1 (1 : Int32) (fun r_1 : Int32 => ((¬ r_1 = 0 → s_X11_segmentAt u x1 (1 : Int32) (fun r_3 : Int32 => s_X11_noted u x1 (r_3 - (1 : Int32)) (3 : Int32) (fun r_4 : Int32 => Q r_4))) ∧ (r_1 = 0 → Q (-1 : Int32))))
theorem zc_X11_lastIn : zCalV RX11 yX11_lastIn cX11_lastIn 2 (some .int) 1 := ⟨q_im_X11_lastIn, q_se_X11_lastIn, q_in_X11, q_cd_X11_lastIn, ⟨by decide, by decide, by decide +kernel⟩, rfl⟩
abbrev rm_X11_lastIn : Room := { frames := 2, cells := 0, slots := 0, locals := 44 }
set_option maxHeartbeats 4000000 in
set_option maxRecDepth 100000 in
theorem L_X11_lastIn (l : Launch) (dC : Nat → ClassId) (dI : Nat → Nat → Nat) (cI cJ cS : ClassId) (a : Nat → Nat) (u : zModel) (x1 : Int32) (Q : Int32 → Prop) (hf : t_X11_lastIn u x1 Q) : Met l yX11_lastIn (Cond.code yX11_lastIn cX11_lastIn 2 (some .int) :: zT) rm_X11_lastIn (zPp dC dI cI cJ cS (cl_X11 cI cJ a u) [.ref (a 0), .int x1]) (vp_Si Q) 0 0 (fun _ => False) := by
  refine z_enterP (cc := cX11_lastIn) (maxL := 2) (ret := (some .int)) (by decide) (Nat.le_of_ble_eq_true rfl) ?_
  intro p e s m below meth c ls X hP hl
  obtain ⟨⟨hx, hb, hml, hown, hts⟩, hr, hlk, hK⟩ := id X
  have hl : lv_has ls 2 [(0, .ref (a 0)), (1, .int x1)] := hl
  unfold t_X11_lastIn at hf
  refine lv_aload_n hx hb dX11_lastIn_0 rfl (lv_at hl 0 rfl) ?_
  refine lv_iload_n hx hb dX11_lastIn_1 rfl (lv_at hl 1 rfl) ?_
  refine lv_iconst (v := 1) hx hb dX11_lastIn_2 (by decide) ?_
  refine z_cVi (As := [.int x1, .int (1 : Int32)]) (rest := []) X (c_X11_segmentAt l dC dI cI cJ cS a u x1 (1 : Int32) _ hf) zc_X11_segmentAt q_ml_X11_53 ⟨rfl, rfl⟩ ⟨Nat.le_of_ble_eq_true rfl, Nat.le_of_ble_eq_true rfl⟩ hP [0, 1, 2, 3, 4, 5, 6, 7, 8] rfl 10 rfl rfl hl.1 rfl rfl (Nat.le_of_ble_eq_true rfl) ⟨Nat.zero_le _, Nat.zero_le _⟩ dX11_lastIn_3 (fun r_1 hf => ?_)
  refine lv_if_ne (tgt := 13) hx hb dX11_lastIn_6 (by decide) (fun c_2 => ?_) (fun c_2 => ?_)
  · have hf := hf.1 c_2
    refine lv_aload_n hx hb dX11_lastIn_13 rfl (lv_at hl 0 rfl) ?_
    refine lv_iload_n hx hb dX11_lastIn_14 rfl (lv_at hl 1 rfl) ?_
    refine lv_aload_n hx hb dX11_lastIn_15 rfl (lv_at hl 0 rfl) ?_
    refine lv_iload_n hx hb dX11_lastIn_16 rfl (lv_at hl 1 rfl) ?_
    refine lv_iconst (v := 1) hx hb dX11_lastIn_17 (by decide) ?_
    refine z_cVi (As := [.int x1, .int (1 : Int32)]) (rest := [.int x1, .ref (a 0)]) X (c_X11_segmentAt l dC dI cI cJ cS a u x1 (1 : Int32) _ hf) zc_X11_segmentAt q_ml_X11_53 ⟨rfl, rfl⟩ ⟨Nat.le_of_ble_eq_true rfl, Nat.le_of_ble_eq_true rfl⟩ hP [0, 1, 2, 3, 4, 5, 6, 7, 8] rfl 10 rfl rfl hl.1 rfl rfl (Nat.le_of_ble_eq_true rfl) ⟨Nat.zero_le _, Nat.zero_le _⟩ dX11_lastIn_18 (fun r_3 hf => ?_)
    refine lv_iconst (v := 1) hx hb dX11_lastIn_21 (by decide) ?_
    refine lv_isub hx hb dX11_lastIn_22 ?_
    refine lv_iconst (v := 3) hx hb dX11_lastIn_23 (by decide) ?_
    refine z_cVi (As := [.int x1, .int (r_3 - (1 : Int32)), .int (3 : Int32)]) (rest := []) X (c_X11_noted l dC dI cI cJ cS a u x1 (r_3 - (1 : Int32)) (3 : Int32) _ hf) zc_X11_noted q_ml_X11_77 ⟨rfl, rfl⟩ ⟨Nat.le_of_ble_eq_true rfl, Nat.le_of_ble_eq_true rfl⟩ hP [0, 1, 2, 3, 4, 5, 6, 7, 8] rfl 10 rfl rfl hl.1 rfl rfl (Nat.le_of_ble_eq_true rfl) ⟨Nat.zero_le _, Nat.zero_le _⟩ dX11_lastIn_24 (fun r_4 hf => ?_)
    exact z_retPi X hf dX11_lastIn_27
  · have hf := hf.2 c_2
    refine lv_iconst (v := (-1)) hx hb dX11_lastIn_9 (by decide) ?_
    refine lv_goto (tgt := 27) hx hb dX11_lastIn_10 (by decide) ?_
    exact z_retPi X hf dX11_lastIn_27
def uLast (v : zState) (s : Nat) : Int32 := if gN v.2.2.1 s = 0 then -1 else cNum (uRec v s (gN v.2.2.1 s - 1))
def s_X11_lastIn (u : zModel) (x1 : Int32) (Q : Int32 → Prop) : Prop := ∃ (v : zState) (s : Nat), mOk v u.2.1 ∧ s < 12 ∧ x1 = nI s ∧ Q (uLast v s)
theorem st_X11_lastIn {u : zModel} {x1 : Int32} {Q : Int32 → Prop} (h : s_X11_lastIn u x1 Q) : t_X11_lastIn u x1 Q := by
  obtain ⟨v, s, hm, hs, rfl, h⟩ := h
  obtain ⟨⟨ρ, β, mo, lm, L, S, M, B, hP⟩, hr⟩ := id hm
  have hg := hP.2.2.2.2.2.1
  have h50 := (hg.2.1 s hs).2
  have e1 : u.2.1 (66 + 3 * s + 1) = nI (gN v.2.2.1 s) := (hr.2.1 s 1 hs (by decide)).trans (hg.2.1 s hs).1
  unfold uLast at h
  refine ⟨s, 1, hs, by decide, rfl, rfl, ?_⟩
  rw [e1]
  refine ⟨fun c => ⟨s, 1, hs, by decide, rfl, rfl, ?_⟩, fun c => ?_⟩
  · have h0 : ¬ gN v.2.2.1 s = 0 := fun q => c (by rw [q]; rfl)
    rw [if_neg h0] at h
    rw [e1]
    obtain ⟨n, hn⟩ : ∃ n, gN v.2.2.1 s = n + 1 := ⟨gN v.2.2.1 s - 1, by omega⟩
    rw [hn] at h ⊢
    show s_X11_noted u (nI s) (nI (n + 1) - 1) 3 (fun r_4 => Q r_4)
    rw [nI_pred]
    refine ⟨s, n, 3, hs, by omega, by decide, rfl, rfl, rfl, ?_⟩
    rw [hr.2.2.1 s n 3 hs (by omega) (by decide)]
    exact h
  · rw [if_pos ((nI_eq (b := 0) (by omega) (by decide)).mp c)] at h; exact h
theorem c_X11_lastIn (l : Launch) (dC : Nat → ClassId) (dI : Nat → Nat → Nat) (cI cJ cS : ClassId) (a : Nat → Nat) (u : zModel) (x1 : Int32) (Q : Int32 → Prop) (hf : s_X11_lastIn u x1 Q) : Met l yX11_lastIn (Cond.code yX11_lastIn cX11_lastIn 2 (some .int) :: zT) rm_X11_lastIn (zPp dC dI cI cJ cS (cl_X11 cI cJ a u) [.ref (a 0), .int x1]) (vp_Si Q) 0 0 (fun _ => False) := L_X11_lastIn l dC dI cI cJ cS a u x1 Q (st_X11_lastIn hf)

def t_X11_heaviest_e (u : zModel) (K4 : Int32 → Int32 → Prop) (Q : Int32 → Prop) : Prop := K4 (-1 : Int32) (0 : Int32)
def t_X11_heaviest_4 (u : zModel) (y1 : Int32) (y2 : Int32) (K4 : Int32 → Int32 → Prop) (Q : Int32 → Prop) : Prop := (((64 : Int32) ≤ y2 → Q y1) ∧ (¬ (64 : Int32) ≤ y2 → s_X11_hasValue u y2 (fun r_3 : Int32 => ((r_3 = 0 → ∀ x_5 : Int32, x_5 = y2 + (1 : Int32) → K4 y1 x_5) ∧ (¬ r_3 = 0 → ((y1 = (-1 : Int32) → ∀ x_8 : Int32, x_8 = y2 + (1 : Int32) → K4 y2 x_8) ∧ (¬ y1 = (-1 : Int32) → s_X11_lengthOf u y2 (fun r_10 : Int32 => s_X11_lengthOf u y1 (fun r_11 : Int32 => ((r_10 ≤ r_11 → ∀ x_13 : Int32, x_13 = y2 + (1 : Int32) → K4 y1 x_13) ∧ (¬ r_10 ≤ r_11 → ∀ x_15 : Int32, x_15 = y2 + (1 : Int32) → K4 y2 x_15)))))))))))
theorem zc_X11_heaviest : zCalV RX11 yX11_heaviest cX11_heaviest 3 (some .int) 0 := ⟨q_im_X11_heaviest, q_se_X11_heaviest, q_in_X11, q_cd_X11_heaviest, ⟨by decide, by decide, by decide +kernel⟩, rfl⟩
abbrev rm_X11_heaviest : Room := { frames := 6, cells := 0, slots := 0, locals := 130 }
def v_X11_heaviest (u : zModel) (Q : Int32 → Prop) : Prop := ∃ I4 : Nat → Int32 → Int32 → Prop, (∀ (n : Nat) (y1 : Int32) (y2 : Int32), I4 n y1 y2 → t_X11_heaviest_4 u y1 y2 (fun q0 q1 => ∃ k : Nat, k < n ∧ I4 k q0 q1) Q) ∧ t_X11_heaviest_e u (fun q0 q1 => ∃ k : Nat, I4 k q0 q1) Q
set_option maxHeartbeats 4000000 in
set_option maxRecDepth 100000 in
theorem L_X11_heaviest (l : Launch) (dC : Nat → ClassId) (dI : Nat → Nat → Nat) (cI cJ cS : ClassId) (a : Nat → Nat) (u : zModel) (Q : Int32 → Prop) (I4 : Nat → Int32 → Int32 → Prop) (h4 : ∀ (n : Nat) (y1 : Int32) (y2 : Int32), I4 n y1 y2 → t_X11_heaviest_4 u y1 y2 (fun q0 q1 => ∃ k : Nat, k < n ∧ I4 k q0 q1) Q) (hf : t_X11_heaviest_e u (fun q0 q1 => ∃ k : Nat, I4 k q0 q1) Q) : Met l yX11_heaviest (Cond.code yX11_heaviest cX11_heaviest 3 (some .int) :: zT) rm_X11_heaviest (zPp dC dI cI cJ cS (cl_X11 cI cJ a u) [.ref (a 0)]) (vp_Si Q) 0 0 (fun _ => False) := by
  refine z_enterP (cc := cX11_heaviest) (maxL := 3) (ret := (some .int)) (by decide) (Nat.le_of_ble_eq_true rfl) ?_
  intro p e s m below meth c ls X hP hl
  obtain ⟨⟨hx, hb, hml, hown, hts⟩, hr, hlk, hK⟩ := id X
  have hl : lv_has ls 3 [(0, .ref (a 0))] := hl
  have LP : ∀ n : Nat, (∀ (y1 : Int32) (y2 : Int32) (ls : Array Slot), I4 n y1 y2 → lv_has ls 3 [(0, .ref (a 0)), (1, .int y1), (2, .int y2)] → W p l e rm_X11_heaviest s m [.ref (a 0)].toArray below meth c s.heap [] 0 0 (MQ below (vp_Si Q) [.ref (a 0)].toArray s 0 0 (fun _ => False)) (F0 m 4 ls [])) := by
    intro n
    induction n using Nat.strongRecOn with
    | _ n ih =>
      intro y1 y2 ls hI hl
      have hf := h4 n y1 y2 hI
      unfold t_X11_heaviest_4 at hf
      refine lv_iload_n hx hb dX11_heaviest_4 rfl (lv_at hl 2 rfl) ?_
      refine lv_bipush (v := 64) hx hb dX11_heaviest_5 (by decide) ?_
      refine lv_icmp_ge (tgt := 44) hx hb dX11_heaviest_7 (by decide) (fun c_2 => ?_) (fun c_2 => ?_)
      · have hf := hf.1 c_2
        refine lv_iload_n hx hb dX11_heaviest_44 rfl (lv_at hl 1 rfl) ?_
        exact z_retPi X hf dX11_heaviest_45
      · have hf := hf.2 c_2
        refine lv_aload_n hx hb dX11_heaviest_10 rfl (lv_at hl 0 rfl) ?_
        refine lv_iload_n hx hb dX11_heaviest_11 rfl (lv_at hl 2 rfl) ?_
        refine z_cVi (As := [.int y2]) (rest := []) X (c_X11_hasValue l dC dI cI cJ cS a u y2 _ hf) zc_X11_hasValue q_ml_X11_81 ⟨rfl, rfl⟩ ⟨Nat.le_of_ble_eq_true rfl, Nat.le_of_ble_eq_true rfl⟩ hP [0, 1, 2, 3, 4, 5, 6, 7, 8] rfl 10 rfl rfl hl.1 rfl rfl (Nat.le_of_ble_eq_true rfl) ⟨Nat.zero_le _, Nat.zero_le _⟩ dX11_heaviest_12 (fun r_3 hf => ?_)
        obtain ⟨hbr_3, hf⟩ := hf
        refine lv_if_eq (tgt := 38) hx hb dX11_heaviest_15 (by decide) (fun c_4 => ?_) (fun c_4 => ?_)
        · have hf := hf.1 c_4
          obtain ⟨x_5, ex_5⟩ : ∃ y : Int32, y = y2 + (1 : Int32) := ⟨_, rfl⟩
          have hf := hf x_5 ex_5
          refine lv_iinc (v := x_5) (lv' := [(2, .int x_5), (0, .ref (a 0)), (1, .int y1)]) hx hb dX11_heaviest_38 hl (k := 2) rfl (by rw [ex_5]; rfl) (by decide) rfl (fun ls hl => ?_)
          refine lv_goto (tgt := 4) hx hb dX11_heaviest_41 (by decide) ?_
          obtain ⟨k_6, hk_6, hf⟩ := hf
          exact (ih k_6 hk_6) _ _ ls hf (lv_sub hl [1, 2, 0] rfl)
        · have hf := hf.2 c_4
          refine lv_iload_n hx hb dX11_heaviest_18 rfl (lv_at hl 1 rfl) ?_
          refine lv_iconst (v := (-1)) hx hb dX11_heaviest_19 (by decide) ?_
          refine lv_icmp_eq (tgt := 36) hx hb dX11_heaviest_20 (by decide) (fun c_7 => ?_) (fun c_7 => ?_)
          · have hf := hf.1 c_7
            refine lv_iload_n hx hb dX11_heaviest_36 rfl (lv_at hl 2 rfl) ?_
            refine lv_istore_n (lv' := [(1, .int y2), (0, .ref (a 0)), (2, .int y2)]) hx hb dX11_heaviest_37 rfl hl (by decide) rfl (fun ls hl => ?_)
            obtain ⟨x_8, ex_8⟩ : ∃ y : Int32, y = y2 + (1 : Int32) := ⟨_, rfl⟩
            have hf := hf x_8 ex_8
            refine lv_iinc (v := x_8) (lv' := [(2, .int x_8), (1, .int y2), (0, .ref (a 0))]) hx hb dX11_heaviest_38 hl (k := 2) rfl (by rw [ex_8]; rfl) (by decide) rfl (fun ls hl => ?_)
            refine lv_goto (tgt := 4) hx hb dX11_heaviest_41 (by decide) ?_
            obtain ⟨k_9, hk_9, hf⟩ := hf
            exact (ih k_9 hk_9) _ _ ls hf (lv_sub hl [2, 1, 0] rfl)
          · have hf := hf.2 c_7
            refine lv_aload_n hx hb dX11_heaviest_23 rfl (lv_at hl 0 rfl) ?_
            refine lv_iload_n hx hb dX11_heaviest_24 rfl (lv_at hl 2 rfl) ?_
            refine z_cVi (As := [.int y2]) (rest := []) X (c_X11_lengthOf l dC dI cI cJ cS a u y2 _ hf) zc_X11_lengthOf q_ml_X11_266 ⟨rfl, rfl⟩ ⟨Nat.le_of_ble_eq_true rfl, Nat.le_of_ble_eq_true rfl⟩ hP [0, 1, 2, 3, 4, 5, 6, 7, 8] rfl 10 rfl rfl hl.1 rfl rfl (Nat.le_of_ble_eq_true rfl) ⟨Nat.zero_le _, Nat.zero_le _⟩ dX11_heaviest_25 (fun r_10 hf => ?_)
            refine lv_aload_n hx hb dX11_heaviest_28 rfl (lv_at hl 0 rfl) ?_
            refine lv_iload_n hx hb dX11_heaviest_29 rfl (lv_at hl 1 rfl) ?_
            refine z_cVi (As := [.int y1]) (rest := [.int r_10]) X (c_X11_lengthOf l dC dI cI cJ cS a u y1 _ hf) zc_X11_lengthOf q_ml_X11_266 ⟨rfl, rfl⟩ ⟨Nat.le_of_ble_eq_true rfl, Nat.le_of_ble_eq_true rfl⟩ hP [0, 1, 2, 3, 4, 5, 6, 7, 8] rfl 10 rfl rfl hl.1 rfl rfl (Nat.le_of_ble_eq_true rfl) ⟨Nat.zero_le _, Nat.zero_le _⟩ dX11_heaviest_30 (fun r_11 hf => ?_)
            refine lv_icmp_le (tgt := 38) hx hb dX11_heaviest_33 (by decide) (fun c_12 => ?_) (fun c_12 => ?_)
            · have hf := hf.1 c_12
              obtain ⟨x_13, ex_13⟩ : ∃ y : Int32, y = y2 + (1 : Int32) := ⟨_, rfl⟩
              have hf := hf x_13 ex_13
              refine lv_iinc (v := x_13) (lv' := [(2, .int x_13), (0, .ref (a 0)), (1, .int y1)]) hx hb dX11_heaviest_38 hl (k := 2) rfl (by rw [ex_13]; rfl) (by decide) rfl (fun ls hl => ?_)
              refine lv_goto (tgt := 4) hx hb dX11_heaviest_41 (by decide) ?_
              obtain ⟨k_14, hk_14, hf⟩ := hf
              exact (ih k_14 hk_14) _ _ ls hf (lv_sub hl [1, 2, 0] rfl)
            · have hf := hf.2 c_12
              refine lv_iload_n hx hb dX11_heaviest_36 rfl (lv_at hl 2 rfl) ?_
              refine lv_istore_n (lv' := [(1, .int y2), (0, .ref (a 0)), (2, .int y2)]) hx hb dX11_heaviest_37 rfl hl (by decide) rfl (fun ls hl => ?_)
              obtain ⟨x_15, ex_15⟩ : ∃ y : Int32, y = y2 + (1 : Int32) := ⟨_, rfl⟩
              have hf := hf x_15 ex_15
              refine lv_iinc (v := x_15) (lv' := [(2, .int x_15), (1, .int y2), (0, .ref (a 0))]) hx hb dX11_heaviest_38 hl (k := 2) rfl (by rw [ex_15]; rfl) (by decide) rfl (fun ls hl => ?_)
              refine lv_goto (tgt := 4) hx hb dX11_heaviest_41 (by decide) ?_
              obtain ⟨k_16, hk_16, hf⟩ := hf
              exact (ih k_16 hk_16) _ _ ls hf (lv_sub hl [2, 1, 0] rfl)
  unfold t_X11_heaviest_e at hf
  refine lv_iconst (v := (-1)) hx hb dX11_heaviest_0 (by decide) ?_
  refine lv_istore_n (lv' := [(1, .int (-1 : Int32)), (0, .ref (a 0))]) hx hb dX11_heaviest_1 rfl hl (by decide) rfl (fun ls hl => ?_)
  refine lv_iconst (v := 0) hx hb dX11_heaviest_2 (by decide) ?_
  refine lv_istore_n (lv' := [(2, .int (0 : Int32)), (1, .int (-1 : Int32)), (0, .ref (a 0))]) hx hb dX11_heaviest_3 rfl hl (by decide) rfl (fun ls hl => ?_)
  obtain ⟨k_1, hf⟩ := hf
  exact (LP k_1) _ _ ls hf (lv_sub hl [2, 1, 0] rfl)
theorem uHvy_ok (v : zState) : ∀ n, n ≤ 64 → ((uHvy v n).1 = -1 ∧ (uHvy v n).2 = 0) ∨ ∃ k, k < n ∧ (uHvy v n).1 = nI k ∧ uVal v k = true ∧ (uHvy v n).2 = cLen (uCur v k)
  | 0, _ => Or.inl ⟨rfl, rfl⟩
  | n + 1, h => by
    have ih := uHvy_ok v n (by omega)
    unfold uHvy
    split
    · rcases ih with q | ⟨k, a, b, c, d⟩
      · exact Or.inl q
      · exact Or.inr ⟨k, by omega, b, c, d⟩
    · rename_i hc
      refine Or.inr ⟨n, by omega, rfl, decide_eq_true (fun q => hc ?_), rfl⟩
      rw [(cDrop_iff _).mp q]
      rcases ih with q | ⟨k, a, b, c, d⟩
      · rw [q.2]; decide
      · rw [d, (lnN_eq _).1]; exact nI_pos' (by have := (lnN_eq (uCur v k)).2; omega)
def s_X11_heaviest (u : zModel) (Q : Int32 → Prop) : Prop := ∃ v : zState, mOk v u.2.1 ∧ Q (uHvy v 64).1
theorem st_X11_heaviest {u : zModel} {Q : Int32 → Prop} (h : s_X11_heaviest u Q) : v_X11_heaviest u Q := by
  obtain ⟨v, hm, h⟩ := h
  refine zlp2 (T := fun y y' K => t_X11_heaviest_4 u y y' K Q) (E := fun K => t_X11_heaviest_e u K Q) 64 (fun i => (uHvy v i).1) (fun i => nI i) (fun K hK => hK) ?_ ?_
  · intro i hi K hK
    have hu : uHvy v (i + 1) = if cLen (uCur v i) ≤ (uHvy v i).2 then uHvy v i else (nI i, cLen (uCur v i)) := rfl
    have hK : K (uHvy v (i + 1)).1 (nI (i + 1)) := hK
    rw [hu] at hK
    have hpos : 0 ≤ cLen (uCur v i) := by rw [(lnN_eq _).1]; exact nI_pos' (by have := (lnN_eq (uCur v i)).2; omega)
    refine ⟨fun c => absurd c (ge64 hi), fun _ => ⟨v, i, hm, hi, rfl, fun hv => ⟨fun q => absurd q (by decide), fun _ => ⟨fun c x e => ?_, fun c => ?_⟩⟩, fun hv => ⟨fun _ x e => ?_, fun q => absurd rfl q⟩⟩⟩
    · rcases uHvy_ok v i (by omega) with q | ⟨k, a, b, d, f⟩
      · have : ¬ cLen (uCur v i) ≤ (uHvy v i).2 := fun z => by
          rw [q.2] at z
          have hne := (val_ne hv).2
          obtain ⟨el, hl⟩ := lnN_eq (uCur v i)
          rw [el] at z hne
          have := (nI_leI (b := 0) (by omega) (by decide)).mp z
          exact hne (by rw [show lnN (uCur v i) = 0 by omega]; rfl)
        rw [if_neg this] at hK; rw [e, nI_1]; exact hK
      · rw [b] at c; exact absurd c (n_neg (by omega))
    · rcases uHvy_ok v i (by omega) with q | ⟨k, a, b, d, f⟩
      · exact absurd q.1 c
      · refine ⟨v, i, hm, hi, rfl, v, k, hm, by omega, b, ?_⟩
        unfold uLenF
        rw [if_pos hv, if_pos d, ← f]
        refine ⟨fun c2 x e => ?_, fun c2 x e => ?_⟩
        · rw [if_pos c2] at hK; rw [e, nI_1]; exact hK
        · rw [if_neg c2] at hK; rw [e, nI_1]; exact hK
    · have hd : cLen (uCur v i) = 0 := by
        have := of_decide_eq_false hv
        simp only [Decidable.not_not] at this
        exact (cDrop_iff _).mp this
      have : cLen (uCur v i) ≤ (uHvy v i).2 := by
        rw [hd]
        rcases uHvy_ok v i (by omega) with q | ⟨k, a, b, d, f⟩
        · rw [q.2]; decide
        · rw [f, (lnN_eq _).1]; exact nI_pos' (by have := (lnN_eq (uCur v k)).2; omega)
      rw [if_pos this] at hK; rw [e, nI_1]; exact hK
  · intro K
    exact ⟨fun _ => h, fun c => absurd (le64 (Nat.le_refl _) (by decide)) c⟩
theorem c_X11_heaviest (l : Launch) (dC : Nat → ClassId) (dI : Nat → Nat → Nat) (cI cJ cS : ClassId) (a : Nat → Nat) (u : zModel) (Q : Int32 → Prop) (hf : s_X11_heaviest u Q) : Met l yX11_heaviest (Cond.code yX11_heaviest cX11_heaviest 3 (some .int) :: zT) rm_X11_heaviest (zPp dC dI cI cJ cS (cl_X11 cI cJ a u) [.ref (a 0)]) (vp_Si Q) 0 0 (fun _ => False) := by
  obtain ⟨I4, h4, hf⟩ := st_X11_heaviest hf
  exact L_X11_heaviest l dC dI cI cJ cS a u Q I4 h4 hf

def t_X11_replay_e (u : zModel) (K4 : Int32 → Int32 → Prop) (K12 : Int32 → Int32 → Int32 → Prop) (Q : Int32 → Prop) : Prop := K4 (0 : Int32) (0 : Int32)
def t_X11_replay_4 (u : zModel) (y1 : Int32) (y2 : Int32) (K4 : Int32 → Int32 → Prop) (K12 : Int32 → Int32 → Int32 → Prop) (Q : Int32 → Prop) : Prop := (((12 : Int32) ≤ y2 → Q y1) ∧ (¬ (12 : Int32) ≤ y2 → K12 y1 y2 (0 : Int32)))
def t_X11_replay_12 (u : zModel) (y1 : Int32) (y2 : Int32) (y3 : Int32) (K4 : Int32 → Int32 → Prop) (K12 : Int32 → Int32 → Int32 → Prop) (Q : Int32 → Prop) : Prop := s_X11_segmentAt u y2 (1 : Int32) (fun r_4 : Int32 => ((r_4 ≤ y3 → ∀ x_6 : Int32, x_6 = y2 + (1 : Int32) → K4 y1 x_6) ∧ (¬ r_4 ≤ y3 → s_X11_noted u y2 y3 (3 : Int32) (fun r_8 : Int32 => vp_in (7 : Int32) 5497 ∧ ((r_8 ≤ (u.2.1 (7 : Int32).toNatClampNeg) → ∀ x_10 : Int32, x_10 = (y1 + (0 : Int32)) → ∀ x_11 : Int32, x_11 = y3 + (1 : Int32) → K12 x_10 y2 x_11) ∧ (¬ r_8 ≤ (u.2.1 (7 : Int32).toNatClampNeg) → s_X11_noted u y2 y3 (3 : Int32) (fun r_13 : Int32 => vp_in (6 : Int32) 5497 ∧ (((u.2.1 (6 : Int32).toNatClampNeg) < r_13 → ∀ x_15 : Int32, x_15 = (y1 + (0 : Int32)) → ∀ x_16 : Int32, x_16 = y3 + (1 : Int32) → K12 x_15 y2 x_16) ∧ (¬ (u.2.1 (6 : Int32).toNatClampNeg) < r_13 → ∀ x_18 : Int32, x_18 = (y1 + (1 : Int32)) → ∀ x_19 : Int32, x_19 = y3 + (1 : Int32) → K12 x_18 y2 x_19)))))))))
theorem zc_X11_replay : zCalV RX11 yX11_replay cX11_replay 4 (some .int) 0 := ⟨q_im_X11_replay, q_se_X11_replay, q_in_X11, q_cd_X11_replay, ⟨by decide, by decide, by decide +kernel⟩, rfl⟩
abbrev rm_X11_replay : Room := { frames := 2, cells := 0, slots := 0, locals := 44 }
def v_X11_replay (u : zModel) (Q : Int32 → Prop) : Prop := ∃ I4 : Nat → Int32 → Int32 → Prop, ∃ I12 : Nat → Int32 → Int32 → Int32 → Prop, (∀ (n : Nat) (y1 : Int32) (y2 : Int32), I4 n y1 y2 → t_X11_replay_4 u y1 y2 (fun q0 q1 => ∃ k : Nat, k < n ∧ I4 k q0 q1) (fun q0 q1 q2 => ∃ k : Nat, k < n ∧ I12 k q0 q1 q2) Q) ∧ (∀ (n : Nat) (y1 : Int32) (y2 : Int32) (y3 : Int32), I12 n y1 y2 y3 → t_X11_replay_12 u y1 y2 y3 (fun q0 q1 => ∃ k : Nat, k < n ∧ I4 k q0 q1) (fun q0 q1 q2 => ∃ k : Nat, k < n ∧ I12 k q0 q1 q2) Q) ∧ t_X11_replay_e u (fun q0 q1 => ∃ k : Nat, I4 k q0 q1) (fun q0 q1 q2 => ∃ k : Nat, I12 k q0 q1 q2) Q
set_option maxHeartbeats 4000000 in
set_option maxRecDepth 100000 in
theorem L_X11_replay (l : Launch) (dC : Nat → ClassId) (dI : Nat → Nat → Nat) (cI cJ cS : ClassId) (a : Nat → Nat) (u : zModel) (Q : Int32 → Prop) (I4 : Nat → Int32 → Int32 → Prop) (I12 : Nat → Int32 → Int32 → Int32 → Prop) (h4 : ∀ (n : Nat) (y1 : Int32) (y2 : Int32), I4 n y1 y2 → t_X11_replay_4 u y1 y2 (fun q0 q1 => ∃ k : Nat, k < n ∧ I4 k q0 q1) (fun q0 q1 q2 => ∃ k : Nat, k < n ∧ I12 k q0 q1 q2) Q) (h12 : ∀ (n : Nat) (y1 : Int32) (y2 : Int32) (y3 : Int32), I12 n y1 y2 y3 → t_X11_replay_12 u y1 y2 y3 (fun q0 q1 => ∃ k : Nat, k < n ∧ I4 k q0 q1) (fun q0 q1 q2 => ∃ k : Nat, k < n ∧ I12 k q0 q1 q2) Q) (hf : t_X11_replay_e u (fun q0 q1 => ∃ k : Nat, I4 k q0 q1) (fun q0 q1 q2 => ∃ k : Nat, I12 k q0 q1 q2) Q) : Met l yX11_replay (Cond.code yX11_replay cX11_replay 4 (some .int) :: zT) rm_X11_replay (zPp dC dI cI cJ cS (cl_X11 cI cJ a u) [.ref (a 0)]) (vp_Si Q) 0 0 (fun _ => False) := by
  refine z_enterP (cc := cX11_replay) (maxL := 4) (ret := (some .int)) (by decide) (Nat.le_of_ble_eq_true rfl) ?_
  intro p e s m below meth c ls X hP hl
  obtain ⟨⟨hx, hb, hml, hown, hts⟩, hr, hlk, hK⟩ := id X
  have hl : lv_has ls 4 [(0, .ref (a 0))] := hl
  have LP : ∀ n : Nat, (∀ (y1 : Int32) (y2 : Int32) (ls : Array Slot), I4 n y1 y2 → lv_has ls 4 [(0, .ref (a 0)), (1, .int y1), (2, .int y2)] → W p l e rm_X11_replay s m [.ref (a 0)].toArray below meth c s.heap [] 0 0 (MQ below (vp_Si Q) [.ref (a 0)].toArray s 0 0 (fun _ => False)) (F0 m 4 ls [])) ∧ (∀ (y1 : Int32) (y2 : Int32) (y3 : Int32) (ls : Array Slot), I12 n y1 y2 y3 → lv_has ls 4 [(0, .ref (a 0)), (1, .int y1), (2, .int y2), (3, .int y3)] → W p l e rm_X11_replay s m [.ref (a 0)].toArray below meth c s.heap [] 0 0 (MQ below (vp_Si Q) [.ref (a 0)].toArray s 0 0 (fun _ => False)) (F0 m 12 ls [])) := by
    intro n
    induction n using Nat.strongRecOn with
    | _ n ih =>
      refine ⟨?_, ?_⟩
      · intro y1 y2 ls hI hl
        have hf := h4 n y1 y2 hI
        unfold t_X11_replay_4 at hf
        refine lv_iload_n hx hb dX11_replay_4 rfl (lv_at hl 2 rfl) ?_
        refine lv_bipush (v := 12) hx hb dX11_replay_5 (by decide) ?_
        refine lv_icmp_ge (tgt := 76) hx hb dX11_replay_7 (by decide) (fun c_2 => ?_) (fun c_2 => ?_)
        · have hf := hf.1 c_2
          refine lv_iload_n hx hb dX11_replay_76 rfl (lv_at hl 1 rfl) ?_
          exact z_retPi X hf dX11_replay_77
        · have hf := hf.2 c_2
          refine lv_iconst (v := 0) hx hb dX11_replay_10 (by decide) ?_
          refine lv_istore_n (lv' := [(3, .int (0 : Int32)), (0, .ref (a 0)), (1, .int y1), (2, .int y2)]) hx hb dX11_replay_11 rfl hl (by decide) rfl (fun ls hl => ?_)
          obtain ⟨k_3, hk_3, hf⟩ := hf
          exact (ih k_3 hk_3).2 _ _ _ ls hf (lv_sub hl [1, 2, 3, 0] rfl)
      · intro y1 y2 y3 ls hI hl
        have hf := h12 n y1 y2 y3 hI
        unfold t_X11_replay_12 at hf
        refine lv_iload_n hx hb dX11_replay_12 rfl (lv_at hl 3 rfl) ?_
        refine lv_aload_n hx hb dX11_replay_13 rfl (lv_at hl 0 rfl) ?_
        refine lv_iload_n hx hb dX11_replay_14 rfl (lv_at hl 2 rfl) ?_
        refine lv_iconst (v := 1) hx hb dX11_replay_15 (by decide) ?_
        refine z_cVi (As := [.int y2, .int (1 : Int32)]) (rest := [.int y3]) X (c_X11_segmentAt l dC dI cI cJ cS a u y2 (1 : Int32) _ hf) zc_X11_segmentAt q_ml_X11_53 ⟨rfl, rfl⟩ ⟨Nat.le_of_ble_eq_true rfl, Nat.le_of_ble_eq_true rfl⟩ hP [0, 1, 2, 3, 4, 5, 6, 7, 8] rfl 10 rfl rfl hl.1 rfl rfl (Nat.le_of_ble_eq_true rfl) ⟨Nat.zero_le _, Nat.zero_le _⟩ dX11_replay_16 (fun r_4 hf => ?_)
        refine lv_icmp_ge (tgt := 70) hx hb dX11_replay_19 (by decide) (fun c_5 => ?_) (fun c_5 => ?_)
        · have hf := hf.1 c_5
          obtain ⟨x_6, ex_6⟩ : ∃ y : Int32, y = y2 + (1 : Int32) := ⟨_, rfl⟩
          have hf := hf x_6 ex_6
          refine lv_iinc (v := x_6) (lv' := [(2, .int x_6), (0, .ref (a 0)), (1, .int y1), (3, .int y3)]) hx hb dX11_replay_70 hl (k := 2) rfl (by rw [ex_6]; rfl) (by decide) rfl (fun ls hl => ?_)
          refine lv_goto (tgt := 4) hx hb dX11_replay_73 (by decide) ?_
          obtain ⟨k_7, hk_7, hf⟩ := hf
          exact (ih k_7 hk_7).1 _ _ ls hf (lv_sub hl [1, 2, 0] rfl)
        · have hf := hf.2 c_5
          refine lv_iload_n hx hb dX11_replay_22 rfl (lv_at hl 1 rfl) ?_
          refine lv_aload_n hx hb dX11_replay_23 rfl (lv_at hl 0 rfl) ?_
          refine lv_iload_n hx hb dX11_replay_24 rfl (lv_at hl 2 rfl) ?_
          refine lv_iload_n hx hb dX11_replay_25 rfl (lv_at hl 3 rfl) ?_
          refine lv_iconst (v := 3) hx hb dX11_replay_26 (by decide) ?_
          refine z_cVi (As := [.int y2, .int y3, .int (3 : Int32)]) (rest := [.int y1]) X (c_X11_noted l dC dI cI cJ cS a u y2 y3 (3 : Int32) _ hf) zc_X11_noted q_ml_X11_77 ⟨rfl, rfl⟩ ⟨Nat.le_of_ble_eq_true rfl, Nat.le_of_ble_eq_true rfl⟩ hP [0, 1, 2, 3, 4, 5, 6, 7, 8] rfl 10 rfl rfl hl.1 rfl rfl (Nat.le_of_ble_eq_true rfl) ⟨Nat.zero_le _, Nat.zero_le _⟩ dX11_replay_27 (fun r_8 hf => ?_)
          refine lv_aload_n hx hb dX11_replay_30 rfl (lv_at hl 0 rfl) ?_
          refine va_get (D := (dC, dI)) (ci := 10) (v := .ref (a 1)) (C := RX11) (T := TX11) (N := 17) hx hb hts inX11 hown hK hP 0 rfl rfl 1 (by decide) (hts _ q_fl_X11_7) (fun _ h9 => h9) rfl dX11_replay_31 ?_
          refine lv_bipush (v := 7) hx hb dX11_replay_34 (by decide) ?_
          obtain ⟨hg, hf⟩ := hf
          refine va_iald hx hb hK hP 1 0 rfl rfl hg dX11_replay_36 ?_
          refine lv_icmp_le (tgt := 61) hx hb dX11_replay_37 (by decide) (fun c_9 => ?_) (fun c_9 => ?_)
          · have hf := hf.1 c_9
            refine lv_iconst (v := 0) hx hb dX11_replay_61 (by decide) ?_
            refine lv_iadd hx hb dX11_replay_62 ?_
            refine lv_topi (fun x_10 ex_10 => ?_)
            have hf := hf x_10 ex_10
            refine lv_istore_n (lv' := [(1, .int x_10), (0, .ref (a 0)), (2, .int y2), (3, .int y3)]) hx hb dX11_replay_63 rfl hl (by decide) rfl (fun ls hl => ?_)
            obtain ⟨x_11, ex_11⟩ : ∃ y : Int32, y = y3 + (1 : Int32) := ⟨_, rfl⟩
            have hf := hf x_11 ex_11
            refine lv_iinc (v := x_11) (lv' := [(3, .int x_11), (1, .int x_10), (0, .ref (a 0)), (2, .int y2)]) hx hb dX11_replay_64 hl (k := 3) rfl (by rw [ex_11]; rfl) (by decide) rfl (fun ls hl => ?_)
            refine lv_goto (tgt := 12) hx hb dX11_replay_67 (by decide) ?_
            obtain ⟨k_12, hk_12, hf⟩ := hf
            exact (ih k_12 hk_12).2 _ _ _ ls hf (lv_sub hl [2, 1, 3, 0] rfl)
          · have hf := hf.2 c_9
            refine lv_aload_n hx hb dX11_replay_40 rfl (lv_at hl 0 rfl) ?_
            refine lv_iload_n hx hb dX11_replay_41 rfl (lv_at hl 2 rfl) ?_
            refine lv_iload_n hx hb dX11_replay_42 rfl (lv_at hl 3 rfl) ?_
            refine lv_iconst (v := 3) hx hb dX11_replay_43 (by decide) ?_
            refine z_cVi (As := [.int y2, .int y3, .int (3 : Int32)]) (rest := [.int y1]) X (c_X11_noted l dC dI cI cJ cS a u y2 y3 (3 : Int32) _ hf) zc_X11_noted q_ml_X11_77 ⟨rfl, rfl⟩ ⟨Nat.le_of_ble_eq_true rfl, Nat.le_of_ble_eq_true rfl⟩ hP [0, 1, 2, 3, 4, 5, 6, 7, 8] rfl 10 rfl rfl hl.1 rfl rfl (Nat.le_of_ble_eq_true rfl) ⟨Nat.zero_le _, Nat.zero_le _⟩ dX11_replay_44 (fun r_13 hf => ?_)
            refine lv_aload_n hx hb dX11_replay_47 rfl (lv_at hl 0 rfl) ?_
            refine va_get (D := (dC, dI)) (ci := 10) (v := .ref (a 1)) (C := RX11) (T := TX11) (N := 17) hx hb hts inX11 hown hK hP 0 rfl rfl 1 (by decide) (hts _ q_fl_X11_7) (fun _ h9 => h9) rfl dX11_replay_48 ?_
            refine lv_bipush (v := 6) hx hb dX11_replay_51 (by decide) ?_
            obtain ⟨hg, hf⟩ := hf
            refine va_iald hx hb hK hP 1 0 rfl rfl hg dX11_replay_53 ?_
            refine lv_icmp_gt (tgt := 61) hx hb dX11_replay_54 (by decide) (fun c_14 => ?_) (fun c_14 => ?_)
            · have hf := hf.1 c_14
              refine lv_iconst (v := 0) hx hb dX11_replay_61 (by decide) ?_
              refine lv_iadd hx hb dX11_replay_62 ?_
              refine lv_topi (fun x_15 ex_15 => ?_)
              have hf := hf x_15 ex_15
              refine lv_istore_n (lv' := [(1, .int x_15), (0, .ref (a 0)), (2, .int y2), (3, .int y3)]) hx hb dX11_replay_63 rfl hl (by decide) rfl (fun ls hl => ?_)
              obtain ⟨x_16, ex_16⟩ : ∃ y : Int32, y = y3 + (1 : Int32) := ⟨_, rfl⟩
              have hf := hf x_16 ex_16
              refine lv_iinc (v := x_16) (lv' := [(3, .int x_16), (1, .int x_15), (0, .ref (a 0)), (2, .int y2)]) hx hb dX11_replay_64 hl (k := 3) rfl (by rw [ex_16]; rfl) (by decide) rfl (fun ls hl => ?_)
              refine lv_goto (tgt := 12) hx hb dX11_replay_67 (by decide) ?_
              obtain ⟨k_17, hk_17, hf⟩ := hf
              exact (ih k_17 hk_17).2 _ _ _ ls hf (lv_sub hl [2, 1, 3, 0] rfl)
            · have hf := hf.2 c_14
              refine lv_iconst (v := 1) hx hb dX11_replay_57 (by decide) ?_
              refine lv_goto (tgt := 62) hx hb dX11_replay_58 (by decide) ?_
              refine lv_iadd hx hb dX11_replay_62 ?_
              refine lv_topi (fun x_18 ex_18 => ?_)
              have hf := hf x_18 ex_18
              refine lv_istore_n (lv' := [(1, .int x_18), (0, .ref (a 0)), (2, .int y2), (3, .int y3)]) hx hb dX11_replay_63 rfl hl (by decide) rfl (fun ls hl => ?_)
              obtain ⟨x_19, ex_19⟩ : ∃ y : Int32, y = y3 + (1 : Int32) := ⟨_, rfl⟩
              have hf := hf x_19 ex_19
              refine lv_iinc (v := x_19) (lv' := [(3, .int x_19), (1, .int x_18), (0, .ref (a 0)), (2, .int y2)]) hx hb dX11_replay_64 hl (k := 3) rfl (by rw [ex_19]; rfl) (by decide) rfl (fun ls hl => ?_)
              refine lv_goto (tgt := 12) hx hb dX11_replay_67 (by decide) ?_
              obtain ⟨k_20, hk_20, hf⟩ := hf
              exact (ih k_20 hk_20).2 _ _ _ ls hf (lv_sub hl [2, 1, 3, 0] rfl)
  unfold t_X11_replay_e at hf
  refine lv_iconst (v := 0) hx hb dX11_replay_0 (by decide) ?_
  refine lv_istore_n (lv' := [(1, .int (0 : Int32)), (0, .ref (a 0))]) hx hb dX11_replay_1 rfl hl (by decide) rfl (fun ls hl => ?_)
  refine lv_iconst (v := 0) hx hb dX11_replay_2 (by decide) ?_
  refine lv_istore_n (lv' := [(2, .int (0 : Int32)), (1, .int (0 : Int32)), (0, .ref (a 0))]) hx hb dX11_replay_3 rfl hl (by decide) rfl (fun ls hl => ?_)
  obtain ⟨k_1, hf⟩ := hf
  exact (LP k_1).1 _ _ ls hf (lv_sub hl [2, 1, 0] rfl)
def s_X11_replay (u : zModel) (Q : Int32 → Prop) : Prop := ∃ v : zState, mOk v u.2.1 ∧ Q (nI (uRpN v 12))
theorem st_X11_replay {u : zModel} {Q : Int32 → Prop} (h : s_X11_replay u Q) : v_X11_replay u Q := by
  obtain ⟨v, hm, h⟩ := h
  have ho := hm.ok
  have hr := hm.2
  have e7 : u.2.1 7 = v.2.2.2.2.2.2.2.2 := hr.1 7 (by decide)
  have e6 : u.2.1 6 = v.2.2.2.2.2.2.2.1 := hr.1 6 (by decide)
  refine ⟨fun m y1 y2 => ∃ s : Nat, s ≤ 12 ∧ m = 1000 * (12 - s) + 500 ∧ y1 = nI (uRpN v s) ∧ y2 = nI s,
    fun m y1 y2 y3 => ∃ s j : Nat, s < 12 ∧ j ≤ cN v s ∧ m = 1000 * (12 - s) + (60 - j) ∧ y1 = nI (uRpN v s + fa_cnt (fun k => uRpl v (uRec v s k)) j) ∧ y2 = nI s ∧ y3 = nI j, ?_, ?_, ?_⟩
  · rintro m y1 y2 ⟨s, hs, rfl, rfl, rfl⟩
    refine ⟨fun c => ?_, fun c => ?_⟩
    · have : s = 12 := by
        have := (nI_leI (a := 12) (b := s) (by decide) (by omega)).mp c
        omega
      subst this
      exact h
    · have hs : s < 12 := by
        have : ¬ 12 ≤ s := fun q => c (le12 q (by omega))
        omega
      exact ⟨1000 * (12 - s) + (60 - 0), by omega, s, 0, hs, Nat.zero_le _, rfl, rfl, rfl, rfl⟩
  · rintro m y1 y2 y3 ⟨s, j, hs, hj, rfl, rfl, rfl, rfl⟩
    have h50 := ho.cl hs
    have e1 : u.2.1 (66 + 3 * s + 1) = nI (cN v s) := (hr.2.1 s 1 hs (by decide)).trans (ho.c hs)
    refine ⟨s, 1, hs, by decide, rfl, rfl, ?_⟩
    rw [e1]
    refine ⟨fun c x e => ?_, fun c => ?_⟩
    · have : j = cN v s := by
        have := (nI_leI (by omega) (by omega)).mp c
        omega
      subst this
      exact ⟨1000 * (12 - (s + 1)) + 500, by omega, s + 1, by omega, rfl, rfl, by rw [e, nI_1]⟩
    · have hj : j < cN v s := by
        have : ¬ cN v s ≤ j := fun q => c (nI_le q (by omega))
        omega
      have e3 : u.2.1 (102 + 5 * (50 * s + j) + 3) = cNum (uRec v s j) := hr.2.2.1 s j 3 hs hj (by decide)
      have nx : ∀ b : Nat, fa_cnt (fun k => uRpl v (uRec v s k)) (j + 1) = fa_cnt (fun k => uRpl v (uRec v s k)) j + b → ∀ x : Int32, x = nI (uRpN v s + fa_cnt (fun k => uRpl v (uRec v s k)) j) + nI b → ∀ x' : Int32, x' = nI j + 1 → ∃ k, k < 1000 * (12 - s) + (60 - j) ∧ ∃ s' j' : Nat, s' < 12 ∧ j' ≤ cN v s' ∧ k = 1000 * (12 - s') + (60 - j') ∧ x = nI (uRpN v s' + fa_cnt (fun k => uRpl v (uRec v s' k)) j') ∧ nI s = nI s' ∧ x' = nI j' := by
        intro b eb x ex x' ex'
        refine ⟨1000 * (12 - s) + (60 - (j + 1)), by omega, s, j + 1, hs, hj, rfl, ?_, rfl, by rw [ex', nI_1]⟩
        rw [ex, nI_add, eb, Nat.add_assoc]
      refine ⟨s, j, 3, hs, by omega, by decide, rfl, rfl, rfl, vp_in_nI (n := 7) (by decide) (by decide), ?_⟩
      rw [show (7 : Int32).toNatClampNeg = 7 by decide, show (6 : Int32).toNatClampNeg = 6 by decide, e7, e3, e6]
      refine ⟨fun c2 x e x' e' => ?_, fun c2 => ⟨s, j, 3, hs, by omega, by decide, rfl, rfl, rfl, vp_in_nI (n := 6) (by decide) (by decide), ?_⟩⟩
      · exact nx 0 (fa_cnt_no (p := fun k => uRpl v (uRec v s k)) (decide_eq_false (fun q => n_nlt q.1 c2))) x e x' e'
      · rw [e3]
        refine ⟨fun c3 x e x' e' => ?_, fun c3 x e x' e' => ?_⟩
        · exact nx 0 (fa_cnt_no (p := fun k => uRpl v (uRec v s k)) (decide_eq_false (fun q => n_nlt c3 q.2))) x e x' e'
        · exact nx 1 (fa_cnt_yes (p := fun k => uRpl v (uRec v s k)) (decide_eq_true ⟨n_nle c2, fa_of_nlt c3⟩)) x e x' e'
  · exact ⟨1000 * (12 - 0) + 500, 0, by omega, rfl, rfl, rfl⟩
theorem c_X11_replay (l : Launch) (dC : Nat → ClassId) (dI : Nat → Nat → Nat) (cI cJ cS : ClassId) (a : Nat → Nat) (u : zModel) (Q : Int32 → Prop) (hf : s_X11_replay u Q) : Met l yX11_replay (Cond.code yX11_replay cX11_replay 4 (some .int) :: zT) rm_X11_replay (zPp dC dI cI cJ cS (cl_X11 cI cJ a u) [.ref (a 0)]) (vp_Si Q) 0 0 (fun _ => False) := by
  obtain ⟨I4, I12, h4, h12, hf⟩ := st_X11_replay hf
  exact L_X11_replay l dC dI cI cJ cS a u Q I4 I12 h4 h12 hf
