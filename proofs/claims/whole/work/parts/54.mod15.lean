def t_X11_endOf_e (u : zModel) (x1 : Int32) (x2 : Int32) (K5 : Int32 → Int32 → Prop) (Q : Int32 → Prop) : Prop := K5 (-1 : Int32) (0 : Int32)
def t_X11_endOf_5 (u : zModel) (x1 : Int32) (x2 : Int32) (y3 : Int32) (y4 : Int32) (K5 : Int32 → Int32 → Prop) (Q : Int32 → Prop) : Prop := (((64 : Int32) ≤ y4 → Q y3) ∧ (¬ (64 : Int32) ≤ y4 → s_X11_hasEntry u x1 y4 (fun r_3 : Int32 => ((r_3 = 0 → ∀ x_5 : Int32, x_5 = y4 + (1 : Int32) → K5 y3 x_5) ∧ (¬ r_3 = 0 → ((¬ x2 = 0 → ∀ x_8 : Int32, x_8 = y4 + (1 : Int32) → K5 y4 x_8) ∧ (x2 = 0 → ((¬ y3 = (-1 : Int32) → ∀ x_11 : Int32, x_11 = y4 + (1 : Int32) → K5 y3 x_11) ∧ (y3 = (-1 : Int32) → ∀ x_13 : Int32, x_13 = y4 + (1 : Int32) → K5 y4 x_13)))))))))
theorem zc_X11_endOf : zCalV RX11 yX11_endOf cX11_endOf 5 (some .int) 2 := ⟨q_im_X11_endOf, q_se_X11_endOf, q_in_X11, q_cd_X11_endOf, ⟨by decide, by decide, by decide +kernel⟩, rfl⟩
abbrev rm_X11_endOf : Room := { frames := 2, cells := 0, slots := 0, locals := 43 }
def v_X11_endOf (u : zModel) (x1 : Int32) (x2 : Int32) (Q : Int32 → Prop) : Prop := ∃ I5 : Nat → Int32 → Int32 → Prop, (∀ (n : Nat) (y3 : Int32) (y4 : Int32), I5 n y3 y4 → t_X11_endOf_5 u x1 x2 y3 y4 (fun q0 q1 => ∃ k : Nat, k < n ∧ I5 k q0 q1) Q) ∧ t_X11_endOf_e u x1 x2 (fun q0 q1 => ∃ k : Nat, I5 k q0 q1) Q
set_option maxHeartbeats 4000000 in
set_option maxRecDepth 100000 in
theorem L_X11_endOf (l : Launch) (dC : Nat → ClassId) (dI : Nat → Nat → Nat) (cI cJ cS : ClassId) (a : Nat → Nat) (u : zModel) (x1 : Int32) (x2 : Int32) (Q : Int32 → Prop) (I5 : Nat → Int32 → Int32 → Prop) (h5 : ∀ (n : Nat) (y3 : Int32) (y4 : Int32), I5 n y3 y4 → t_X11_endOf_5 u x1 x2 y3 y4 (fun q0 q1 => ∃ k : Nat, k < n ∧ I5 k q0 q1) Q) (hf : t_X11_endOf_e u x1 x2 (fun q0 q1 => ∃ k : Nat, I5 k q0 q1) Q) : Met l yX11_endOf (Cond.code yX11_endOf cX11_endOf 5 (some .int) :: zT) rm_X11_endOf (zPp dC dI cI cJ cS (cl_X11 cI cJ a u) [.ref (a 0), .int x1, .int x2]) (vp_Si Q) 0 0 (fun _ => False) := by
  refine z_enterP (cc := cX11_endOf) (maxL := 5) (ret := (some .int)) (by decide) (Nat.le_of_ble_eq_true rfl) ?_
  intro p e s m below meth c ls X hP hl
  obtain ⟨⟨hx, hb, hml, hown, hts⟩, hr, hlk, hK⟩ := id X
  have hl : lv_has ls 5 [(0, .ref (a 0)), (1, .int x1), (2, .int x2)] := hl
  have LP : ∀ n : Nat, (∀ (y3 : Int32) (y4 : Int32) (ls : Array Slot), I5 n y3 y4 → lv_has ls 5 [(0, .ref (a 0)), (1, .int x1), (2, .int x2), (3, .int y3), (4, .int y4)] → W p l e rm_X11_endOf s m [.ref (a 0), .int x1, .int x2].toArray below meth c s.heap [] 0 0 (MQ below (vp_Si Q) [.ref (a 0), .int x1, .int x2].toArray s 0 0 (fun _ => False)) (F0 m 5 ls [])) := by
    intro n
    induction n using Nat.strongRecOn with
    | _ n ih =>
      intro y3 y4 ls hI hl
      have hf := h5 n y3 y4 hI
      unfold t_X11_endOf_5 at hf
      refine lv_iload hx hb dX11_endOf_5 (lv_at hl 4 rfl) ?_
      refine lv_bipush (v := 64) hx hb dX11_endOf_7 (by decide) ?_
      refine lv_icmp_ge (tgt := 40) hx hb dX11_endOf_9 (by decide) (fun c_2 => ?_) (fun c_2 => ?_)
      · have hf := hf.1 c_2
        refine lv_iload_n hx hb dX11_endOf_40 rfl (lv_at hl 3 rfl) ?_
        exact z_retPi X hf dX11_endOf_41
      · have hf := hf.2 c_2
        refine lv_aload_n hx hb dX11_endOf_12 rfl (lv_at hl 0 rfl) ?_
        refine lv_iload_n hx hb dX11_endOf_13 rfl (lv_at hl 1 rfl) ?_
        refine lv_iload hx hb dX11_endOf_14 (lv_at hl 4 rfl) ?_
        refine z_cVi (As := [.int x1, .int y4]) (rest := []) X (c_X11_hasEntry l dC dI cI cJ cS a u x1 y4 _ hf) zc_X11_hasEntry q_ml_X11_66 ⟨rfl, rfl⟩ ⟨Nat.le_of_ble_eq_true rfl, Nat.le_of_ble_eq_true rfl⟩ hP [0, 1, 2, 3, 4, 5, 6, 7, 8] rfl 10 rfl rfl hl.1 rfl rfl (Nat.le_of_ble_eq_true rfl) ⟨Nat.zero_le _, Nat.zero_le _⟩ dX11_endOf_16 (fun r_3 hf => ?_)
        obtain ⟨hbr_3, hf⟩ := hf
        refine lv_if_eq (tgt := 34) hx hb dX11_endOf_19 (by decide) (fun c_4 => ?_) (fun c_4 => ?_)
        · have hf := hf.1 c_4
          obtain ⟨x_5, ex_5⟩ : ∃ y : Int32, y = y4 + (1 : Int32) := ⟨_, rfl⟩
          have hf := hf x_5 ex_5
          refine lv_iinc (v := x_5) (lv' := [(4, .int x_5), (0, .ref (a 0)), (1, .int x1), (2, .int x2), (3, .int y3)]) hx hb dX11_endOf_34 hl (k := 4) rfl (by rw [ex_5]; rfl) (by decide) rfl (fun ls hl => ?_)
          refine lv_goto (tgt := 5) hx hb dX11_endOf_37 (by decide) ?_
          obtain ⟨k_6, hk_6, hf⟩ := hf
          exact (ih k_6 hk_6) _ _ ls hf (lv_sub hl [1, 2, 3, 4, 0] rfl)
        · have hf := hf.2 c_4
          refine lv_iload_n hx hb dX11_endOf_22 rfl (lv_at hl 2 rfl) ?_
          refine lv_if_ne (tgt := 31) hx hb dX11_endOf_23 (by decide) (fun c_7 => ?_) (fun c_7 => ?_)
          · have hf := hf.1 c_7
            refine lv_iload hx hb dX11_endOf_31 (lv_at hl 4 rfl) ?_
            refine lv_istore_n (lv' := [(3, .int y4), (0, .ref (a 0)), (1, .int x1), (2, .int x2), (4, .int y4)]) hx hb dX11_endOf_33 rfl hl (by decide) rfl (fun ls hl => ?_)
            obtain ⟨x_8, ex_8⟩ : ∃ y : Int32, y = y4 + (1 : Int32) := ⟨_, rfl⟩
            have hf := hf x_8 ex_8
            refine lv_iinc (v := x_8) (lv' := [(4, .int x_8), (3, .int y4), (0, .ref (a 0)), (1, .int x1), (2, .int x2)]) hx hb dX11_endOf_34 hl (k := 4) rfl (by rw [ex_8]; rfl) (by decide) rfl (fun ls hl => ?_)
            refine lv_goto (tgt := 5) hx hb dX11_endOf_37 (by decide) ?_
            obtain ⟨k_9, hk_9, hf⟩ := hf
            exact (ih k_9 hk_9) _ _ ls hf (lv_sub hl [2, 3, 4, 1, 0] rfl)
          · have hf := hf.2 c_7
            refine lv_iload_n hx hb dX11_endOf_26 rfl (lv_at hl 3 rfl) ?_
            refine lv_iconst (v := (-1)) hx hb dX11_endOf_27 (by decide) ?_
            refine lv_icmp_ne (tgt := 34) hx hb dX11_endOf_28 (by decide) (fun c_10 => ?_) (fun c_10 => ?_)
            · have hf := hf.1 c_10
              obtain ⟨x_11, ex_11⟩ : ∃ y : Int32, y = y4 + (1 : Int32) := ⟨_, rfl⟩
              have hf := hf x_11 ex_11
              refine lv_iinc (v := x_11) (lv' := [(4, .int x_11), (0, .ref (a 0)), (1, .int x1), (2, .int x2), (3, .int y3)]) hx hb dX11_endOf_34 hl (k := 4) rfl (by rw [ex_11]; rfl) (by decide) rfl (fun ls hl => ?_)
              refine lv_goto (tgt := 5) hx hb dX11_endOf_37 (by decide) ?_
              obtain ⟨k_12, hk_12, hf⟩ := hf
              exact (ih k_12 hk_12) _ _ ls hf (lv_sub hl [1, 2, 3, 4, 0] rfl)
            · have hf := hf.2 c_10
              refine lv_iload hx hb dX11_endOf_31 (lv_at hl 4 rfl) ?_
              refine lv_istore_n (lv' := [(3, .int y4), (0, .ref (a 0)), (1, .int x1), (2, .int x2), (4, .int y4)]) hx hb dX11_endOf_33 rfl hl (by decide) rfl (fun ls hl => ?_)
              obtain ⟨x_13, ex_13⟩ : ∃ y : Int32, y = y4 + (1 : Int32) := ⟨_, rfl⟩
              have hf := hf x_13 ex_13
              refine lv_iinc (v := x_13) (lv' := [(4, .int x_13), (3, .int y4), (0, .ref (a 0)), (1, .int x1), (2, .int x2)]) hx hb dX11_endOf_34 hl (k := 4) rfl (by rw [ex_13]; rfl) (by decide) rfl (fun ls hl => ?_)
              refine lv_goto (tgt := 5) hx hb dX11_endOf_37 (by decide) ?_
              obtain ⟨k_14, hk_14, hf⟩ := hf
              exact (ih k_14 hk_14) _ _ ls hf (lv_sub hl [2, 3, 4, 1, 0] rfl)
  unfold t_X11_endOf_e at hf
  refine lv_iconst (v := (-1)) hx hb dX11_endOf_0 (by decide) ?_
  refine lv_istore_n (lv' := [(3, .int (-1 : Int32)), (0, .ref (a 0)), (1, .int x1), (2, .int x2)]) hx hb dX11_endOf_1 rfl hl (by decide) rfl (fun ls hl => ?_)
  refine lv_iconst (v := 0) hx hb dX11_endOf_2 (by decide) ?_
  refine lv_istore (lv' := [(4, .int (0 : Int32)), (3, .int (-1 : Int32)), (0, .ref (a 0)), (1, .int x1), (2, .int x2)]) hx hb dX11_endOf_3 hl (by decide) rfl (fun ls hl => ?_)
  obtain ⟨k_1, hf⟩ := hf
  exact (LP k_1) _ _ ls hf (lv_sub hl [2, 3, 4, 1, 0] rfl)
/-- the key of a level's first entry, of its last -/
def s_X11_endOf (u : zModel) (x1 x2 : Int32) (Q : Int32 → Prop) : Prop := ∃ (v : zState) (l : Nat), mOk v u.2.1 ∧ l ≤ rN v ∧ x1 = nI l ∧ ((x2 = 0 ∧ Q (zFst (fun k => zHas v.2.2.2.1.1 l k) 64)) ∨ (x2 = 1 ∧ Q (zLst (fun k => zHas v.2.2.2.1.1 l k) 64)))
theorem zLst_none {p : Nat → Bool} : ∀ {n : Nat}, n < 2 ^ 31 → (zLst p n = -1 ↔ ∀ k, k < n → p k = false)
  | 0, _ => ⟨fun _ k hk => absurd hk (Nat.not_lt_zero k), fun _ => rfl⟩
  | n + 1, h => by
    unfold zLst
    cases hp : p n with
    | true =>
      rw [if_pos rfl]
      exact ⟨fun q => absurd q (n_neg (by omega)), fun q => by rw [q n (by omega)] at hp; exact absurd hp (by decide)⟩
    | false =>
      rw [if_neg (by decide), zLst_none (by omega)]
      constructor
      · intro q k hk
        by_cases e : k = n
        · rw [e]; exact hp
        · exact q k (by omega)
      · exact fun q k hk => q k (by omega)
theorem zFst_s (p : Nat → Bool) (n : Nat) (hn : n < 2 ^ 31) : zFst p (n + 1) = if zFst p n = -1 then (if p n then nI n else -1) else zFst p n := by
  have hs : fa_first p (n + 1) = if fa_first p n < n then fa_first p n else if p n then n else n + 1 := rfl
  have hle := fa_first_le p n
  by_cases h : fa_first p n < n
  · rw [if_pos h] at hs
    have e1 : zFst p n = nI (fa_first p n) := zFst_yes h
    have e2 : zFst p (n + 1) = nI (fa_first p n) := by rw [zFst_yes (by omega), hs]
    rw [e1, e2, if_neg (n_neg (by omega))]
  · rw [if_neg h] at hs
    have e1 : zFst p n = -1 := zFst_no h
    rw [e1, if_pos rfl]
    cases hp : p n with
    | true =>
      rw [hp, if_pos rfl] at hs
      rw [if_pos rfl, zFst_yes (by omega), hs]
    | false =>
      rw [hp, if_neg (by decide)] at hs
      rw [if_neg (by decide), zFst_no (by omega)]
theorem st_X11_endOf {u : zModel} {x1 x2 : Int32} {Q : Int32 → Prop} (h : s_X11_endOf u x1 x2 Q) : v_X11_endOf u x1 x2 Q := by
  obtain ⟨v, l, hm, hl, rfl, h⟩ := h
  have hr := hm.2
  have hR : rN v < 6 := hm.ok.2.1.2
  have ek := fun k hk => (hr.2.2.2.1 l k hl hk).1
  rcases h with ⟨rfl, h⟩ | ⟨rfl, h⟩
  · refine zlp2 (T := fun y y' K => t_X11_endOf_5 u (nI l) 0 y y' K Q) (E := fun K => t_X11_endOf_e u (nI l) 0 K Q) 64 (fun i => zFst (fun k => zHas v.2.2.2.1.1 l k) i) (fun i => nI i) (fun K hK => hK) ?_ ?_
    · intro i hi K hK
      rw [zFst_s _ i (by omega)] at hK
      refine ⟨fun c => absurd c (ge64 hi), fun _ => ⟨l, i, by omega, hi, rfl, rfl, fun d => ⟨fun _ x e => ?_, fun q => absurd rfl q⟩, fun d => ⟨fun q => absurd q (by decide), fun _ => ⟨fun q => absurd rfl q, fun _ => ⟨fun c2 x e => ?_, fun c2 x e => ?_⟩⟩⟩⟩⟩
      · rw [ek i hi] at d
        have hp : zHas v.2.2.2.1.1 l i = false := decide_eq_false (fun q => q ((uKind_pos _).mp d))
        rw [hp] at hK
        rw [e, nI_1]
        by_cases z : zFst (fun k => zHas v.2.2.2.1.1 l k) i = -1
        · rw [if_pos z, if_neg (by decide)] at hK
          show K (zFst (fun k => zHas v.2.2.2.1.1 l k) i) _
          rw [z]; exact hK
        · rw [if_neg z] at hK; exact hK
      · rw [if_neg c2] at hK
        rw [e, nI_1]; exact hK
      · rw [ek i hi] at d
        have hp : zHas v.2.2.2.1.1 l i = true := decide_eq_true (fun q => d ((uKind_pos _).mpr q))
        rw [if_pos c2, hp, if_pos rfl] at hK
        rw [e, nI_1]; exact hK
    · intro K
      exact ⟨fun _ => h, fun c => absurd (le64 (Nat.le_refl _) (by decide)) c⟩
  · refine zlp2 (T := fun y y' K => t_X11_endOf_5 u (nI l) 1 y y' K Q) (E := fun K => t_X11_endOf_e u (nI l) 1 K Q) 64 (fun i => zLst (fun k => zHas v.2.2.2.1.1 l k) i) (fun i => nI i) (fun K hK => hK) ?_ ?_
    · intro i hi K hK
      have hu : zLst (fun k => zHas v.2.2.2.1.1 l k) (i + 1) = if zHas v.2.2.2.1.1 l i then nI i else zLst (fun k => zHas v.2.2.2.1.1 l k) i := rfl
      rw [hu] at hK
      refine ⟨fun c => absurd c (ge64 hi), fun _ => ⟨l, i, by omega, hi, rfl, rfl, fun d => ⟨fun _ x e => ?_, fun q => absurd rfl q⟩, fun d => ⟨fun q => absurd q (by decide), fun _ => ⟨fun _ x e => ?_, fun q => absurd q (by decide)⟩⟩⟩⟩
      · rw [ek i hi] at d
        have hp : zHas v.2.2.2.1.1 l i = false := decide_eq_false (fun q => q ((uKind_pos _).mp d))
        rw [hp, if_neg (by decide)] at hK
        rw [e, nI_1]; exact hK
      · rw [ek i hi] at d
        have hp : zHas v.2.2.2.1.1 l i = true := decide_eq_true (fun q => d ((uKind_pos _).mpr q))
        rw [hp, if_pos rfl] at hK
        rw [e, nI_1]; exact hK
    · intro K
      exact ⟨fun _ => h, fun c => absurd (le64 (Nat.le_refl _) (by decide)) c⟩
theorem c_X11_endOf (l : Launch) (dC : Nat → ClassId) (dI : Nat → Nat → Nat) (cI cJ cS : ClassId) (a : Nat → Nat) (u : zModel) (x1 : Int32) (x2 : Int32) (Q : Int32 → Prop) (hf : s_X11_endOf u x1 x2 Q) : Met l yX11_endOf (Cond.code yX11_endOf cX11_endOf 5 (some .int) :: zT) rm_X11_endOf (zPp dC dI cI cJ cS (cl_X11 cI cJ a u) [.ref (a 0), .int x1, .int x2]) (vp_Si Q) 0 0 (fun _ => False) := by
  obtain ⟨I5, h5, hf⟩ := st_X11_endOf hf
  exact L_X11_endOf l dC dI cI cJ cS a u x1 x2 Q I5 h5 hf

def t_X11_droppedIn_e (u : zModel) (x1 : Int32) (K4 : Int32 → Int32 → Prop) (Q : Int32 → Prop) : Prop := K4 (0 : Int32) (0 : Int32)
def t_X11_droppedIn_4 (u : zModel) (x1 : Int32) (y2 : Int32) (y3 : Int32) (K4 : Int32 → Int32 → Prop) (Q : Int32 → Prop) : Prop := (((64 : Int32) ≤ y3 → Q y2) ∧ (¬ (64 : Int32) ≤ y3 → s_X11_entryAt x1 y3 (fun r_3 : Int32 => vp_in (r_3 + (1 : Int32)) 5497 ∧ ((¬ (u.2.1 (r_3 + (1 : Int32)).toNatClampNeg) = (1 : Int32) → ∀ x_5 : Int32, x_5 = (y2 + (0 : Int32)) → ∀ x_6 : Int32, x_6 = y3 + (1 : Int32) → K4 x_5 x_6) ∧ ((u.2.1 (r_3 + (1 : Int32)).toNatClampNeg) = (1 : Int32) → ∀ x_8 : Int32, x_8 = (y2 + (1 : Int32)) → ∀ x_9 : Int32, x_9 = y3 + (1 : Int32) → K4 x_8 x_9)))))
theorem zc_X11_droppedIn : zCalV RX11 yX11_droppedIn cX11_droppedIn 4 (some .int) 1 := ⟨q_im_X11_droppedIn, q_se_X11_droppedIn, q_in_X11, q_cd_X11_droppedIn, ⟨by decide, by decide, by decide +kernel⟩, rfl⟩
abbrev rm_X11_droppedIn : Room := { frames := 1, cells := 0, slots := 0, locals := 21 }
def v_X11_droppedIn (u : zModel) (x1 : Int32) (Q : Int32 → Prop) : Prop := ∃ I4 : Nat → Int32 → Int32 → Prop, (∀ (n : Nat) (y2 : Int32) (y3 : Int32), I4 n y2 y3 → t_X11_droppedIn_4 u x1 y2 y3 (fun q0 q1 => ∃ k : Nat, k < n ∧ I4 k q0 q1) Q) ∧ t_X11_droppedIn_e u x1 (fun q0 q1 => ∃ k : Nat, I4 k q0 q1) Q
set_option maxHeartbeats 4000000 in
set_option maxRecDepth 100000 in
theorem L_X11_droppedIn (l : Launch) (dC : Nat → ClassId) (dI : Nat → Nat → Nat) (cI cJ cS : ClassId) (a : Nat → Nat) (u : zModel) (x1 : Int32) (Q : Int32 → Prop) (I4 : Nat → Int32 → Int32 → Prop) (h4 : ∀ (n : Nat) (y2 : Int32) (y3 : Int32), I4 n y2 y3 → t_X11_droppedIn_4 u x1 y2 y3 (fun q0 q1 => ∃ k : Nat, k < n ∧ I4 k q0 q1) Q) (hf : t_X11_droppedIn_e u x1 (fun q0 q1 => ∃ k : Nat, I4 k q0 q1) Q) : Met l yX11_droppedIn (Cond.code yX11_droppedIn cX11_droppedIn 4 (some .int) :: zT) rm_X11_droppedIn (zPp dC dI cI cJ cS (cl_X11 cI cJ a u) [.ref (a 0), .int x1]) (vp_Si Q) 0 0 (fun _ => False) := by
  refine z_enterP (cc := cX11_droppedIn) (maxL := 4) (ret := (some .int)) (by decide) (Nat.le_of_ble_eq_true rfl) ?_
  intro p e s m below meth c ls X hP hl
  obtain ⟨⟨hx, hb, hml, hown, hts⟩, hr, hlk, hK⟩ := id X
  have hl : lv_has ls 4 [(0, .ref (a 0)), (1, .int x1)] := hl
  have LP : ∀ n : Nat, (∀ (y2 : Int32) (y3 : Int32) (ls : Array Slot), I4 n y2 y3 → lv_has ls 4 [(0, .ref (a 0)), (1, .int x1), (2, .int y2), (3, .int y3)] → W p l e rm_X11_droppedIn s m [.ref (a 0), .int x1].toArray below meth c s.heap [] 0 0 (MQ below (vp_Si Q) [.ref (a 0), .int x1].toArray s 0 0 (fun _ => False)) (F0 m 4 ls [])) := by
    intro n
    induction n using Nat.strongRecOn with
    | _ n ih =>
      intro y2 y3 ls hI hl
      have hf := h4 n y2 y3 hI
      unfold t_X11_droppedIn_4 at hf
      refine lv_iload_n hx hb dX11_droppedIn_4 rfl (lv_at hl 3 rfl) ?_
      refine lv_bipush (v := 64) hx hb dX11_droppedIn_5 (by decide) ?_
      refine lv_icmp_ge (tgt := 40) hx hb dX11_droppedIn_7 (by decide) (fun c_2 => ?_) (fun c_2 => ?_)
      · have hf := hf.1 c_2
        refine lv_iload_n hx hb dX11_droppedIn_40 rfl (lv_at hl 2 rfl) ?_
        exact z_retPi X hf dX11_droppedIn_41
      · have hf := hf.2 c_2
        refine lv_iload_n hx hb dX11_droppedIn_10 rfl (lv_at hl 2 rfl) ?_
        refine lv_aload_n hx hb dX11_droppedIn_11 rfl (lv_at hl 0 rfl) ?_
        refine va_get (D := (dC, dI)) (ci := 10) (v := .ref (a 1)) (C := RX11) (T := TX11) (N := 17) hx hb hts inX11 hown hK hP 0 rfl rfl 1 (by decide) (hts _ q_fl_X11_7) (fun _ h9 => h9) rfl dX11_droppedIn_12 ?_
        refine lv_iload_n hx hb dX11_droppedIn_15 rfl (lv_at hl 1 rfl) ?_
        refine lv_iload_n hx hb dX11_droppedIn_16 rfl (lv_at hl 3 rfl) ?_
        refine z_cSi (As := [.int x1, .int y3]) (rest := [.ref (a 1), .int y2]) X (c_X11_entryAt l dC dI cI cJ cS   x1 y3 _ hf) zc_X11_entryAt q_ml_X11_63 ⟨rfl, rfl⟩ ⟨Nat.le_of_ble_eq_true rfl, Nat.le_of_ble_eq_true rfl⟩ hP [] rfl hl.1 rfl rfl (Nat.le_of_ble_eq_true rfl) ⟨Nat.zero_le _, Nat.zero_le _⟩ dX11_droppedIn_17 (fun r_3 hf => ?_)
        refine lv_iconst (v := 1) hx hb dX11_droppedIn_20 (by decide) ?_
        refine lv_iadd hx hb dX11_droppedIn_21 ?_
        obtain ⟨hg, hf⟩ := hf
        refine va_iald hx hb hK hP 1 0 rfl rfl hg dX11_droppedIn_22 ?_
        refine lv_iconst (v := 1) hx hb dX11_droppedIn_23 (by decide) ?_
        refine lv_icmp_ne (tgt := 31) hx hb dX11_droppedIn_24 (by decide) (fun c_4 => ?_) (fun c_4 => ?_)
        · have hf := hf.1 c_4
          refine lv_iconst (v := 0) hx hb dX11_droppedIn_31 (by decide) ?_
          refine lv_iadd hx hb dX11_droppedIn_32 ?_
          refine lv_topi (fun x_5 ex_5 => ?_)
          have hf := hf x_5 ex_5
          refine lv_istore_n (lv' := [(2, .int x_5), (0, .ref (a 0)), (1, .int x1), (3, .int y3)]) hx hb dX11_droppedIn_33 rfl hl (by decide) rfl (fun ls hl => ?_)
          obtain ⟨x_6, ex_6⟩ : ∃ y : Int32, y = y3 + (1 : Int32) := ⟨_, rfl⟩
          have hf := hf x_6 ex_6
          refine lv_iinc (v := x_6) (lv' := [(3, .int x_6), (2, .int x_5), (0, .ref (a 0)), (1, .int x1)]) hx hb dX11_droppedIn_34 hl (k := 3) rfl (by rw [ex_6]; rfl) (by decide) rfl (fun ls hl => ?_)
          refine lv_goto (tgt := 4) hx hb dX11_droppedIn_37 (by decide) ?_
          obtain ⟨k_7, hk_7, hf⟩ := hf
          exact (ih k_7 hk_7) _ _ ls hf (lv_sub hl [2, 3, 1, 0] rfl)
        · have hf := hf.2 c_4
          refine lv_iconst (v := 1) hx hb dX11_droppedIn_27 (by decide) ?_
          refine lv_goto (tgt := 32) hx hb dX11_droppedIn_28 (by decide) ?_
          refine lv_iadd hx hb dX11_droppedIn_32 ?_
          refine lv_topi (fun x_8 ex_8 => ?_)
          have hf := hf x_8 ex_8
          refine lv_istore_n (lv' := [(2, .int x_8), (0, .ref (a 0)), (1, .int x1), (3, .int y3)]) hx hb dX11_droppedIn_33 rfl hl (by decide) rfl (fun ls hl => ?_)
          obtain ⟨x_9, ex_9⟩ : ∃ y : Int32, y = y3 + (1 : Int32) := ⟨_, rfl⟩
          have hf := hf x_9 ex_9
          refine lv_iinc (v := x_9) (lv' := [(3, .int x_9), (2, .int x_8), (0, .ref (a 0)), (1, .int x1)]) hx hb dX11_droppedIn_34 hl (k := 3) rfl (by rw [ex_9]; rfl) (by decide) rfl (fun ls hl => ?_)
          refine lv_goto (tgt := 4) hx hb dX11_droppedIn_37 (by decide) ?_
          obtain ⟨k_10, hk_10, hf⟩ := hf
          exact (ih k_10 hk_10) _ _ ls hf (lv_sub hl [2, 3, 1, 0] rfl)
  unfold t_X11_droppedIn_e at hf
  refine lv_iconst (v := 0) hx hb dX11_droppedIn_0 (by decide) ?_
  refine lv_istore_n (lv' := [(2, .int (0 : Int32)), (0, .ref (a 0)), (1, .int x1)]) hx hb dX11_droppedIn_1 rfl hl (by decide) rfl (fun ls hl => ?_)
  refine lv_iconst (v := 0) hx hb dX11_droppedIn_2 (by decide) ?_
  refine lv_istore_n (lv' := [(3, .int (0 : Int32)), (2, .int (0 : Int32)), (0, .ref (a 0)), (1, .int x1)]) hx hb dX11_droppedIn_3 rfl hl (by decide) rfl (fun ls hl => ?_)
  obtain ⟨k_1, hf⟩ := hf
  exact (LP k_1) _ _ ls hf (lv_sub hl [2, 3, 1, 0] rfl)
theorem kind1 (b : Int32) (c : Int64) : uKind b c = 1 ↔ ¬ c = 0 ∧ zDrp c = true := by
  unfold uKind
  by_cases h : c = 0
  · rw [if_pos h]; exact ⟨fun q => absurd q (by decide), fun q => absurd h q.1⟩
  · rw [if_neg h]
    by_cases h2 : c &&& 16128 = 0
    · rw [if_pos h2]; exact ⟨fun _ => ⟨h, (zDrp_iff c).mpr h2⟩, fun _ => rfl⟩
    · rw [if_neg h2]
      refine ⟨fun q => ?_, fun q => absurd ((zDrp_iff c).mp q.2) h2⟩
      split at q <;> exact absurd q (by decide)
def s_X11_droppedIn (u : zModel) (x1 : Int32) (Q : Int32 → Prop) : Prop := ∃ (v : zState) (l : Nat), mOk v u.2.1 ∧ l ≤ rN v ∧ x1 = nI l ∧ Q (nI (fa_cnt (fun k => zHas v.2.2.2.1.1 l k && zDrp (v.2.2.2.1.1 (64 * l + k))) 64))
theorem st_X11_droppedIn {u : zModel} {x1 : Int32} {Q : Int32 → Prop} (h : s_X11_droppedIn u x1 Q) : v_X11_droppedIn u x1 Q := by
  obtain ⟨v, l, hm, hl, rfl, h⟩ := h
  have hr := hm.2
  have hR : rN v < 6 := hm.ok.2.1.2
  have ek := fun k hk => (hr.2.2.2.1 l k hl hk).1
  refine zlp2 (T := fun y y' K => t_X11_droppedIn_4 u (nI l) y y' K Q) (E := fun K => t_X11_droppedIn_e u (nI l) K Q) 64 (fun i => nI (fa_cnt (fun k => zHas v.2.2.2.1.1 l k && zDrp (v.2.2.2.1.1 (64 * l + k))) i)) (fun i => nI i) (fun K hK => hK) ?_ ?_
  · intro i hi K hK
    refine ⟨fun c => absurd c (ge64 hi), fun _ => ?_⟩
    unfold s_X11_entryAt
    rw [ix_ent]
    dsimp only
    rw [nc_1 (by omega), ek i hi]
    refine ⟨vi_1 (by omega) (by decide), fun d x e x' e' => ?_, fun d x e x' e' => ?_⟩
    · have hp : (fun k => zHas v.2.2.2.1.1 l k && zDrp (v.2.2.2.1.1 (64 * l + k))) i = false := by
        rw [Bool.eq_false_iff]
        intro q
        simp only [Bool.and_eq_true, decide_eq_true_eq] at q
        exact d ((kind1 _ _).mpr q)
      rw [fa_cnt_no hp] at hK
      rw [e, e', nI_1, Int32.add_zero]; exact hK
    · have hp : (fun k => zHas v.2.2.2.1.1 l k && zDrp (v.2.2.2.1.1 (64 * l + k))) i = true := by
        simp only [Bool.and_eq_true, decide_eq_true_eq]
        exact (kind1 _ _).mp d
      rw [fa_cnt_yes hp] at hK
      rw [e, e', nI_1, nI_1]; exact hK
  · intro K
    exact ⟨fun _ => h, fun c => absurd (le64 (Nat.le_refl _) (by decide)) c⟩
theorem c_X11_droppedIn (l : Launch) (dC : Nat → ClassId) (dI : Nat → Nat → Nat) (cI cJ cS : ClassId) (a : Nat → Nat) (u : zModel) (x1 : Int32) (Q : Int32 → Prop) (hf : s_X11_droppedIn u x1 Q) : Met l yX11_droppedIn (Cond.code yX11_droppedIn cX11_droppedIn 4 (some .int) :: zT) rm_X11_droppedIn (zPp dC dI cI cJ cS (cl_X11 cI cJ a u) [.ref (a 0), .int x1]) (vp_Si Q) 0 0 (fun _ => False) := by
  obtain ⟨I4, h4, hf⟩ := st_X11_droppedIn hf
  exact L_X11_droppedIn l dC dI cI cJ cS a u x1 Q I4 h4 hf

def t_X11_currentIn_e (u : zModel) (x1 : Int32) (K4 : Int32 → Int32 → Prop) (Q : Int32 → Prop) : Prop := K4 (0 : Int32) (0 : Int32)
def t_X11_currentIn_4 (u : zModel) (x1 : Int32) (y2 : Int32) (y3 : Int32) (K4 : Int32 → Int32 → Prop) (Q : Int32 → Prop) : Prop := (((64 : Int32) ≤ y3 → Q y2) ∧ (¬ (64 : Int32) ≤ y3 → s_X11_tableOf u y3 (fun r_3 : Int32 => ((¬ r_3 = x1 → ∀ x_5 : Int32, x_5 = (y2 + (0 : Int32)) → ∀ x_6 : Int32, x_6 = y3 + (1 : Int32) → K4 x_5 x_6) ∧ (r_3 = x1 → ∀ x_8 : Int32, x_8 = (y2 + (1 : Int32)) → ∀ x_9 : Int32, x_9 = y3 + (1 : Int32) → K4 x_8 x_9)))))
theorem zc_X11_currentIn : zCalV RX11 yX11_currentIn cX11_currentIn 4 (some .int) 1 := ⟨q_im_X11_currentIn, q_se_X11_currentIn, q_in_X11, q_cd_X11_currentIn, ⟨by decide, by decide, by decide +kernel⟩, rfl⟩
abbrev rm_X11_currentIn : Room := { frames := 3, cells := 0, slots := 0, locals := 65 }
def v_X11_currentIn (u : zModel) (x1 : Int32) (Q : Int32 → Prop) : Prop := ∃ I4 : Nat → Int32 → Int32 → Prop, (∀ (n : Nat) (y2 : Int32) (y3 : Int32), I4 n y2 y3 → t_X11_currentIn_4 u x1 y2 y3 (fun q0 q1 => ∃ k : Nat, k < n ∧ I4 k q0 q1) Q) ∧ t_X11_currentIn_e u x1 (fun q0 q1 => ∃ k : Nat, I4 k q0 q1) Q
set_option maxHeartbeats 4000000 in
set_option maxRecDepth 100000 in
theorem L_X11_currentIn (l : Launch) (dC : Nat → ClassId) (dI : Nat → Nat → Nat) (cI cJ cS : ClassId) (a : Nat → Nat) (u : zModel) (x1 : Int32) (Q : Int32 → Prop) (I4 : Nat → Int32 → Int32 → Prop) (h4 : ∀ (n : Nat) (y2 : Int32) (y3 : Int32), I4 n y2 y3 → t_X11_currentIn_4 u x1 y2 y3 (fun q0 q1 => ∃ k : Nat, k < n ∧ I4 k q0 q1) Q) (hf : t_X11_currentIn_e u x1 (fun q0 q1 => ∃ k : Nat, I4 k q0 q1) Q) : Met l yX11_currentIn (Cond.code yX11_currentIn cX11_currentIn 4 (some .int) :: zT) rm_X11_currentIn (zPp dC dI cI cJ cS (cl_X11 cI cJ a u) [.ref (a 0), .int x1]) (vp_Si Q) 0 0 (fun _ => False) := by
  refine z_enterP (cc := cX11_currentIn) (maxL := 4) (ret := (some .int)) (by decide) (Nat.le_of_ble_eq_true rfl) ?_
  intro p e s m below meth c ls X hP hl
  obtain ⟨⟨hx, hb, hml, hown, hts⟩, hr, hlk, hK⟩ := id X
  have hl : lv_has ls 4 [(0, .ref (a 0)), (1, .int x1)] := hl
  have LP : ∀ n : Nat, (∀ (y2 : Int32) (y3 : Int32) (ls : Array Slot), I4 n y2 y3 → lv_has ls 4 [(0, .ref (a 0)), (1, .int x1), (2, .int y2), (3, .int y3)] → W p l e rm_X11_currentIn s m [.ref (a 0), .int x1].toArray below meth c s.heap [] 0 0 (MQ below (vp_Si Q) [.ref (a 0), .int x1].toArray s 0 0 (fun _ => False)) (F0 m 4 ls [])) := by
    intro n
    induction n using Nat.strongRecOn with
    | _ n ih =>
      intro y2 y3 ls hI hl
      have hf := h4 n y2 y3 hI
      unfold t_X11_currentIn_4 at hf
      refine lv_iload_n hx hb dX11_currentIn_4 rfl (lv_at hl 3 rfl) ?_
      refine lv_bipush (v := 64) hx hb dX11_currentIn_5 (by decide) ?_
      refine lv_icmp_ge (tgt := 33) hx hb dX11_currentIn_7 (by decide) (fun c_2 => ?_) (fun c_2 => ?_)
      · have hf := hf.1 c_2
        refine lv_iload_n hx hb dX11_currentIn_33 rfl (lv_at hl 2 rfl) ?_
        exact z_retPi X hf dX11_currentIn_34
      · have hf := hf.2 c_2
        refine lv_iload_n hx hb dX11_currentIn_10 rfl (lv_at hl 2 rfl) ?_
        refine lv_aload_n hx hb dX11_currentIn_11 rfl (lv_at hl 0 rfl) ?_
        refine lv_iload_n hx hb dX11_currentIn_12 rfl (lv_at hl 3 rfl) ?_
        refine z_cVi (As := [.int y3]) (rest := [.int y2]) X (c_X11_tableOf l dC dI cI cJ cS a u y3 _ hf) zc_X11_tableOf q_ml_X11_70 ⟨rfl, rfl⟩ ⟨Nat.le_of_ble_eq_true rfl, Nat.le_of_ble_eq_true rfl⟩ hP [0, 1, 2, 3, 4, 5, 6, 7, 8] rfl 10 rfl rfl hl.1 rfl rfl (Nat.le_of_ble_eq_true rfl) ⟨Nat.zero_le _, Nat.zero_le _⟩ dX11_currentIn_13 (fun r_3 hf => ?_)
        refine lv_iload_n hx hb dX11_currentIn_16 rfl (lv_at hl 1 rfl) ?_
        refine lv_icmp_ne (tgt := 24) hx hb dX11_currentIn_17 (by decide) (fun c_4 => ?_) (fun c_4 => ?_)
        · have hf := hf.1 c_4
          refine lv_iconst (v := 0) hx hb dX11_currentIn_24 (by decide) ?_
          refine lv_iadd hx hb dX11_currentIn_25 ?_
          refine lv_topi (fun x_5 ex_5 => ?_)
          have hf := hf x_5 ex_5
          refine lv_istore_n (lv' := [(2, .int x_5), (0, .ref (a 0)), (1, .int x1), (3, .int y3)]) hx hb dX11_currentIn_26 rfl hl (by decide) rfl (fun ls hl => ?_)
          obtain ⟨x_6, ex_6⟩ : ∃ y : Int32, y = y3 + (1 : Int32) := ⟨_, rfl⟩
          have hf := hf x_6 ex_6
          refine lv_iinc (v := x_6) (lv' := [(3, .int x_6), (2, .int x_5), (0, .ref (a 0)), (1, .int x1)]) hx hb dX11_currentIn_27 hl (k := 3) rfl (by rw [ex_6]; rfl) (by decide) rfl (fun ls hl => ?_)
          refine lv_goto (tgt := 4) hx hb dX11_currentIn_30 (by decide) ?_
          obtain ⟨k_7, hk_7, hf⟩ := hf
          exact (ih k_7 hk_7) _ _ ls hf (lv_sub hl [2, 3, 1, 0] rfl)
        · have hf := hf.2 c_4
          refine lv_iconst (v := 1) hx hb dX11_currentIn_20 (by decide) ?_
          refine lv_goto (tgt := 25) hx hb dX11_currentIn_21 (by decide) ?_
          refine lv_iadd hx hb dX11_currentIn_25 ?_
          refine lv_topi (fun x_8 ex_8 => ?_)
          have hf := hf x_8 ex_8
          refine lv_istore_n (lv' := [(2, .int x_8), (0, .ref (a 0)), (1, .int x1), (3, .int y3)]) hx hb dX11_currentIn_26 rfl hl (by decide) rfl (fun ls hl => ?_)
          obtain ⟨x_9, ex_9⟩ : ∃ y : Int32, y = y3 + (1 : Int32) := ⟨_, rfl⟩
          have hf := hf x_9 ex_9
          refine lv_iinc (v := x_9) (lv' := [(3, .int x_9), (2, .int x_8), (0, .ref (a 0)), (1, .int x1)]) hx hb dX11_currentIn_27 hl (k := 3) rfl (by rw [ex_9]; rfl) (by decide) rfl (fun ls hl => ?_)
          refine lv_goto (tgt := 4) hx hb dX11_currentIn_30 (by decide) ?_
          obtain ⟨k_10, hk_10, hf⟩ := hf
          exact (ih k_10 hk_10) _ _ ls hf (lv_sub hl [2, 3, 1, 0] rfl)
  unfold t_X11_currentIn_e at hf
  refine lv_iconst (v := 0) hx hb dX11_currentIn_0 (by decide) ?_
  refine lv_istore_n (lv' := [(2, .int (0 : Int32)), (0, .ref (a 0)), (1, .int x1)]) hx hb dX11_currentIn_1 rfl hl (by decide) rfl (fun ls hl => ?_)
  refine lv_iconst (v := 0) hx hb dX11_currentIn_2 (by decide) ?_
  refine lv_istore_n (lv' := [(3, .int (0 : Int32)), (2, .int (0 : Int32)), (0, .ref (a 0)), (1, .int x1)]) hx hb dX11_currentIn_3 rfl hl (by decide) rfl (fun ls hl => ?_)
  obtain ⟨k_1, hf⟩ := hf
  exact (LP k_1) _ _ ls hf (lv_sub hl [2, 3, 1, 0] rfl)
def s_X11_currentIn (u : zModel) (x1 : Int32) (Q : Int32 → Prop) : Prop := ∃ v : zState, mOk v u.2.1 ∧ Q (nI (fa_cnt (fun k => decide (uLvl v k = x1)) 64))
theorem st_X11_currentIn {u : zModel} {x1 : Int32} {Q : Int32 → Prop} (h : s_X11_currentIn u x1 Q) : v_X11_currentIn u x1 Q := by
  obtain ⟨v, hm, h⟩ := h
  refine zlp2 (T := fun y y' K => t_X11_currentIn_4 u x1 y y' K Q) (E := fun K => t_X11_currentIn_e u x1 K Q) 64 (fun i => nI (fa_cnt (fun k => decide (uLvl v k = x1)) i)) (fun i => nI i) (fun K hK => hK) ?_ ?_
  · intro i hi K hK
    refine ⟨fun c => absurd c (ge64 hi), fun _ => ⟨v, i, hm, hi, rfl, fun d x e x' e' => ?_, fun d x e x' e' => ?_⟩⟩
    · rw [fa_cnt_no (p := fun k => decide (uLvl v k = x1)) (decide_eq_false d)] at hK
      rw [e, e', nI_1, Int32.add_zero]; exact hK
    · rw [fa_cnt_yes (p := fun k => decide (uLvl v k = x1)) (decide_eq_true d)] at hK
      rw [e, e', nI_1, nI_1]; exact hK
  · intro K
    exact ⟨fun _ => h, fun c => absurd (le64 (Nat.le_refl _) (by decide)) c⟩
theorem c_X11_currentIn (l : Launch) (dC : Nat → ClassId) (dI : Nat → Nat → Nat) (cI cJ cS : ClassId) (a : Nat → Nat) (u : zModel) (x1 : Int32) (Q : Int32 → Prop) (hf : s_X11_currentIn u x1 Q) : Met l yX11_currentIn (Cond.code yX11_currentIn cX11_currentIn 4 (some .int) :: zT) rm_X11_currentIn (zPp dC dI cI cJ cS (cl_X11 cI cJ a u) [.ref (a 0), .int x1]) (vp_Si Q) 0 0 (fun _ => False) := by
  obtain ⟨I4, h4, hf⟩ := st_X11_currentIn hf
  exact L_X11_currentIn l dC dI cI cJ cS a u x1 Q I4 h4 hf

def t_X11_run (u : zModel) (x1 : Int32) (x2 : Int32) (Q : Int32 → zModel → Prop) : Prop := s_X11_isRun u x1 (fun r_1 : Int32 => ((¬ r_1 = 0 → s_X11_isIn x2 (0 : Int32) (4 : Int32) (fun r_3 : Int32 => ((¬ r_3 = 0 → (((0 : Int32) ≤ 0 → ((x2 = (0 : Int32) → s_X11_entries ((0 : Int32), u.2) (x1 + (1 : Int32)) (fun r_7 : Int32 => Q r_7 ((0 : Int32), u.2))) ∧ (¬ x2 = (0 : Int32) → ((x2 = (1 : Int32) → s_X11_endOf ((0 : Int32), u.2) (x1 + (1 : Int32)) (0 : Int32) (fun r_9 : Int32 => Q r_9 ((0 : Int32), u.2))) ∧ (¬ x2 = (1 : Int32) → ((x2 = (2 : Int32) → s_X11_endOf ((0 : Int32), u.2) (x1 + (1 : Int32)) (1 : Int32) (fun r_11 : Int32 => Q r_11 ((0 : Int32), u.2))) ∧ (¬ x2 = (2 : Int32) → ((x2 = (3 : Int32) → s_X11_droppedIn ((0 : Int32), u.2) (x1 + (1 : Int32)) (fun r_13 : Int32 => Q r_13 ((0 : Int32), u.2))) ∧ (¬ x2 = (3 : Int32) → s_X11_currentIn ((0 : Int32), u.2) (x1 + (1 : Int32)) (fun r_14 : Int32 => Q r_14 ((0 : Int32), u.2))))))))))) ∧ (¬ (0 : Int32) ≤ 0 → Q (0 : Int32) ((0 : Int32), u.2)))) ∧ (r_3 = 0 → (((2 : Int32) ≤ 0 → ((x2 = (0 : Int32) → s_X11_entries ((2 : Int32), u.2) (x1 + (1 : Int32)) (fun r_17 : Int32 => Q r_17 ((2 : Int32), u.2))) ∧ (¬ x2 = (0 : Int32) → ((x2 = (1 : Int32) → s_X11_endOf ((2 : Int32), u.2) (x1 + (1 : Int32)) (0 : Int32) (fun r_19 : Int32 => Q r_19 ((2 : Int32), u.2))) ∧ (¬ x2 = (1 : Int32) → ((x2 = (2 : Int32) → s_X11_endOf ((2 : Int32), u.2) (x1 + (1 : Int32)) (1 : Int32) (fun r_21 : Int32 => Q r_21 ((2 : Int32), u.2))) ∧ (¬ x2 = (2 : Int32) → ((x2 = (3 : Int32) → s_X11_droppedIn ((2 : Int32), u.2) (x1 + (1 : Int32)) (fun r_23 : Int32 => Q r_23 ((2 : Int32), u.2))) ∧ (¬ x2 = (3 : Int32) → s_X11_currentIn ((2 : Int32), u.2) (x1 + (1 : Int32)) (fun r_24 : Int32 => Q r_24 ((2 : Int32), u.2))))))))))) ∧ (¬ (2 : Int32) ≤ 0 → Q (0 : Int32) ((2 : Int32), u.2))))))) ∧ (r_1 = 0 → (((1 : Int32) ≤ 0 → ((x2 = (0 : Int32) → s_X11_entries ((1 : Int32), u.2) (x1 + (1 : Int32)) (fun r_27 : Int32 => Q r_27 ((1 : Int32), u.2))) ∧ (¬ x2 = (0 : Int32) → ((x2 = (1 : Int32) → s_X11_endOf ((1 : Int32), u.2) (x1 + (1 : Int32)) (0 : Int32) (fun r_29 : Int32 => Q r_29 ((1 : Int32), u.2))) ∧ (¬ x2 = (1 : Int32) → ((x2 = (2 : Int32) → s_X11_endOf ((1 : Int32), u.2) (x1 + (1 : Int32)) (1 : Int32) (fun r_31 : Int32 => Q r_31 ((1 : Int32), u.2))) ∧ (¬ x2 = (2 : Int32) → ((x2 = (3 : Int32) → s_X11_droppedIn ((1 : Int32), u.2) (x1 + (1 : Int32)) (fun r_33 : Int32 => Q r_33 ((1 : Int32), u.2))) ∧ (¬ x2 = (3 : Int32) → s_X11_currentIn ((1 : Int32), u.2) (x1 + (1 : Int32)) (fun r_34 : Int32 => Q r_34 ((1 : Int32), u.2))))))))))) ∧ (¬ (1 : Int32) ≤ 0 → Q (0 : Int32) ((1 : Int32), u.2))))))
theorem zc_X11_run : zCalV RX11 yX11_run cX11_run 3 (some .int) 2 := ⟨q_im_X11_run, q_se_X11_run, q_in_X11, q_cd_X11_run, ⟨by decide, by decide, by decide +kernel⟩, rfl⟩
abbrev rm_X11_run : Room := { frames := 4, cells := 0, slots := 0, locals := 88 }
set_option maxHeartbeats 4000000 in
set_option maxRecDepth 100000 in
theorem L_X11_run (l : Launch) (dC : Nat → ClassId) (dI : Nat → Nat → Nat) (cI cJ cS : ClassId) (a : Nat → Nat) (u : zModel) (x1 : Int32) (x2 : Int32) (Q : Int32 → zModel → Prop) (hf : t_X11_run u x1 x2 Q) : ∀ sz : Nat, Met l yX11_run (Cond.code yX11_run cX11_run 3 (some .int) :: zT) rm_X11_run (zPm dC dI cI cJ cS (cl_X11 cI cJ a u) [.ref (a 0), .int x1, .int x2] sz) (va_Qi Q (zB dC dI cI cJ cS (va_A (cl_X11 cI cJ a u) sz) (fun z => cl_X11 cI cJ a z)) (va_A (cl_X11 cI cJ a u) sz)) 0 0 (va_A (cl_X11 cI cJ a u) sz) := by
  intro sz
  refine z_enterM (Qc := fun A => va_Qi Q (zB dC dI cI cJ cS A (fun z => cl_X11 cI cJ a z)) A) (cc := cX11_run) (maxL := 3) (ret := (some .int)) (by decide) (Nat.le_of_ble_eq_true rfl) ?_
  intro p e s m below meth c ls A X hP hD hS hA hl
  obtain ⟨⟨hx, hb, hml, hown, hts⟩, hr, hlk, hK⟩ := id X
  have hl : lv_has ls 3 [(0, .ref (a 0)), (1, .int x1), (2, .int x2)] := hl
  unfold t_X11_run at hf
  refine lv_aload_n hx hb dX11_run_0 rfl (lv_at hl 0 rfl) ?_
  refine lv_aload_n hx hb dX11_run_1 rfl (lv_at hl 0 rfl) ?_
  refine lv_iload_n hx hb dX11_run_2 rfl (lv_at hl 1 rfl) ?_
  refine z_cVi (As := [.int x1]) (rest := [.ref (a 0)]) X (c_X11_isRun l dC dI cI cJ cS a u x1 _ hf) zc_X11_isRun q_ml_X11_293 ⟨rfl, rfl⟩ ⟨Nat.le_of_ble_eq_true rfl, Nat.le_of_ble_eq_true rfl⟩ hP [0, 1, 2, 3, 4, 5, 6, 7, 8] rfl 10 rfl rfl hl.1 rfl rfl (Nat.le_of_ble_eq_true rfl) ⟨Nat.zero_le _, Nat.zero_le _⟩ dX11_run_3 (fun r_1 hf => ?_)
  obtain ⟨hbr_1, hf⟩ := hf
  refine lv_if_ne (tgt := 13) hx hb dX11_run_6 (by decide) (fun c_2 => ?_) (fun c_2 => ?_)
  · have hf := hf.1 c_2
    refine lv_iload_n hx hb dX11_run_13 rfl (lv_at hl 2 rfl) ?_
    refine lv_iconst (v := 0) hx hb dX11_run_14 (by decide) ?_
    refine lv_iconst (v := 4) hx hb dX11_run_15 (by decide) ?_
    refine z_cSi (As := [.int x2, .int (0 : Int32), .int (4 : Int32)]) (rest := [.ref (a 0)]) X (c_X11_isIn l dC dI cI cJ cS   x2 (0 : Int32) (4 : Int32) _ hf) zc_X11_isIn q_ml_X11_165 ⟨rfl, rfl⟩ ⟨Nat.le_of_ble_eq_true rfl, Nat.le_of_ble_eq_true rfl⟩ hP [] rfl hl.1 rfl rfl (Nat.le_of_ble_eq_true rfl) ⟨Nat.zero_le _, Nat.zero_le _⟩ dX11_run_16 (fun r_3 hf => ?_)
    obtain ⟨hbr_3, hf⟩ := hf
    refine lv_if_ne (tgt := 26) hx hb dX11_run_19 (by decide) (fun c_4 => ?_) (fun c_4 => ?_)
    · have hf := hf.1 c_4
      refine lv_iconst (v := 0) hx hb dX11_run_26 (by decide) ?_
      refine z_put (w' := cl_X11 cI cJ a ((0 : Int32), u.2)) (ci := 10) (v := .int (0 : Int32)) (ty := .int) (Cn := RX11) (T := TX11) (N := 17) X inX11 tyX11 tyX11_ok nmX11 hP hD hS 0 rfl rfl 0 (by decide) (hts _ q_fl_X11_43) (fun _ h9 => h9) rfl (tyX11_ok 0 (by decide)) rfl rfl (Nat.le_of_ble_eq_true rfl) rfl dX11_run_27 (fun H locs hP hD hS => ?_)
      refine lv_aload_n hx hb dX11_run_30 rfl (lv_at hl 0 rfl) ?_
      refine va_get (D := (dC, dI)) (ci := 10) (v := .int (0 : Int32)) (C := RX11) (T := TX11) (N := 17) hx hb hts inX11 hown hK hP 0 rfl rfl 0 (by decide) (hts _ q_fl_X11_43) (fun _ h9 => h9) rfl dX11_run_31 ?_
      refine lv_if_le (tgt := 39) hx hb dX11_run_34 (by decide) (fun c_5 => ?_) (fun c_5 => ?_)
      · have hf := hf.1 c_5
        refine lv_iload_n hx hb dX11_run_39 rfl (lv_at hl 2 rfl) ?_
        by_cases c_6 : x2 = (0 : Int32)
        · have hf := hf.1 c_6
          refine lv_tableIn (off := 32) (tgt := 72) hx hb dX11_run_40 (by rw [c_6]; decide) (by rw [c_6]; decide) (by rw [c_6]; decide) (by decide) ?_
          refine lv_aload_n hx hb dX11_run_72 rfl (lv_at hl 0 rfl) ?_
          refine lv_iload_n hx hb dX11_run_73 rfl (lv_at hl 1 rfl) ?_
          refine lv_iconst (v := 1) hx hb dX11_run_74 (by decide) ?_
          refine lv_iadd hx hb dX11_run_75 ?_
          refine z_cVi (As := [.int (x1 + (1 : Int32))]) (rest := []) X (c_X11_entries l dC dI cI cJ cS a ((0 : Int32), u.2) (x1 + (1 : Int32)) _ hf) zc_X11_entries q_ml_X11_108 ⟨rfl, rfl⟩ ⟨Nat.le_of_ble_eq_true rfl, Nat.le_of_ble_eq_true rfl⟩ hP [0, 1, 2, 3, 4, 5, 6, 7, 8] rfl 10 rfl rfl hl.1 rfl rfl (Nat.le_of_ble_eq_true rfl) ⟨Nat.zero_le _, Nat.zero_le _⟩ dX11_run_76 (fun r_7 hf => ?_)
          exact z_retMi (Wf := (fun z => cl_X11 cI cJ a z)) (u := ((0 : Int32), u.2)) X hf hP hD hS dX11_run_79
        have hf := hf.2 c_6
        by_cases c_8 : x2 = (1 : Int32)
        · have hf := hf.1 c_8
          refine lv_tableIn (off := 40) (tgt := 80) hx hb dX11_run_40 (by rw [c_8]; decide) (by rw [c_8]; decide) (by rw [c_8]; decide) (by decide) ?_
          refine lv_aload_n hx hb dX11_run_80 rfl (lv_at hl 0 rfl) ?_
          refine lv_iload_n hx hb dX11_run_81 rfl (lv_at hl 1 rfl) ?_
          refine lv_iconst (v := 1) hx hb dX11_run_82 (by decide) ?_
          refine lv_iadd hx hb dX11_run_83 ?_
          refine lv_iconst (v := 0) hx hb dX11_run_84 (by decide) ?_
          refine z_cVi (As := [.int (x1 + (1 : Int32)), .int (0 : Int32)]) (rest := []) X (c_X11_endOf l dC dI cI cJ cS a ((0 : Int32), u.2) (x1 + (1 : Int32)) (0 : Int32) _ hf) zc_X11_endOf q_ml_X11_296 ⟨rfl, rfl⟩ ⟨Nat.le_of_ble_eq_true rfl, Nat.le_of_ble_eq_true rfl⟩ hP [0, 1, 2, 3, 4, 5, 6, 7, 8] rfl 10 rfl rfl hl.1 rfl rfl (Nat.le_of_ble_eq_true rfl) ⟨Nat.zero_le _, Nat.zero_le _⟩ dX11_run_85 (fun r_9 hf => ?_)
          exact z_retMi (Wf := (fun z => cl_X11 cI cJ a z)) (u := ((0 : Int32), u.2)) X hf hP hD hS dX11_run_88
        have hf := hf.2 c_8
        by_cases c_10 : x2 = (2 : Int32)
        · have hf := hf.1 c_10
          refine lv_tableIn (off := 49) (tgt := 89) hx hb dX11_run_40 (by rw [c_10]; decide) (by rw [c_10]; decide) (by rw [c_10]; decide) (by decide) ?_
          refine lv_aload_n hx hb dX11_run_89 rfl (lv_at hl 0 rfl) ?_
          refine lv_iload_n hx hb dX11_run_90 rfl (lv_at hl 1 rfl) ?_
          refine lv_iconst (v := 1) hx hb dX11_run_91 (by decide) ?_
          refine lv_iadd hx hb dX11_run_92 ?_
          refine lv_iconst (v := 1) hx hb dX11_run_93 (by decide) ?_
          refine z_cVi (As := [.int (x1 + (1 : Int32)), .int (1 : Int32)]) (rest := []) X (c_X11_endOf l dC dI cI cJ cS a ((0 : Int32), u.2) (x1 + (1 : Int32)) (1 : Int32) _ hf) zc_X11_endOf q_ml_X11_296 ⟨rfl, rfl⟩ ⟨Nat.le_of_ble_eq_true rfl, Nat.le_of_ble_eq_true rfl⟩ hP [0, 1, 2, 3, 4, 5, 6, 7, 8] rfl 10 rfl rfl hl.1 rfl rfl (Nat.le_of_ble_eq_true rfl) ⟨Nat.zero_le _, Nat.zero_le _⟩ dX11_run_94 (fun r_11 hf => ?_)
          exact z_retMi (Wf := (fun z => cl_X11 cI cJ a z)) (u := ((0 : Int32), u.2)) X hf hP hD hS dX11_run_97
        have hf := hf.2 c_10
        by_cases c_12 : x2 = (3 : Int32)
        · have hf := hf.1 c_12
          refine lv_tableIn (off := 58) (tgt := 98) hx hb dX11_run_40 (by rw [c_12]; decide) (by rw [c_12]; decide) (by rw [c_12]; decide) (by decide) ?_
          refine lv_aload_n hx hb dX11_run_98 rfl (lv_at hl 0 rfl) ?_
          refine lv_iload_n hx hb dX11_run_99 rfl (lv_at hl 1 rfl) ?_
          refine lv_iconst (v := 1) hx hb dX11_run_100 (by decide) ?_
          refine lv_iadd hx hb dX11_run_101 ?_
          refine z_cVi (As := [.int (x1 + (1 : Int32))]) (rest := []) X (c_X11_droppedIn l dC dI cI cJ cS a ((0 : Int32), u.2) (x1 + (1 : Int32)) _ hf) zc_X11_droppedIn q_ml_X11_299 ⟨rfl, rfl⟩ ⟨Nat.le_of_ble_eq_true rfl, Nat.le_of_ble_eq_true rfl⟩ hP [0, 1, 2, 3, 4, 5, 6, 7, 8] rfl 10 rfl rfl hl.1 rfl rfl (Nat.le_of_ble_eq_true rfl) ⟨Nat.zero_le _, Nat.zero_le _⟩ dX11_run_102 (fun r_13 hf => ?_)
          exact z_retMi (Wf := (fun z => cl_X11 cI cJ a z)) (u := ((0 : Int32), u.2)) X hf hP hD hS dX11_run_105
        have hf := hf.2 c_12
        refine lv_tableOut (tgt := 106) hx hb dX11_run_40 (by have q0 : ¬ x2.toInt = (0 : Int) := fun h => c_6 (Int32.toInt_inj.mp (show x2.toInt = (0 : Int32).toInt from h)); have q1 : ¬ x2.toInt = (1 : Int) := fun h => c_8 (Int32.toInt_inj.mp (show x2.toInt = (1 : Int32).toInt from h)); have q2 : ¬ x2.toInt = (2 : Int) := fun h => c_10 (Int32.toInt_inj.mp (show x2.toInt = (2 : Int32).toInt from h)); have q3 : ¬ x2.toInt = (3 : Int) := fun h => c_12 (Int32.toInt_inj.mp (show x2.toInt = (3 : Int32).toInt from h)); omega) (by decide) ?_
        refine lv_aload_n hx hb dX11_run_106 rfl (lv_at hl 0 rfl) ?_
        refine lv_iload_n hx hb dX11_run_107 rfl (lv_at hl 1 rfl) ?_
        refine lv_iconst (v := 1) hx hb dX11_run_108 (by decide) ?_
        refine lv_iadd hx hb dX11_run_109 ?_
        refine z_cVi (As := [.int (x1 + (1 : Int32))]) (rest := []) X (c_X11_currentIn l dC dI cI cJ cS a ((0 : Int32), u.2) (x1 + (1 : Int32)) _ hf) zc_X11_currentIn q_ml_X11_302 ⟨rfl, rfl⟩ ⟨Nat.le_of_ble_eq_true rfl, Nat.le_of_ble_eq_true rfl⟩ hP [0, 1, 2, 3, 4, 5, 6, 7, 8] rfl 10 rfl rfl hl.1 rfl rfl (Nat.le_of_ble_eq_true rfl) ⟨Nat.zero_le _, Nat.zero_le _⟩ dX11_run_110 (fun r_14 hf => ?_)
        exact z_retMi (Wf := (fun z => cl_X11 cI cJ a z)) (u := ((0 : Int32), u.2)) X hf hP hD hS dX11_run_113
      · have hf := hf.2 c_5
        refine lv_iconst (v := 0) hx hb dX11_run_37 (by decide) ?_
        exact z_retMi (Wf := (fun z => cl_X11 cI cJ a z)) (u := ((0 : Int32), u.2)) X hf hP hD hS dX11_run_38
    · have hf := hf.2 c_4
      refine lv_iconst (v := 2) hx hb dX11_run_22 (by decide) ?_
      refine lv_goto (tgt := 27) hx hb dX11_run_23 (by decide) ?_
      refine z_put (w' := cl_X11 cI cJ a ((2 : Int32), u.2)) (ci := 10) (v := .int (2 : Int32)) (ty := .int) (Cn := RX11) (T := TX11) (N := 17) X inX11 tyX11 tyX11_ok nmX11 hP hD hS 0 rfl rfl 0 (by decide) (hts _ q_fl_X11_43) (fun _ h9 => h9) rfl (tyX11_ok 0 (by decide)) rfl rfl (Nat.le_of_ble_eq_true rfl) rfl dX11_run_27 (fun H locs hP hD hS => ?_)
      refine lv_aload_n hx hb dX11_run_30 rfl (lv_at hl 0 rfl) ?_
      refine va_get (D := (dC, dI)) (ci := 10) (v := .int (2 : Int32)) (C := RX11) (T := TX11) (N := 17) hx hb hts inX11 hown hK hP 0 rfl rfl 0 (by decide) (hts _ q_fl_X11_43) (fun _ h9 => h9) rfl dX11_run_31 ?_
      refine lv_if_le (tgt := 39) hx hb dX11_run_34 (by decide) (fun c_15 => ?_) (fun c_15 => ?_)
      · have hf := hf.1 c_15
        refine lv_iload_n hx hb dX11_run_39 rfl (lv_at hl 2 rfl) ?_
        by_cases c_16 : x2 = (0 : Int32)
        · have hf := hf.1 c_16
          refine lv_tableIn (off := 32) (tgt := 72) hx hb dX11_run_40 (by rw [c_16]; decide) (by rw [c_16]; decide) (by rw [c_16]; decide) (by decide) ?_
          refine lv_aload_n hx hb dX11_run_72 rfl (lv_at hl 0 rfl) ?_
          refine lv_iload_n hx hb dX11_run_73 rfl (lv_at hl 1 rfl) ?_
          refine lv_iconst (v := 1) hx hb dX11_run_74 (by decide) ?_
          refine lv_iadd hx hb dX11_run_75 ?_
          refine z_cVi (As := [.int (x1 + (1 : Int32))]) (rest := []) X (c_X11_entries l dC dI cI cJ cS a ((2 : Int32), u.2) (x1 + (1 : Int32)) _ hf) zc_X11_entries q_ml_X11_108 ⟨rfl, rfl⟩ ⟨Nat.le_of_ble_eq_true rfl, Nat.le_of_ble_eq_true rfl⟩ hP [0, 1, 2, 3, 4, 5, 6, 7, 8] rfl 10 rfl rfl hl.1 rfl rfl (Nat.le_of_ble_eq_true rfl) ⟨Nat.zero_le _, Nat.zero_le _⟩ dX11_run_76 (fun r_17 hf => ?_)
          exact z_retMi (Wf := (fun z => cl_X11 cI cJ a z)) (u := ((2 : Int32), u.2)) X hf hP hD hS dX11_run_79
        have hf := hf.2 c_16
        by_cases c_18 : x2 = (1 : Int32)
        · have hf := hf.1 c_18
          refine lv_tableIn (off := 40) (tgt := 80) hx hb dX11_run_40 (by rw [c_18]; decide) (by rw [c_18]; decide) (by rw [c_18]; decide) (by decide) ?_
          refine lv_aload_n hx hb dX11_run_80 rfl (lv_at hl 0 rfl) ?_
          refine lv_iload_n hx hb dX11_run_81 rfl (lv_at hl 1 rfl) ?_
          refine lv_iconst (v := 1) hx hb dX11_run_82 (by decide) ?_
          refine lv_iadd hx hb dX11_run_83 ?_
          refine lv_iconst (v := 0) hx hb dX11_run_84 (by decide) ?_
          refine z_cVi (As := [.int (x1 + (1 : Int32)), .int (0 : Int32)]) (rest := []) X (c_X11_endOf l dC dI cI cJ cS a ((2 : Int32), u.2) (x1 + (1 : Int32)) (0 : Int32) _ hf) zc_X11_endOf q_ml_X11_296 ⟨rfl, rfl⟩ ⟨Nat.le_of_ble_eq_true rfl, Nat.le_of_ble_eq_true rfl⟩ hP [0, 1, 2, 3, 4, 5, 6, 7, 8] rfl 10 rfl rfl hl.1 rfl rfl (Nat.le_of_ble_eq_true rfl) ⟨Nat.zero_le _, Nat.zero_le _⟩ dX11_run_85 (fun r_19 hf => ?_)
          exact z_retMi (Wf := (fun z => cl_X11 cI cJ a z)) (u := ((2 : Int32), u.2)) X hf hP hD hS dX11_run_88
        have hf := hf.2 c_18
        by_cases c_20 : x2 = (2 : Int32)
        · have hf := hf.1 c_20
          refine lv_tableIn (off := 49) (tgt := 89) hx hb dX11_run_40 (by rw [c_20]; decide) (by rw [c_20]; decide) (by rw [c_20]; decide) (by decide) ?_
          refine lv_aload_n hx hb dX11_run_89 rfl (lv_at hl 0 rfl) ?_
          refine lv_iload_n hx hb dX11_run_90 rfl (lv_at hl 1 rfl) ?_
          refine lv_iconst (v := 1) hx hb dX11_run_91 (by decide) ?_
          refine lv_iadd hx hb dX11_run_92 ?_
          refine lv_iconst (v := 1) hx hb dX11_run_93 (by decide) ?_
          refine z_cVi (As := [.int (x1 + (1 : Int32)), .int (1 : Int32)]) (rest := []) X (c_X11_endOf l dC dI cI cJ cS a ((2 : Int32), u.2) (x1 + (1 : Int32)) (1 : Int32) _ hf) zc_X11_endOf q_ml_X11_296 ⟨rfl, rfl⟩ ⟨Nat.le_of_ble_eq_true rfl, Nat.le_of_ble_eq_true rfl⟩ hP [0, 1, 2, 3, 4, 5, 6, 7, 8] rfl 10 rfl rfl hl.1 rfl rfl (Nat.le_of_ble_eq_true rfl) ⟨Nat.zero_le _, Nat.zero_le _⟩ dX11_run_94 (fun r_21 hf => ?_)
          exact z_retMi (Wf := (fun z => cl_X11 cI cJ a z)) (u := ((2 : Int32), u.2)) X hf hP hD hS dX11_run_97
        have hf := hf.2 c_20
        by_cases c_22 : x2 = (3 : Int32)
        · have hf := hf.1 c_22
          refine lv_tableIn (off := 58) (tgt := 98) hx hb dX11_run_40 (by rw [c_22]; decide) (by rw [c_22]; decide) (by rw [c_22]; decide) (by decide) ?_
          refine lv_aload_n hx hb dX11_run_98 rfl (lv_at hl 0 rfl) ?_
          refine lv_iload_n hx hb dX11_run_99 rfl (lv_at hl 1 rfl) ?_
          refine lv_iconst (v := 1) hx hb dX11_run_100 (by decide) ?_
          refine lv_iadd hx hb dX11_run_101 ?_
          refine z_cVi (As := [.int (x1 + (1 : Int32))]) (rest := []) X (c_X11_droppedIn l dC dI cI cJ cS a ((2 : Int32), u.2) (x1 + (1 : Int32)) _ hf) zc_X11_droppedIn q_ml_X11_299 ⟨rfl, rfl⟩ ⟨Nat.le_of_ble_eq_true rfl, Nat.le_of_ble_eq_true rfl⟩ hP [0, 1, 2, 3, 4, 5, 6, 7, 8] rfl 10 rfl rfl hl.1 rfl rfl (Nat.le_of_ble_eq_true rfl) ⟨Nat.zero_le _, Nat.zero_le _⟩ dX11_run_102 (fun r_23 hf => ?_)
          exact z_retMi (Wf := (fun z => cl_X11 cI cJ a z)) (u := ((2 : Int32), u.2)) X hf hP hD hS dX11_run_105
        have hf := hf.2 c_22
        refine lv_tableOut (tgt := 106) hx hb dX11_run_40 (by have q0 : ¬ x2.toInt = (0 : Int) := fun h => c_16 (Int32.toInt_inj.mp (show x2.toInt = (0 : Int32).toInt from h)); have q1 : ¬ x2.toInt = (1 : Int) := fun h => c_18 (Int32.toInt_inj.mp (show x2.toInt = (1 : Int32).toInt from h)); have q2 : ¬ x2.toInt = (2 : Int) := fun h => c_20 (Int32.toInt_inj.mp (show x2.toInt = (2 : Int32).toInt from h)); have q3 : ¬ x2.toInt = (3 : Int) := fun h => c_22 (Int32.toInt_inj.mp (show x2.toInt = (3 : Int32).toInt from h)); omega) (by decide) ?_
        refine lv_aload_n hx hb dX11_run_106 rfl (lv_at hl 0 rfl) ?_
        refine lv_iload_n hx hb dX11_run_107 rfl (lv_at hl 1 rfl) ?_
        refine lv_iconst (v := 1) hx hb dX11_run_108 (by decide) ?_
        refine lv_iadd hx hb dX11_run_109 ?_
        refine z_cVi (As := [.int (x1 + (1 : Int32))]) (rest := []) X (c_X11_currentIn l dC dI cI cJ cS a ((2 : Int32), u.2) (x1 + (1 : Int32)) _ hf) zc_X11_currentIn q_ml_X11_302 ⟨rfl, rfl⟩ ⟨Nat.le_of_ble_eq_true rfl, Nat.le_of_ble_eq_true rfl⟩ hP [0, 1, 2, 3, 4, 5, 6, 7, 8] rfl 10 rfl rfl hl.1 rfl rfl (Nat.le_of_ble_eq_true rfl) ⟨Nat.zero_le _, Nat.zero_le _⟩ dX11_run_110 (fun r_24 hf => ?_)
        exact z_retMi (Wf := (fun z => cl_X11 cI cJ a z)) (u := ((2 : Int32), u.2)) X hf hP hD hS dX11_run_113
      · have hf := hf.2 c_15
        refine lv_iconst (v := 0) hx hb dX11_run_37 (by decide) ?_
        exact z_retMi (Wf := (fun z => cl_X11 cI cJ a z)) (u := ((2 : Int32), u.2)) X hf hP hD hS dX11_run_38
  · have hf := hf.2 c_2
    refine lv_iconst (v := 1) hx hb dX11_run_9 (by decide) ?_
    refine lv_goto (tgt := 27) hx hb dX11_run_10 (by decide) ?_
    refine z_put (w' := cl_X11 cI cJ a ((1 : Int32), u.2)) (ci := 10) (v := .int (1 : Int32)) (ty := .int) (Cn := RX11) (T := TX11) (N := 17) X inX11 tyX11 tyX11_ok nmX11 hP hD hS 0 rfl rfl 0 (by decide) (hts _ q_fl_X11_43) (fun _ h9 => h9) rfl (tyX11_ok 0 (by decide)) rfl rfl (Nat.le_of_ble_eq_true rfl) rfl dX11_run_27 (fun H locs hP hD hS => ?_)
    refine lv_aload_n hx hb dX11_run_30 rfl (lv_at hl 0 rfl) ?_
    refine va_get (D := (dC, dI)) (ci := 10) (v := .int (1 : Int32)) (C := RX11) (T := TX11) (N := 17) hx hb hts inX11 hown hK hP 0 rfl rfl 0 (by decide) (hts _ q_fl_X11_43) (fun _ h9 => h9) rfl dX11_run_31 ?_
    refine lv_if_le (tgt := 39) hx hb dX11_run_34 (by decide) (fun c_25 => ?_) (fun c_25 => ?_)
    · have hf := hf.1 c_25
      refine lv_iload_n hx hb dX11_run_39 rfl (lv_at hl 2 rfl) ?_
      by_cases c_26 : x2 = (0 : Int32)
      · have hf := hf.1 c_26
        refine lv_tableIn (off := 32) (tgt := 72) hx hb dX11_run_40 (by rw [c_26]; decide) (by rw [c_26]; decide) (by rw [c_26]; decide) (by decide) ?_
        refine lv_aload_n hx hb dX11_run_72 rfl (lv_at hl 0 rfl) ?_
        refine lv_iload_n hx hb dX11_run_73 rfl (lv_at hl 1 rfl) ?_
        refine lv_iconst (v := 1) hx hb dX11_run_74 (by decide) ?_
        refine lv_iadd hx hb dX11_run_75 ?_
        refine z_cVi (As := [.int (x1 + (1 : Int32))]) (rest := []) X (c_X11_entries l dC dI cI cJ cS a ((1 : Int32), u.2) (x1 + (1 : Int32)) _ hf) zc_X11_entries q_ml_X11_108 ⟨rfl, rfl⟩ ⟨Nat.le_of_ble_eq_true rfl, Nat.le_of_ble_eq_true rfl⟩ hP [0, 1, 2, 3, 4, 5, 6, 7, 8] rfl 10 rfl rfl hl.1 rfl rfl (Nat.le_of_ble_eq_true rfl) ⟨Nat.zero_le _, Nat.zero_le _⟩ dX11_run_76 (fun r_27 hf => ?_)
        exact z_retMi (Wf := (fun z => cl_X11 cI cJ a z)) (u := ((1 : Int32), u.2)) X hf hP hD hS dX11_run_79
      have hf := hf.2 c_26
      by_cases c_28 : x2 = (1 : Int32)
      · have hf := hf.1 c_28
        refine lv_tableIn (off := 40) (tgt := 80) hx hb dX11_run_40 (by rw [c_28]; decide) (by rw [c_28]; decide) (by rw [c_28]; decide) (by decide) ?_
        refine lv_aload_n hx hb dX11_run_80 rfl (lv_at hl 0 rfl) ?_
        refine lv_iload_n hx hb dX11_run_81 rfl (lv_at hl 1 rfl) ?_
        refine lv_iconst (v := 1) hx hb dX11_run_82 (by decide) ?_
        refine lv_iadd hx hb dX11_run_83 ?_
        refine lv_iconst (v := 0) hx hb dX11_run_84 (by decide) ?_
        refine z_cVi (As := [.int (x1 + (1 : Int32)), .int (0 : Int32)]) (rest := []) X (c_X11_endOf l dC dI cI cJ cS a ((1 : Int32), u.2) (x1 + (1 : Int32)) (0 : Int32) _ hf) zc_X11_endOf q_ml_X11_296 ⟨rfl, rfl⟩ ⟨Nat.le_of_ble_eq_true rfl, Nat.le_of_ble_eq_true rfl⟩ hP [0, 1, 2, 3, 4, 5, 6, 7, 8] rfl 10 rfl rfl hl.1 rfl rfl (Nat.le_of_ble_eq_true rfl) ⟨Nat.zero_le _, Nat.zero_le _⟩ dX11_run_85 (fun r_29 hf => ?_)
        exact z_retMi (Wf := (fun z => cl_X11 cI cJ a z)) (u := ((1 : Int32), u.2)) X hf hP hD hS dX11_run_88
      have hf := hf.2 c_28
      by_cases c_30 : x2 = (2 : Int32)
      · have hf := hf.1 c_30
        refine lv_tableIn (off := 49) (tgt := 89) hx hb dX11_run_40 (by rw [c_30]; decide) (by rw [c_30]; decide) (by rw [c_30]; decide) (by decide) ?_
        refine lv_aload_n hx hb dX11_run_89 rfl (lv_at hl 0 rfl) ?_
        refine lv_iload_n hx hb dX11_run_90 rfl (lv_at hl 1 rfl) ?_
        refine lv_iconst (v := 1) hx hb dX11_run_91 (by decide) ?_
        refine lv_iadd hx hb dX11_run_92 ?_
        refine lv_iconst (v := 1) hx hb dX11_run_93 (by decide) ?_
        refine z_cVi (As := [.int (x1 + (1 : Int32)), .int (1 : Int32)]) (rest := []) X (c_X11_endOf l dC dI cI cJ cS a ((1 : Int32), u.2) (x1 + (1 : Int32)) (1 : Int32) _ hf) zc_X11_endOf q_ml_X11_296 ⟨rfl, rfl⟩ ⟨Nat.le_of_ble_eq_true rfl, Nat.le_of_ble_eq_true rfl⟩ hP [0, 1, 2, 3, 4, 5, 6, 7, 8] rfl 10 rfl rfl hl.1 rfl rfl (Nat.le_of_ble_eq_true rfl) ⟨Nat.zero_le _, Nat.zero_le _⟩ dX11_run_94 (fun r_31 hf => ?_)
        exact z_retMi (Wf := (fun z => cl_X11 cI cJ a z)) (u := ((1 : Int32), u.2)) X hf hP hD hS dX11_run_97
      have hf := hf.2 c_30
      by_cases c_32 : x2 = (3 : Int32)
      · have hf := hf.1 c_32
        refine lv_tableIn (off := 58) (tgt := 98) hx hb dX11_run_40 (by rw [c_32]; decide) (by rw [c_32]; decide) (by rw [c_32]; decide) (by decide) ?_
        refine lv_aload_n hx hb dX11_run_98 rfl (lv_at hl 0 rfl) ?_
        refine lv_iload_n hx hb dX11_run_99 rfl (lv_at hl 1 rfl) ?_
        refine lv_iconst (v := 1) hx hb dX11_run_100 (by decide) ?_
        refine lv_iadd hx hb dX11_run_101 ?_
        refine z_cVi (As := [.int (x1 + (1 : Int32))]) (rest := []) X (c_X11_droppedIn l dC dI cI cJ cS a ((1 : Int32), u.2) (x1 + (1 : Int32)) _ hf) zc_X11_droppedIn q_ml_X11_299 ⟨rfl, rfl⟩ ⟨Nat.le_of_ble_eq_true rfl, Nat.le_of_ble_eq_true rfl⟩ hP [0, 1, 2, 3, 4, 5, 6, 7, 8] rfl 10 rfl rfl hl.1 rfl rfl (Nat.le_of_ble_eq_true rfl) ⟨Nat.zero_le _, Nat.zero_le _⟩ dX11_run_102 (fun r_33 hf => ?_)
        exact z_retMi (Wf := (fun z => cl_X11 cI cJ a z)) (u := ((1 : Int32), u.2)) X hf hP hD hS dX11_run_105
      have hf := hf.2 c_32
      refine lv_tableOut (tgt := 106) hx hb dX11_run_40 (by have q0 : ¬ x2.toInt = (0 : Int) := fun h => c_26 (Int32.toInt_inj.mp (show x2.toInt = (0 : Int32).toInt from h)); have q1 : ¬ x2.toInt = (1 : Int) := fun h => c_28 (Int32.toInt_inj.mp (show x2.toInt = (1 : Int32).toInt from h)); have q2 : ¬ x2.toInt = (2 : Int) := fun h => c_30 (Int32.toInt_inj.mp (show x2.toInt = (2 : Int32).toInt from h)); have q3 : ¬ x2.toInt = (3 : Int) := fun h => c_32 (Int32.toInt_inj.mp (show x2.toInt = (3 : Int32).toInt from h)); omega) (by decide) ?_
      refine lv_aload_n hx hb dX11_run_106 rfl (lv_at hl 0 rfl) ?_
      refine lv_iload_n hx hb dX11_run_107 rfl (lv_at hl 1 rfl) ?_
      refine lv_iconst (v := 1) hx hb dX11_run_108 (by decide) ?_
      refine lv_iadd hx hb dX11_run_109 ?_
      refine z_cVi (As := [.int (x1 + (1 : Int32))]) (rest := []) X (c_X11_currentIn l dC dI cI cJ cS a ((1 : Int32), u.2) (x1 + (1 : Int32)) _ hf) zc_X11_currentIn q_ml_X11_302 ⟨rfl, rfl⟩ ⟨Nat.le_of_ble_eq_true rfl, Nat.le_of_ble_eq_true rfl⟩ hP [0, 1, 2, 3, 4, 5, 6, 7, 8] rfl 10 rfl rfl hl.1 rfl rfl (Nat.le_of_ble_eq_true rfl) ⟨Nat.zero_le _, Nat.zero_le _⟩ dX11_run_110 (fun r_34 hf => ?_)
      exact z_retMi (Wf := (fun z => cl_X11 cI cJ a z)) (u := ((1 : Int32), u.2)) X hf hP hD hS dX11_run_113
    · have hf := hf.2 c_25
      refine lv_iconst (v := 0) hx hb dX11_run_37 (by decide) ?_
      exact z_retMi (Wf := (fun z => cl_X11 cI cJ a z)) (u := ((1 : Int32), u.2)) X hf hP hD hS dX11_run_38
theorem isRun_of {u : zModel} {v : zState} {x : Int32} {Q : Int32 → Prop} (hr : mRel v u.2.1) (h1 : isRn v x → Q 1) (h0 : ¬ isRn v x → Q 0) : s_X11_isRun u x Q := by
  refine ⟨vp_in_nI (n := 4) (by decide) (by decide), ?_⟩
  rw [n_c4, hr.1 4 (by decide)]
  exact isIn_of h1 h0
def s_X11_run (u : zModel) (x1 x2 : Int32) (Q : Int32 → zModel → Prop) : Prop := mAsk u (fun v => fRun v x1 x2) Q
theorem st_X11_run {u : zModel} {x1 x2 : Int32} {Q : Int32 → zModel → Prop} (h : s_X11_run u x1 x2 Q) : t_X11_run u x1 x2 Q := by
  obtain ⟨B, G, hG, hm, hQ⟩ := h
  dsimp only at hQ
  unfold fRun at hQ
  have hmk : mOk (gNow G) u.2.1 := hG.1.mok hm.now
  have ho := hG.1.ok
  refine isRun_of hm.now (fun c1 => ⟨fun _ => isIn_of (fun c2 => ⟨fun _ => ⟨fun _ => ?_, fun q => absurd (by decide) q⟩, fun q => absurd q (by decide)⟩) (fun c2 => ⟨fun q => absurd rfl q, fun _ => ⟨fun q => absurd q (by decide), fun _ => ?_⟩⟩), fun q => absurd q (by decide)⟩) (fun c1 => ⟨fun q => absurd rfl q, fun _ => ⟨fun q => absurd q (by decide), fun _ => ?_⟩⟩)
  · rw [if_pos c1, if_pos c2] at hQ
    obtain ⟨n, hn, rfl, en⟩ := run_n ho c1
    have hR := ho.2.1.2
    rw [en] at hQ
    have hQ := hQ _ (hm.th 0) rfl
    dsimp only at hQ
    unfold aRun at hQ
    rw [nI_1]
    refine ⟨fun d => ⟨n + 1, by omega, rfl, ?_⟩, fun d => ?_⟩
    · rw [if_pos d] at hQ
      have := entries_rel hm.now (t := n + 1) (show n + 1 ≤ rN (gNow G) by omega)
      show Q (nI (fa_cnt (fun k => decide (¬ u.2.1 (3102 + 6 * (64 * (n + 1) + k) + 1) ≤ 0)) 64)) _
      rw [this]; exact hQ
    rw [if_neg d] at hQ
    refine ⟨fun d => ⟨gNow G, n + 1, hmk, by omega, rfl, Or.inl ⟨rfl, ?_⟩⟩, fun d => ?_⟩
    · rw [if_pos d] at hQ; exact hQ
    rw [if_neg d] at hQ
    refine ⟨fun d => ⟨gNow G, n + 1, hmk, by omega, rfl, Or.inr ⟨rfl, ?_⟩⟩, fun d => ?_⟩
    · rw [if_pos d] at hQ; exact hQ
    rw [if_neg d] at hQ
    refine ⟨fun d => ⟨gNow G, n + 1, hmk, by omega, rfl, ?_⟩, fun d => ⟨gNow G, hmk, ?_⟩⟩
    · rw [if_pos d] at hQ; exact hQ
    · rw [if_neg d] at hQ; exact hQ
  · rw [if_pos c1, if_neg c2] at hQ
    exact hQ _ (hm.th 2) rfl
  · rw [if_neg c1] at hQ
    exact hQ _ (hm.th 1) rfl
theorem c_X11_run (l : Launch) (dC : Nat → ClassId) (dI : Nat → Nat → Nat) (cI cJ cS : ClassId) (a : Nat → Nat) (u : zModel) (x1 : Int32) (x2 : Int32) (Q : Int32 → zModel → Prop) (hf : s_X11_run u x1 x2 Q) : ∀ sz : Nat, Met l yX11_run (Cond.code yX11_run cX11_run 3 (some .int) :: zT) rm_X11_run (zPm dC dI cI cJ cS (cl_X11 cI cJ a u) [.ref (a 0), .int x1, .int x2] sz) (va_Qi Q (zB dC dI cI cJ cS (va_A (cl_X11 cI cJ a u) sz) (fun z => cl_X11 cI cJ a z)) (va_A (cl_X11 cI cJ a u) sz)) 0 0 (va_A (cl_X11 cI cJ a u) sz) := L_X11_run l dC dI cI cJ cS a u x1 x2 Q (st_X11_run hf)

def t_X11_entry_e (u : zModel) (x1 : Int32) (x2 : Int32) (K36 : Int32 → Int32 → zModel → Prop) (Q : Int32 → zModel → Prop) : Prop := ((x1 = (-1 : Int32) → (((0 : Int32) ≤ 0 → K36 (0 : Int32) (0 : Int32) ((0 : Int32), u.2)) ∧ (¬ (0 : Int32) ≤ 0 → Q (0 : Int32) ((0 : Int32), u.2)))) ∧ (¬ x1 = (-1 : Int32) → s_X11_isRun u x1 (fun r_4 : Int32 => ((r_4 = 0 → (((1 : Int32) ≤ 0 → K36 (0 : Int32) (0 : Int32) ((1 : Int32), u.2)) ∧ (¬ (1 : Int32) ≤ 0 → Q (0 : Int32) ((1 : Int32), u.2)))) ∧ (¬ r_4 = 0 → (((0 : Int32) ≤ 0 → K36 (0 : Int32) (0 : Int32) ((0 : Int32), u.2)) ∧ (¬ (0 : Int32) ≤ 0 → Q (0 : Int32) ((0 : Int32), u.2))))))))
def t_X11_entry_36 (x1 : Int32) (x2 : Int32) (y3 : Int32) (y4 : Int32) (z : zModel) (K36 : Int32 → Int32 → zModel → Prop) (Q : Int32 → zModel → Prop) : Prop := (((64 : Int32) ≤ y4 → Q (-1 : Int32) z) ∧ (¬ (64 : Int32) ≤ y4 → s_X11_hasEntry z (x1 + (1 : Int32)) y4 (fun r_11 : Int32 => ((¬ r_11 = 0 → ((¬ y3 = x2 → ∀ x_14 : Int32, x_14 = y3 + (1 : Int32) → ∀ x_15 : Int32, x_15 = y4 + (1 : Int32) → K36 x_14 x_15 z) ∧ (y3 = x2 → Q y4 z))) ∧ (r_11 = 0 → ∀ x_17 : Int32, x_17 = y4 + (1 : Int32) → K36 y3 x_17 z)))))
theorem zc_X11_entry : zCalV RX11 yX11_entry cX11_entry 5 (some .int) 2 := ⟨q_im_X11_entry, q_se_X11_entry, q_in_X11, q_cd_X11_entry, ⟨by decide, by decide, by decide +kernel⟩, rfl⟩
abbrev rm_X11_entry : Room := { frames := 2, cells := 0, slots := 0, locals := 43 }
def v_X11_entry (u : zModel) (x1 : Int32) (x2 : Int32) (Q : Int32 → zModel → Prop) : Prop := ∃ I36 : Nat → Int32 → Int32 → zModel → Prop, (∀ (n : Nat) (y3 : Int32) (y4 : Int32) (z : zModel), I36 n y3 y4 z → t_X11_entry_36 x1 x2 y3 y4 z (fun q0 q1 q2 => ∃ k : Nat, k < n ∧ I36 k q0 q1 q2) Q) ∧ t_X11_entry_e u x1 x2 (fun q0 q1 q2 => ∃ k : Nat, I36 k q0 q1 q2) Q
set_option maxHeartbeats 4000000 in
set_option maxRecDepth 100000 in
theorem L_X11_entry (l : Launch) (dC : Nat → ClassId) (dI : Nat → Nat → Nat) (cI cJ cS : ClassId) (a : Nat → Nat) (u : zModel) (x1 : Int32) (x2 : Int32) (Q : Int32 → zModel → Prop) (I36 : Nat → Int32 → Int32 → zModel → Prop) (h36 : ∀ (n : Nat) (y3 : Int32) (y4 : Int32) (z : zModel), I36 n y3 y4 z → t_X11_entry_36 x1 x2 y3 y4 z (fun q0 q1 q2 => ∃ k : Nat, k < n ∧ I36 k q0 q1 q2) Q) (hf : t_X11_entry_e u x1 x2 (fun q0 q1 q2 => ∃ k : Nat, I36 k q0 q1 q2) Q) : ∀ sz : Nat, Met l yX11_entry (Cond.code yX11_entry cX11_entry 5 (some .int) :: zT) rm_X11_entry (zPm dC dI cI cJ cS (cl_X11 cI cJ a u) [.ref (a 0), .int x1, .int x2] sz) (va_Qi Q (zB dC dI cI cJ cS (va_A (cl_X11 cI cJ a u) sz) (fun z => cl_X11 cI cJ a z)) (va_A (cl_X11 cI cJ a u) sz)) 0 0 (va_A (cl_X11 cI cJ a u) sz) := by
  intro sz
  refine z_enterM (Qc := fun A => va_Qi Q (zB dC dI cI cJ cS A (fun z => cl_X11 cI cJ a z)) A) (cc := cX11_entry) (maxL := 5) (ret := (some .int)) (by decide) (Nat.le_of_ble_eq_true rfl) ?_
  intro p e s m below meth c ls A X hP hD hS hA hl
  obtain ⟨⟨hx, hb, hml, hown, hts⟩, hr, hlk, hK⟩ := id X
  have hl : lv_has ls 5 [(0, .ref (a 0)), (1, .int x1), (2, .int x2)] := hl
  have LP : ∀ n : Nat, (∀ (y3 : Int32) (y4 : Int32) (z : zModel) (H : Heap) (locs : List Loc) (ls : Array Slot), I36 n y3 y4 z → va_P (dC, dI) vwCl (cl_X11 cI cJ a z) H → va_D A (cl_X11 cI cJ a z) → va_S A s.heap H locs → lv_has ls 5 [(0, .ref (a 0)), (1, .int x1), (2, .int x2), (3, .int y3), (4, .int y4)] → W p l e rm_X11_entry s m [.ref (a 0), .int x1, .int x2].toArray below meth c H locs 0 0 (MQ below (va_Qi Q (zB dC dI cI cJ cS A (fun z => cl_X11 cI cJ a z)) A) [.ref (a 0), .int x1, .int x2].toArray s 0 0 A) (F0 m 36 ls [])) := by
    intro n
    induction n using Nat.strongRecOn with
    | _ n ih =>
      intro y3 y4 z H locs ls hI hP hD hS hl
      have hf := h36 n y3 y4 z hI
      unfold t_X11_entry_36 at hf
      refine lv_iload hx hb dX11_entry_36 (lv_at hl 4 rfl) ?_
      refine lv_bipush (v := 64) hx hb dX11_entry_38 (by decide) ?_
      refine lv_icmp_ge (tgt := 75) hx hb dX11_entry_40 (by decide) (fun c_10 => ?_) (fun c_10 => ?_)
      · have hf := hf.1 c_10
        refine lv_iconst (v := (-1)) hx hb dX11_entry_75 (by decide) ?_
        exact z_retMi (Wf := (fun z => cl_X11 cI cJ a z)) (u := z) X hf hP hD hS dX11_entry_76
      · have hf := hf.2 c_10
        refine lv_aload_n hx hb dX11_entry_43 rfl (lv_at hl 0 rfl) ?_
        refine lv_iload_n hx hb dX11_entry_44 rfl (lv_at hl 1 rfl) ?_
        refine lv_iconst (v := 1) hx hb dX11_entry_45 (by decide) ?_
        refine lv_iadd hx hb dX11_entry_46 ?_
        refine lv_iload hx hb dX11_entry_47 (lv_at hl 4 rfl) ?_
        refine z_cVi (As := [.int (x1 + (1 : Int32)), .int y4]) (rest := []) X (c_X11_hasEntry l dC dI cI cJ cS a z (x1 + (1 : Int32)) y4 _ hf) zc_X11_hasEntry q_ml_X11_66 ⟨rfl, rfl⟩ ⟨Nat.le_of_ble_eq_true rfl, Nat.le_of_ble_eq_true rfl⟩ hP [0, 1, 2, 3, 4, 5, 6, 7, 8] rfl 10 rfl rfl hl.1 rfl rfl (Nat.le_of_ble_eq_true rfl) ⟨Nat.zero_le _, Nat.zero_le _⟩ dX11_entry_49 (fun r_11 hf => ?_)
        obtain ⟨hbr_11, hf⟩ := hf
        refine lv_if_ne (tgt := 58) hx hb dX11_entry_52 (by decide) (fun c_12 => ?_) (fun c_12 => ?_)
        · have hf := hf.1 c_12
          refine lv_iload_n hx hb dX11_entry_58 rfl (lv_at hl 3 rfl) ?_
          refine lv_iload_n hx hb dX11_entry_59 rfl (lv_at hl 2 rfl) ?_
          refine lv_icmp_ne (tgt := 66) hx hb dX11_entry_60 (by decide) (fun c_13 => ?_) (fun c_13 => ?_)
          · have hf := hf.1 c_13
            obtain ⟨x_14, ex_14⟩ : ∃ y : Int32, y = y3 + (1 : Int32) := ⟨_, rfl⟩
            have hf := hf x_14 ex_14
            refine lv_iinc (v := x_14) (lv' := [(3, .int x_14), (0, .ref (a 0)), (1, .int x1), (2, .int x2), (4, .int y4)]) hx hb dX11_entry_66 hl (k := 3) rfl (by rw [ex_14]; rfl) (by decide) rfl (fun ls hl => ?_)
            obtain ⟨x_15, ex_15⟩ : ∃ y : Int32, y = y4 + (1 : Int32) := ⟨_, rfl⟩
            have hf := hf x_15 ex_15
            refine lv_iinc (v := x_15) (lv' := [(4, .int x_15), (3, .int x_14), (0, .ref (a 0)), (1, .int x1), (2, .int x2)]) hx hb dX11_entry_69 hl (k := 4) rfl (by rw [ex_15]; rfl) (by decide) rfl (fun ls hl => ?_)
            refine lv_goto (tgt := 36) hx hb dX11_entry_72 (by decide) ?_
            obtain ⟨k_16, hk_16, hf⟩ := hf
            exact (ih k_16 hk_16) _ _ z _ _ ls hf hP hD hS (lv_sub hl [2, 3, 4, 1, 0] rfl)
          · have hf := hf.2 c_13
            refine lv_iload hx hb dX11_entry_63 (lv_at hl 4 rfl) ?_
            exact z_retMi (Wf := (fun z => cl_X11 cI cJ a z)) (u := z) X hf hP hD hS dX11_entry_65
        · have hf := hf.2 c_12
          refine lv_goto (tgt := 69) hx hb dX11_entry_55 (by decide) ?_
          obtain ⟨x_17, ex_17⟩ : ∃ y : Int32, y = y4 + (1 : Int32) := ⟨_, rfl⟩
          have hf := hf x_17 ex_17
          refine lv_iinc (v := x_17) (lv' := [(4, .int x_17), (0, .ref (a 0)), (1, .int x1), (2, .int x2), (3, .int y3)]) hx hb dX11_entry_69 hl (k := 4) rfl (by rw [ex_17]; rfl) (by decide) rfl (fun ls hl => ?_)
          refine lv_goto (tgt := 36) hx hb dX11_entry_72 (by decide) ?_
          obtain ⟨k_18, hk_18, hf⟩ := hf
          exact (ih k_18 hk_18) _ _ z _ _ ls hf hP hD hS (lv_sub hl [1, 2, 3, 4, 0] rfl)
  unfold t_X11_entry_e at hf
  refine lv_aload_n hx hb dX11_entry_0 rfl (lv_at hl 0 rfl) ?_
  refine lv_iload_n hx hb dX11_entry_1 rfl (lv_at hl 1 rfl) ?_
  refine lv_iconst (v := (-1)) hx hb dX11_entry_2 (by decide) ?_
  refine lv_icmp_eq (tgt := 14) hx hb dX11_entry_3 (by decide) (fun c_1 => ?_) (fun c_1 => ?_)
  · have hf := hf.1 c_1
    refine lv_iconst (v := 0) hx hb dX11_entry_14 (by decide) ?_
    refine lv_goto (tgt := 19) hx hb dX11_entry_15 (by decide) ?_
    refine z_put (w' := cl_X11 cI cJ a ((0 : Int32), u.2)) (ci := 10) (v := .int (0 : Int32)) (ty := .int) (Cn := RX11) (T := TX11) (N := 17) X inX11 tyX11 tyX11_ok nmX11 hP hD hS 0 rfl rfl 0 (by decide) (hts _ q_fl_X11_43) (fun _ h9 => h9) rfl (tyX11_ok 0 (by decide)) rfl rfl (Nat.le_of_ble_eq_true rfl) rfl dX11_entry_19 (fun H locs hP hD hS => ?_)
    refine lv_aload_n hx hb dX11_entry_22 rfl (lv_at hl 0 rfl) ?_
    refine va_get (D := (dC, dI)) (ci := 10) (v := .int (0 : Int32)) (C := RX11) (T := TX11) (N := 17) hx hb hts inX11 hown hK hP 0 rfl rfl 0 (by decide) (hts _ q_fl_X11_43) (fun _ h9 => h9) rfl dX11_entry_23 ?_
    refine lv_if_le (tgt := 31) hx hb dX11_entry_26 (by decide) (fun c_2 => ?_) (fun c_2 => ?_)
    · have hf := hf.1 c_2
      refine lv_iconst (v := 0) hx hb dX11_entry_31 (by decide) ?_
      refine lv_istore_n (lv' := [(3, .int (0 : Int32)), (0, .ref (a 0)), (1, .int x1), (2, .int x2)]) hx hb dX11_entry_32 rfl hl (by decide) rfl (fun ls hl => ?_)
      refine lv_iconst (v := 0) hx hb dX11_entry_33 (by decide) ?_
      refine lv_istore (lv' := [(4, .int (0 : Int32)), (3, .int (0 : Int32)), (0, .ref (a 0)), (1, .int x1), (2, .int x2)]) hx hb dX11_entry_34 hl (by decide) rfl (fun ls hl => ?_)
      obtain ⟨k_3, hf⟩ := hf
      exact (LP k_3) _ _ ((0 : Int32), u.2) _ _ ls hf hP hD hS (lv_sub hl [2, 3, 4, 1, 0] rfl)
    · have hf := hf.2 c_2
      refine lv_iconst (v := 0) hx hb dX11_entry_29 (by decide) ?_
      exact z_retMi (Wf := (fun z => cl_X11 cI cJ a z)) (u := ((0 : Int32), u.2)) X hf hP hD hS dX11_entry_30
  · have hf := hf.2 c_1
    refine lv_aload_n hx hb dX11_entry_6 rfl (lv_at hl 0 rfl) ?_
    refine lv_iload_n hx hb dX11_entry_7 rfl (lv_at hl 1 rfl) ?_
    refine z_cVi (As := [.int x1]) (rest := [.ref (a 0)]) X (c_X11_isRun l dC dI cI cJ cS a u x1 _ hf) zc_X11_isRun q_ml_X11_293 ⟨rfl, rfl⟩ ⟨Nat.le_of_ble_eq_true rfl, Nat.le_of_ble_eq_true rfl⟩ hP [0, 1, 2, 3, 4, 5, 6, 7, 8] rfl 10 rfl rfl hl.1 rfl rfl (Nat.le_of_ble_eq_true rfl) ⟨Nat.zero_le _, Nat.zero_le _⟩ dX11_entry_8 (fun r_4 hf => ?_)
    obtain ⟨hbr_4, hf⟩ := hf
    refine lv_if_eq (tgt := 18) hx hb dX11_entry_11 (by decide) (fun c_5 => ?_) (fun c_5 => ?_)
    · have hf := hf.1 c_5
      refine lv_iconst (v := 1) hx hb dX11_entry_18 (by decide) ?_
      refine z_put (w' := cl_X11 cI cJ a ((1 : Int32), u.2)) (ci := 10) (v := .int (1 : Int32)) (ty := .int) (Cn := RX11) (T := TX11) (N := 17) X inX11 tyX11 tyX11_ok nmX11 hP hD hS 0 rfl rfl 0 (by decide) (hts _ q_fl_X11_43) (fun _ h9 => h9) rfl (tyX11_ok 0 (by decide)) rfl rfl (Nat.le_of_ble_eq_true rfl) rfl dX11_entry_19 (fun H locs hP hD hS => ?_)
      refine lv_aload_n hx hb dX11_entry_22 rfl (lv_at hl 0 rfl) ?_
      refine va_get (D := (dC, dI)) (ci := 10) (v := .int (1 : Int32)) (C := RX11) (T := TX11) (N := 17) hx hb hts inX11 hown hK hP 0 rfl rfl 0 (by decide) (hts _ q_fl_X11_43) (fun _ h9 => h9) rfl dX11_entry_23 ?_
      refine lv_if_le (tgt := 31) hx hb dX11_entry_26 (by decide) (fun c_6 => ?_) (fun c_6 => ?_)
      · have hf := hf.1 c_6
        refine lv_iconst (v := 0) hx hb dX11_entry_31 (by decide) ?_
        refine lv_istore_n (lv' := [(3, .int (0 : Int32)), (0, .ref (a 0)), (1, .int x1), (2, .int x2)]) hx hb dX11_entry_32 rfl hl (by decide) rfl (fun ls hl => ?_)
        refine lv_iconst (v := 0) hx hb dX11_entry_33 (by decide) ?_
        refine lv_istore (lv' := [(4, .int (0 : Int32)), (3, .int (0 : Int32)), (0, .ref (a 0)), (1, .int x1), (2, .int x2)]) hx hb dX11_entry_34 hl (by decide) rfl (fun ls hl => ?_)
        obtain ⟨k_7, hf⟩ := hf
        exact (LP k_7) _ _ ((1 : Int32), u.2) _ _ ls hf hP hD hS (lv_sub hl [2, 3, 4, 1, 0] rfl)
      · have hf := hf.2 c_6
        refine lv_iconst (v := 0) hx hb dX11_entry_29 (by decide) ?_
        exact z_retMi (Wf := (fun z => cl_X11 cI cJ a z)) (u := ((1 : Int32), u.2)) X hf hP hD hS dX11_entry_30
    · have hf := hf.2 c_5
      refine lv_iconst (v := 0) hx hb dX11_entry_14 (by decide) ?_
      refine lv_goto (tgt := 19) hx hb dX11_entry_15 (by decide) ?_
      refine z_put (w' := cl_X11 cI cJ a ((0 : Int32), u.2)) (ci := 10) (v := .int (0 : Int32)) (ty := .int) (Cn := RX11) (T := TX11) (N := 17) X inX11 tyX11 tyX11_ok nmX11 hP hD hS 0 rfl rfl 0 (by decide) (hts _ q_fl_X11_43) (fun _ h9 => h9) rfl (tyX11_ok 0 (by decide)) rfl rfl (Nat.le_of_ble_eq_true rfl) rfl dX11_entry_19 (fun H locs hP hD hS => ?_)
      refine lv_aload_n hx hb dX11_entry_22 rfl (lv_at hl 0 rfl) ?_
      refine va_get (D := (dC, dI)) (ci := 10) (v := .int (0 : Int32)) (C := RX11) (T := TX11) (N := 17) hx hb hts inX11 hown hK hP 0 rfl rfl 0 (by decide) (hts _ q_fl_X11_43) (fun _ h9 => h9) rfl dX11_entry_23 ?_
      refine lv_if_le (tgt := 31) hx hb dX11_entry_26 (by decide) (fun c_8 => ?_) (fun c_8 => ?_)
      · have hf := hf.1 c_8
        refine lv_iconst (v := 0) hx hb dX11_entry_31 (by decide) ?_
        refine lv_istore_n (lv' := [(3, .int (0 : Int32)), (0, .ref (a 0)), (1, .int x1), (2, .int x2)]) hx hb dX11_entry_32 rfl hl (by decide) rfl (fun ls hl => ?_)
        refine lv_iconst (v := 0) hx hb dX11_entry_33 (by decide) ?_
        refine lv_istore (lv' := [(4, .int (0 : Int32)), (3, .int (0 : Int32)), (0, .ref (a 0)), (1, .int x1), (2, .int x2)]) hx hb dX11_entry_34 hl (by decide) rfl (fun ls hl => ?_)
        obtain ⟨k_9, hf⟩ := hf
        exact (LP k_9) _ _ ((0 : Int32), u.2) _ _ ls hf hP hD hS (lv_sub hl [2, 3, 4, 1, 0] rfl)
      · have hf := hf.2 c_8
        refine lv_iconst (v := 0) hx hb dX11_entry_29 (by decide) ?_
        exact z_retMi (Wf := (fun z => cl_X11 cI cJ a z)) (u := ((0 : Int32), u.2)) X hf hP hD hS dX11_entry_30
def s_X11_entry (u : zModel) (x1 x2 : Int32) (Q : Int32 → zModel → Prop) : Prop := mAsk u (fun v => fEntry v x1 x2) Q
theorem st_X11_entry {u : zModel} {x1 x2 : Int32} {Q : Int32 → zModel → Prop} (h : s_X11_entry u x1 x2 Q) : v_X11_entry u x1 x2 Q := by
  obtain ⟨B, G, hG, hm, hQ⟩ := h
  dsimp only at hQ
  unfold fEntry at hQ
  have hmk : mOk (gNow G) u.2.1 := hG.1.mok hm.now
  have ho := hG.1.ok
  have hR := ho.2.1.2
  -- the loop over keys of a level
  have loop : ∀ l : Nat, l ≤ rN (gNow G) → x1 + 1 = nI l → Q (zNth (fun k => zHas (gNow G).2.2.2.1.1 l k) 64 x2) ((0 : Int32), u.2) → (∀ K : Int32 → Int32 → zModel → Prop, K 0 0 ((0 : Int32), u.2) → t_X11_entry_e u x1 x2 K Q) → v_X11_entry u x1 x2 Q := by
    intro l hl el hq hE
    unfold zNth at hq
    generalize hp : (fun k => zHas (gNow G).2.2.2.1.1 l k) = p at hq
    have hpk : ∀ k, p k = zHas (gNow G).2.2.2.1.1 l k := fun k => by rw [← hp]
    have ek := fun k hk => (hm.now.2.2.2.1 l k hl hk).1
    have hle := fa_first_le (fun j => p j && decide (nI (fa_cnt p j) = x2)) 64
    refine zlp3 (T := fun y y' z K => t_X11_entry_36 x1 x2 y y' z K Q) (E := fun K => t_X11_entry_e u x1 x2 K Q) (fa_first (fun j => p j && decide (nI (fa_cnt p j) = x2)) 64) (fun i => nI (fa_cnt p i)) (fun i => nI i) (fun _ => ((0 : Int32), u.2)) (fun K hK => hE K hK) ?_ ?_
    · intro i hi K hK
      have hq2 := fa_first_no (fun j => p j && decide (nI (fa_cnt p j) = x2)) 64 i hi
      refine ⟨fun c => absurd c (ge64 (by omega)), fun _ => ⟨l, i, by omega, by omega, el, rfl, fun d => ⟨fun q => absurd rfl q, fun _ x e => ?_⟩, fun d => ⟨fun _ => ⟨fun c2 x e x' e' => ?_, fun c2 => ?_⟩, fun q => absurd q (by decide)⟩⟩⟩
      · rw [ek i (by omega)] at d
        have h1 : p i = false := by rw [hpk]; exact decide_eq_false (fun q => q ((uKind_pos _).mp d))
        rw [fa_cnt_no h1] at hK
        rw [e, nI_1]; exact hK
      · rw [ek i (by omega)] at d
        have h1 : p i = true := by rw [hpk]; exact decide_eq_true (fun q => d ((uKind_pos _).mpr q))
        rw [fa_cnt_yes h1] at hK
        rw [e, e', nI_1, nI_1]; exact hK
      · rw [ek i (by omega)] at d
        have h1 : p i = true := by rw [hpk]; exact decide_eq_true (fun q => d ((uKind_pos _).mpr q))
        rw [h1] at hq2
        simp only [Bool.true_and, decide_eq_false_iff_not] at hq2
        exact absurd c2 hq2
    · intro K
      by_cases hf : fa_first (fun j => p j && decide (nI (fa_cnt p j) = x2)) 64 < 64
      · have hq2 := fa_first_yes (fun j => p j && decide (nI (fa_cnt p j) = x2)) 64 hf
        rw [zFst_yes hf] at hq
        simp only [Bool.and_eq_true, decide_eq_true_eq] at hq2
        obtain ⟨q1, q2⟩ := hq2
        rw [hpk] at q1
        simp only [decide_eq_true_eq] at q1
        refine ⟨fun c => absurd c (ge64 (by omega)), fun _ => ⟨l, _, by omega, hf, el, rfl, fun d => ?_, fun d => ⟨fun _ => ⟨fun c => absurd q2 c, fun _ => hq⟩, fun q => absurd q (by decide)⟩⟩⟩
        rw [ek _ hf] at d
        exact absurd ((uKind_pos _).mp d) q1
      · rw [zFst_no hf] at hq
        have he : fa_first (fun j => p j && decide (nI (fa_cnt p j) = x2)) 64 = 64 := by omega
        show t_X11_entry_36 x1 x2 (nI (fa_cnt p (fa_first (fun j => p j && decide (nI (fa_cnt p j) = x2)) 64))) (nI (fa_first (fun j => p j && decide (nI (fa_cnt p j) = x2)) 64)) ((0 : Int32), u.2) K Q
        rw [he]
        exact ⟨fun _ => hq, fun c => absurd (le64 (Nat.le_refl 64) (by decide)) c⟩
  by_cases h1 : x1 = -1
  · rw [if_pos h1] at hQ
    have hQ := hQ _ (hm.th 0) rfl
    dsimp only at hQ
    exact loop 0 (Nat.zero_le _) (by rw [h1]; decide) hQ (fun K hK => ⟨fun _ => ⟨fun _ => hK, fun q => absurd (by decide) q⟩, fun q => absurd h1 q⟩)
  · rw [if_neg h1] at hQ
    by_cases c1 : isRn (gNow G) x1
    · rw [if_pos c1] at hQ
      obtain ⟨n, hn, rfl, en⟩ := run_n ho c1
      rw [en] at hQ
      have hQ := hQ _ (hm.th 0) rfl
      dsimp only at hQ
      exact loop (n + 1) (by omega) (nI_1 n) hQ (fun K hK => ⟨fun q => absurd q h1, fun _ => isRun_of hm.now (fun _ => ⟨fun q => absurd q (by decide), fun _ => ⟨fun _ => hK, fun q => absurd (by decide) q⟩⟩) (fun q => absurd c1 q)⟩)
    · rw [if_neg c1] at hQ
      exact ⟨fun _ _ _ _ => False, fun _ _ _ _ q => q.elim, fun q => absurd q h1, fun _ => isRun_of hm.now (fun q => absurd q c1) (fun _ => ⟨fun _ => ⟨fun q => absurd q (by decide), fun _ => hQ _ (hm.th 1) rfl⟩, fun q => absurd rfl q⟩)⟩
theorem c_X11_entry (l : Launch) (dC : Nat → ClassId) (dI : Nat → Nat → Nat) (cI cJ cS : ClassId) (a : Nat → Nat) (u : zModel) (x1 : Int32) (x2 : Int32) (Q : Int32 → zModel → Prop) (hf : s_X11_entry u x1 x2 Q) : ∀ sz : Nat, Met l yX11_entry (Cond.code yX11_entry cX11_entry 5 (some .int) :: zT) rm_X11_entry (zPm dC dI cI cJ cS (cl_X11 cI cJ a u) [.ref (a 0), .int x1, .int x2] sz) (va_Qi Q (zB dC dI cI cJ cS (va_A (cl_X11 cI cJ a u) sz) (fun z => cl_X11 cI cJ a z)) (va_A (cl_X11 cI cJ a u) sz)) 0 0 (va_A (cl_X11 cI cJ a u) sz) := by
  obtain ⟨I36, h36, hf⟩ := st_X11_entry hf
  exact L_X11_entry l dC dI cI cJ cS a u x1 x2 Q I36 h36 hf

def t_X11_overlap_e (u : zModel) (x1 : Int32) (x2 : Int32) (K48 : Int32 → Int32 → zModel → Prop) (Q : Int32 → zModel → Prop) : Prop := s_X11_isRun u x1 (fun r_1 : Int32 => ((r_1 = 0 → (((1 : Int32) ≤ 0 → K48 (0 : Int32) (0 : Int32) ((1 : Int32), u.2)) ∧ (¬ (1 : Int32) ≤ 0 → Q (0 : Int32) ((1 : Int32), u.2)))) ∧ (¬ r_1 = 0 → s_X11_isRun u x2 (fun r_5 : Int32 => ((¬ r_5 = 0 → ((¬ x1 = x2 → (((0 : Int32) ≤ 0 → K48 (0 : Int32) (0 : Int32) ((0 : Int32), u.2)) ∧ (¬ (0 : Int32) ≤ 0 → Q (0 : Int32) ((0 : Int32), u.2)))) ∧ (x1 = x2 → (((2 : Int32) ≤ 0 → K48 (0 : Int32) (0 : Int32) ((2 : Int32), u.2)) ∧ (¬ (2 : Int32) ≤ 0 → Q (0 : Int32) ((2 : Int32), u.2)))))) ∧ (r_5 = 0 → (((1 : Int32) ≤ 0 → K48 (0 : Int32) (0 : Int32) ((1 : Int32), u.2)) ∧ (¬ (1 : Int32) ≤ 0 → Q (0 : Int32) ((1 : Int32), u.2)))))))))
def t_X11_overlap_48 (x1 : Int32) (x2 : Int32) (y3 : Int32) (y4 : Int32) (z : zModel) (K48 : Int32 → Int32 → zModel → Prop) (Q : Int32 → zModel → Prop) : Prop := (((64 : Int32) ≤ y4 → Q y3 z) ∧ (¬ (64 : Int32) ≤ y4 → s_X11_hasEntry z (x1 + (1 : Int32)) y4 (fun r_15 : Int32 => ((r_15 = 0 → ∀ x_17 : Int32, x_17 = (y3 + (0 : Int32)) → ∀ x_18 : Int32, x_18 = y4 + (1 : Int32) → K48 x_17 x_18 z) ∧ (¬ r_15 = 0 → s_X11_hasEntry z (x2 + (1 : Int32)) y4 (fun r_20 : Int32 => ((r_20 = 0 → ∀ x_22 : Int32, x_22 = (y3 + (0 : Int32)) → ∀ x_23 : Int32, x_23 = y4 + (1 : Int32) → K48 x_22 x_23 z) ∧ (¬ r_20 = 0 → ∀ x_25 : Int32, x_25 = (y3 + (1 : Int32)) → ∀ x_26 : Int32, x_26 = y4 + (1 : Int32) → K48 x_25 x_26 z))))))))
theorem zc_X11_overlap : zCalV RX11 yX11_overlap cX11_overlap 5 (some .int) 2 := ⟨q_im_X11_overlap, q_se_X11_overlap, q_in_X11, q_cd_X11_overlap, ⟨by decide, by decide, by decide +kernel⟩, rfl⟩
abbrev rm_X11_overlap : Room := { frames := 2, cells := 0, slots := 0, locals := 43 }
def v_X11_overlap (u : zModel) (x1 : Int32) (x2 : Int32) (Q : Int32 → zModel → Prop) : Prop := ∃ I48 : Nat → Int32 → Int32 → zModel → Prop, (∀ (n : Nat) (y3 : Int32) (y4 : Int32) (z : zModel), I48 n y3 y4 z → t_X11_overlap_48 x1 x2 y3 y4 z (fun q0 q1 q2 => ∃ k : Nat, k < n ∧ I48 k q0 q1 q2) Q) ∧ t_X11_overlap_e u x1 x2 (fun q0 q1 q2 => ∃ k : Nat, I48 k q0 q1 q2) Q
set_option maxHeartbeats 4000000 in
set_option maxRecDepth 100000 in
theorem L_X11_overlap (l : Launch) (dC : Nat → ClassId) (dI : Nat → Nat → Nat) (cI cJ cS : ClassId) (a : Nat → Nat) (u : zModel) (x1 : Int32) (x2 : Int32) (Q : Int32 → zModel → Prop) (I48 : Nat → Int32 → Int32 → zModel → Prop) (h48 : ∀ (n : Nat) (y3 : Int32) (y4 : Int32) (z : zModel), I48 n y3 y4 z → t_X11_overlap_48 x1 x2 y3 y4 z (fun q0 q1 q2 => ∃ k : Nat, k < n ∧ I48 k q0 q1 q2) Q) (hf : t_X11_overlap_e u x1 x2 (fun q0 q1 q2 => ∃ k : Nat, I48 k q0 q1 q2) Q) : ∀ sz : Nat, Met l yX11_overlap (Cond.code yX11_overlap cX11_overlap 5 (some .int) :: zT) rm_X11_overlap (zPm dC dI cI cJ cS (cl_X11 cI cJ a u) [.ref (a 0), .int x1, .int x2] sz) (va_Qi Q (zB dC dI cI cJ cS (va_A (cl_X11 cI cJ a u) sz) (fun z => cl_X11 cI cJ a z)) (va_A (cl_X11 cI cJ a u) sz)) 0 0 (va_A (cl_X11 cI cJ a u) sz) := by
  intro sz
  refine z_enterM (Qc := fun A => va_Qi Q (zB dC dI cI cJ cS A (fun z => cl_X11 cI cJ a z)) A) (cc := cX11_overlap) (maxL := 5) (ret := (some .int)) (by decide) (Nat.le_of_ble_eq_true rfl) ?_
  intro p e s m below meth c ls A X hP hD hS hA hl
  obtain ⟨⟨hx, hb, hml, hown, hts⟩, hr, hlk, hK⟩ := id X
  have hl : lv_has ls 5 [(0, .ref (a 0)), (1, .int x1), (2, .int x2)] := hl
  have LP : ∀ n : Nat, (∀ (y3 : Int32) (y4 : Int32) (z : zModel) (H : Heap) (locs : List Loc) (ls : Array Slot), I48 n y3 y4 z → va_P (dC, dI) vwCl (cl_X11 cI cJ a z) H → va_D A (cl_X11 cI cJ a z) → va_S A s.heap H locs → lv_has ls 5 [(0, .ref (a 0)), (1, .int x1), (2, .int x2), (3, .int y3), (4, .int y4)] → W p l e rm_X11_overlap s m [.ref (a 0), .int x1, .int x2].toArray below meth c H locs 0 0 (MQ below (va_Qi Q (zB dC dI cI cJ cS A (fun z => cl_X11 cI cJ a z)) A) [.ref (a 0), .int x1, .int x2].toArray s 0 0 A) (F0 m 48 ls [])) := by
    intro n
    induction n using Nat.strongRecOn with
    | _ n ih =>
      intro y3 y4 z H locs ls hI hP hD hS hl
      have hf := h48 n y3 y4 z hI
      unfold t_X11_overlap_48 at hf
      refine lv_iload hx hb dX11_overlap_48 (lv_at hl 4 rfl) ?_
      refine lv_bipush (v := 64) hx hb dX11_overlap_50 (by decide) ?_
      refine lv_icmp_ge (tgt := 93) hx hb dX11_overlap_52 (by decide) (fun c_14 => ?_) (fun c_14 => ?_)
      · have hf := hf.1 c_14
        refine lv_iload_n hx hb dX11_overlap_93 rfl (lv_at hl 3 rfl) ?_
        exact z_retMi (Wf := (fun z => cl_X11 cI cJ a z)) (u := z) X hf hP hD hS dX11_overlap_94
      · have hf := hf.2 c_14
        refine lv_iload_n hx hb dX11_overlap_55 rfl (lv_at hl 3 rfl) ?_
        refine lv_aload_n hx hb dX11_overlap_56 rfl (lv_at hl 0 rfl) ?_
        refine lv_iload_n hx hb dX11_overlap_57 rfl (lv_at hl 1 rfl) ?_
        refine lv_iconst (v := 1) hx hb dX11_overlap_58 (by decide) ?_
        refine lv_iadd hx hb dX11_overlap_59 ?_
        refine lv_iload hx hb dX11_overlap_60 (lv_at hl 4 rfl) ?_
        refine z_cVi (As := [.int (x1 + (1 : Int32)), .int y4]) (rest := [.int y3]) X (c_X11_hasEntry l dC dI cI cJ cS a z (x1 + (1 : Int32)) y4 _ hf) zc_X11_hasEntry q_ml_X11_66 ⟨rfl, rfl⟩ ⟨Nat.le_of_ble_eq_true rfl, Nat.le_of_ble_eq_true rfl⟩ hP [0, 1, 2, 3, 4, 5, 6, 7, 8] rfl 10 rfl rfl hl.1 rfl rfl (Nat.le_of_ble_eq_true rfl) ⟨Nat.zero_le _, Nat.zero_le _⟩ dX11_overlap_62 (fun r_15 hf => ?_)
        obtain ⟨hbr_15, hf⟩ := hf
        refine lv_if_eq (tgt := 84) hx hb dX11_overlap_65 (by decide) (fun c_16 => ?_) (fun c_16 => ?_)
        · have hf := hf.1 c_16
          refine lv_iconst (v := 0) hx hb dX11_overlap_84 (by decide) ?_
          refine lv_iadd hx hb dX11_overlap_85 ?_
          refine lv_topi (fun x_17 ex_17 => ?_)
          have hf := hf x_17 ex_17
          refine lv_istore_n (lv' := [(3, .int x_17), (0, .ref (a 0)), (1, .int x1), (2, .int x2), (4, .int y4)]) hx hb dX11_overlap_86 rfl hl (by decide) rfl (fun ls hl => ?_)
          obtain ⟨x_18, ex_18⟩ : ∃ y : Int32, y = y4 + (1 : Int32) := ⟨_, rfl⟩
          have hf := hf x_18 ex_18
          refine lv_iinc (v := x_18) (lv' := [(4, .int x_18), (3, .int x_17), (0, .ref (a 0)), (1, .int x1), (2, .int x2)]) hx hb dX11_overlap_87 hl (k := 4) rfl (by rw [ex_18]; rfl) (by decide) rfl (fun ls hl => ?_)
          refine lv_goto (tgt := 48) hx hb dX11_overlap_90 (by decide) ?_
          obtain ⟨k_19, hk_19, hf⟩ := hf
          exact (ih k_19 hk_19) _ _ z _ _ ls hf hP hD hS (lv_sub hl [2, 3, 4, 1, 0] rfl)
        · have hf := hf.2 c_16
          refine lv_aload_n hx hb dX11_overlap_68 rfl (lv_at hl 0 rfl) ?_
          refine lv_iload_n hx hb dX11_overlap_69 rfl (lv_at hl 2 rfl) ?_
          refine lv_iconst (v := 1) hx hb dX11_overlap_70 (by decide) ?_
          refine lv_iadd hx hb dX11_overlap_71 ?_
          refine lv_iload hx hb dX11_overlap_72 (lv_at hl 4 rfl) ?_
          refine z_cVi (As := [.int (x2 + (1 : Int32)), .int y4]) (rest := [.int y3]) X (c_X11_hasEntry l dC dI cI cJ cS a z (x2 + (1 : Int32)) y4 _ hf) zc_X11_hasEntry q_ml_X11_66 ⟨rfl, rfl⟩ ⟨Nat.le_of_ble_eq_true rfl, Nat.le_of_ble_eq_true rfl⟩ hP [0, 1, 2, 3, 4, 5, 6, 7, 8] rfl 10 rfl rfl hl.1 rfl rfl (Nat.le_of_ble_eq_true rfl) ⟨Nat.zero_le _, Nat.zero_le _⟩ dX11_overlap_74 (fun r_20 hf => ?_)
          obtain ⟨hbr_20, hf⟩ := hf
          refine lv_if_eq (tgt := 84) hx hb dX11_overlap_77 (by decide) (fun c_21 => ?_) (fun c_21 => ?_)
          · have hf := hf.1 c_21
            refine lv_iconst (v := 0) hx hb dX11_overlap_84 (by decide) ?_
            refine lv_iadd hx hb dX11_overlap_85 ?_
            refine lv_topi (fun x_22 ex_22 => ?_)
            have hf := hf x_22 ex_22
            refine lv_istore_n (lv' := [(3, .int x_22), (0, .ref (a 0)), (1, .int x1), (2, .int x2), (4, .int y4)]) hx hb dX11_overlap_86 rfl hl (by decide) rfl (fun ls hl => ?_)
            obtain ⟨x_23, ex_23⟩ : ∃ y : Int32, y = y4 + (1 : Int32) := ⟨_, rfl⟩
            have hf := hf x_23 ex_23
            refine lv_iinc (v := x_23) (lv' := [(4, .int x_23), (3, .int x_22), (0, .ref (a 0)), (1, .int x1), (2, .int x2)]) hx hb dX11_overlap_87 hl (k := 4) rfl (by rw [ex_23]; rfl) (by decide) rfl (fun ls hl => ?_)
            refine lv_goto (tgt := 48) hx hb dX11_overlap_90 (by decide) ?_
            obtain ⟨k_24, hk_24, hf⟩ := hf
            exact (ih k_24 hk_24) _ _ z _ _ ls hf hP hD hS (lv_sub hl [2, 3, 4, 1, 0] rfl)
          · have hf := hf.2 c_21
            refine lv_iconst (v := 1) hx hb dX11_overlap_80 (by decide) ?_
            refine lv_goto (tgt := 85) hx hb dX11_overlap_81 (by decide) ?_
            refine lv_iadd hx hb dX11_overlap_85 ?_
            refine lv_topi (fun x_25 ex_25 => ?_)
            have hf := hf x_25 ex_25
            refine lv_istore_n (lv' := [(3, .int x_25), (0, .ref (a 0)), (1, .int x1), (2, .int x2), (4, .int y4)]) hx hb dX11_overlap_86 rfl hl (by decide) rfl (fun ls hl => ?_)
            obtain ⟨x_26, ex_26⟩ : ∃ y : Int32, y = y4 + (1 : Int32) := ⟨_, rfl⟩
            have hf := hf x_26 ex_26
            refine lv_iinc (v := x_26) (lv' := [(4, .int x_26), (3, .int x_25), (0, .ref (a 0)), (1, .int x1), (2, .int x2)]) hx hb dX11_overlap_87 hl (k := 4) rfl (by rw [ex_26]; rfl) (by decide) rfl (fun ls hl => ?_)
            refine lv_goto (tgt := 48) hx hb dX11_overlap_90 (by decide) ?_
            obtain ⟨k_27, hk_27, hf⟩ := hf
            exact (ih k_27 hk_27) _ _ z _ _ ls hf hP hD hS (lv_sub hl [2, 3, 4, 1, 0] rfl)
  unfold t_X11_overlap_e at hf
  refine lv_aload_n hx hb dX11_overlap_0 rfl (lv_at hl 0 rfl) ?_
  refine lv_aload_n hx hb dX11_overlap_1 rfl (lv_at hl 0 rfl) ?_
  refine lv_iload_n hx hb dX11_overlap_2 rfl (lv_at hl 1 rfl) ?_
  refine z_cVi (As := [.int x1]) (rest := [.ref (a 0)]) X (c_X11_isRun l dC dI cI cJ cS a u x1 _ hf) zc_X11_isRun q_ml_X11_293 ⟨rfl, rfl⟩ ⟨Nat.le_of_ble_eq_true rfl, Nat.le_of_ble_eq_true rfl⟩ hP [0, 1, 2, 3, 4, 5, 6, 7, 8] rfl 10 rfl rfl hl.1 rfl rfl (Nat.le_of_ble_eq_true rfl) ⟨Nat.zero_le _, Nat.zero_le _⟩ dX11_overlap_3 (fun r_1 hf => ?_)
  obtain ⟨hbr_1, hf⟩ := hf
  refine lv_if_eq (tgt := 17) hx hb dX11_overlap_6 (by decide) (fun c_2 => ?_) (fun c_2 => ?_)
  · have hf := hf.1 c_2
    refine lv_iconst (v := 1) hx hb dX11_overlap_17 (by decide) ?_
    refine lv_goto (tgt := 31) hx hb dX11_overlap_18 (by decide) ?_
    refine z_put (w' := cl_X11 cI cJ a ((1 : Int32), u.2)) (ci := 10) (v := .int (1 : Int32)) (ty := .int) (Cn := RX11) (T := TX11) (N := 17) X inX11 tyX11 tyX11_ok nmX11 hP hD hS 0 rfl rfl 0 (by decide) (hts _ q_fl_X11_43) (fun _ h9 => h9) rfl (tyX11_ok 0 (by decide)) rfl rfl (Nat.le_of_ble_eq_true rfl) rfl dX11_overlap_31 (fun H locs hP hD hS => ?_)
    refine lv_aload_n hx hb dX11_overlap_34 rfl (lv_at hl 0 rfl) ?_
    refine va_get (D := (dC, dI)) (ci := 10) (v := .int (1 : Int32)) (C := RX11) (T := TX11) (N := 17) hx hb hts inX11 hown hK hP 0 rfl rfl 0 (by decide) (hts _ q_fl_X11_43) (fun _ h9 => h9) rfl dX11_overlap_35 ?_
    refine lv_if_le (tgt := 43) hx hb dX11_overlap_38 (by decide) (fun c_3 => ?_) (fun c_3 => ?_)
    · have hf := hf.1 c_3
      refine lv_iconst (v := 0) hx hb dX11_overlap_43 (by decide) ?_
      refine lv_istore_n (lv' := [(3, .int (0 : Int32)), (0, .ref (a 0)), (1, .int x1), (2, .int x2)]) hx hb dX11_overlap_44 rfl hl (by decide) rfl (fun ls hl => ?_)
      refine lv_iconst (v := 0) hx hb dX11_overlap_45 (by decide) ?_
      refine lv_istore (lv' := [(4, .int (0 : Int32)), (3, .int (0 : Int32)), (0, .ref (a 0)), (1, .int x1), (2, .int x2)]) hx hb dX11_overlap_46 hl (by decide) rfl (fun ls hl => ?_)
      obtain ⟨k_4, hf⟩ := hf
      exact (LP k_4) _ _ ((1 : Int32), u.2) _ _ ls hf hP hD hS (lv_sub hl [2, 3, 4, 1, 0] rfl)
    · have hf := hf.2 c_3
      refine lv_iconst (v := 0) hx hb dX11_overlap_41 (by decide) ?_
      exact z_retMi (Wf := (fun z => cl_X11 cI cJ a z)) (u := ((1 : Int32), u.2)) X hf hP hD hS dX11_overlap_42
  · have hf := hf.2 c_2
    refine lv_aload_n hx hb dX11_overlap_9 rfl (lv_at hl 0 rfl) ?_
    refine lv_iload_n hx hb dX11_overlap_10 rfl (lv_at hl 2 rfl) ?_
    refine z_cVi (As := [.int x2]) (rest := [.ref (a 0)]) X (c_X11_isRun l dC dI cI cJ cS a u x2 _ hf) zc_X11_isRun q_ml_X11_293 ⟨rfl, rfl⟩ ⟨Nat.le_of_ble_eq_true rfl, Nat.le_of_ble_eq_true rfl⟩ hP [0, 1, 2, 3, 4, 5, 6, 7, 8] rfl 10 rfl rfl hl.1 rfl rfl (Nat.le_of_ble_eq_true rfl) ⟨Nat.zero_le _, Nat.zero_le _⟩ dX11_overlap_11 (fun r_5 hf => ?_)
    obtain ⟨hbr_5, hf⟩ := hf
    refine lv_if_ne (tgt := 21) hx hb dX11_overlap_14 (by decide) (fun c_6 => ?_) (fun c_6 => ?_)
    · have hf := hf.1 c_6
      refine lv_iload_n hx hb dX11_overlap_21 rfl (lv_at hl 1 rfl) ?_
      refine lv_iload_n hx hb dX11_overlap_22 rfl (lv_at hl 2 rfl) ?_
      refine lv_icmp_ne (tgt := 30) hx hb dX11_overlap_23 (by decide) (fun c_7 => ?_) (fun c_7 => ?_)
      · have hf := hf.1 c_7
        refine lv_iconst (v := 0) hx hb dX11_overlap_30 (by decide) ?_
        refine z_put (w' := cl_X11 cI cJ a ((0 : Int32), u.2)) (ci := 10) (v := .int (0 : Int32)) (ty := .int) (Cn := RX11) (T := TX11) (N := 17) X inX11 tyX11 tyX11_ok nmX11 hP hD hS 0 rfl rfl 0 (by decide) (hts _ q_fl_X11_43) (fun _ h9 => h9) rfl (tyX11_ok 0 (by decide)) rfl rfl (Nat.le_of_ble_eq_true rfl) rfl dX11_overlap_31 (fun H locs hP hD hS => ?_)
        refine lv_aload_n hx hb dX11_overlap_34 rfl (lv_at hl 0 rfl) ?_
        refine va_get (D := (dC, dI)) (ci := 10) (v := .int (0 : Int32)) (C := RX11) (T := TX11) (N := 17) hx hb hts inX11 hown hK hP 0 rfl rfl 0 (by decide) (hts _ q_fl_X11_43) (fun _ h9 => h9) rfl dX11_overlap_35 ?_
        refine lv_if_le (tgt := 43) hx hb dX11_overlap_38 (by decide) (fun c_8 => ?_) (fun c_8 => ?_)
        · have hf := hf.1 c_8
          refine lv_iconst (v := 0) hx hb dX11_overlap_43 (by decide) ?_
          refine lv_istore_n (lv' := [(3, .int (0 : Int32)), (0, .ref (a 0)), (1, .int x1), (2, .int x2)]) hx hb dX11_overlap_44 rfl hl (by decide) rfl (fun ls hl => ?_)
          refine lv_iconst (v := 0) hx hb dX11_overlap_45 (by decide) ?_
          refine lv_istore (lv' := [(4, .int (0 : Int32)), (3, .int (0 : Int32)), (0, .ref (a 0)), (1, .int x1), (2, .int x2)]) hx hb dX11_overlap_46 hl (by decide) rfl (fun ls hl => ?_)
          obtain ⟨k_9, hf⟩ := hf
          exact (LP k_9) _ _ ((0 : Int32), u.2) _ _ ls hf hP hD hS (lv_sub hl [2, 3, 4, 1, 0] rfl)
        · have hf := hf.2 c_8
          refine lv_iconst (v := 0) hx hb dX11_overlap_41 (by decide) ?_
          exact z_retMi (Wf := (fun z => cl_X11 cI cJ a z)) (u := ((0 : Int32), u.2)) X hf hP hD hS dX11_overlap_42
      · have hf := hf.2 c_7
        refine lv_iconst (v := 2) hx hb dX11_overlap_26 (by decide) ?_
        refine lv_goto (tgt := 31) hx hb dX11_overlap_27 (by decide) ?_
        refine z_put (w' := cl_X11 cI cJ a ((2 : Int32), u.2)) (ci := 10) (v := .int (2 : Int32)) (ty := .int) (Cn := RX11) (T := TX11) (N := 17) X inX11 tyX11 tyX11_ok nmX11 hP hD hS 0 rfl rfl 0 (by decide) (hts _ q_fl_X11_43) (fun _ h9 => h9) rfl (tyX11_ok 0 (by decide)) rfl rfl (Nat.le_of_ble_eq_true rfl) rfl dX11_overlap_31 (fun H locs hP hD hS => ?_)
        refine lv_aload_n hx hb dX11_overlap_34 rfl (lv_at hl 0 rfl) ?_
        refine va_get (D := (dC, dI)) (ci := 10) (v := .int (2 : Int32)) (C := RX11) (T := TX11) (N := 17) hx hb hts inX11 hown hK hP 0 rfl rfl 0 (by decide) (hts _ q_fl_X11_43) (fun _ h9 => h9) rfl dX11_overlap_35 ?_
        refine lv_if_le (tgt := 43) hx hb dX11_overlap_38 (by decide) (fun c_10 => ?_) (fun c_10 => ?_)
        · have hf := hf.1 c_10
          refine lv_iconst (v := 0) hx hb dX11_overlap_43 (by decide) ?_
          refine lv_istore_n (lv' := [(3, .int (0 : Int32)), (0, .ref (a 0)), (1, .int x1), (2, .int x2)]) hx hb dX11_overlap_44 rfl hl (by decide) rfl (fun ls hl => ?_)
          refine lv_iconst (v := 0) hx hb dX11_overlap_45 (by decide) ?_
          refine lv_istore (lv' := [(4, .int (0 : Int32)), (3, .int (0 : Int32)), (0, .ref (a 0)), (1, .int x1), (2, .int x2)]) hx hb dX11_overlap_46 hl (by decide) rfl (fun ls hl => ?_)
          obtain ⟨k_11, hf⟩ := hf
          exact (LP k_11) _ _ ((2 : Int32), u.2) _ _ ls hf hP hD hS (lv_sub hl [2, 3, 4, 1, 0] rfl)
        · have hf := hf.2 c_10
          refine lv_iconst (v := 0) hx hb dX11_overlap_41 (by decide) ?_
          exact z_retMi (Wf := (fun z => cl_X11 cI cJ a z)) (u := ((2 : Int32), u.2)) X hf hP hD hS dX11_overlap_42
    · have hf := hf.2 c_6
      refine lv_iconst (v := 1) hx hb dX11_overlap_17 (by decide) ?_
      refine lv_goto (tgt := 31) hx hb dX11_overlap_18 (by decide) ?_
      refine z_put (w' := cl_X11 cI cJ a ((1 : Int32), u.2)) (ci := 10) (v := .int (1 : Int32)) (ty := .int) (Cn := RX11) (T := TX11) (N := 17) X inX11 tyX11 tyX11_ok nmX11 hP hD hS 0 rfl rfl 0 (by decide) (hts _ q_fl_X11_43) (fun _ h9 => h9) rfl (tyX11_ok 0 (by decide)) rfl rfl (Nat.le_of_ble_eq_true rfl) rfl dX11_overlap_31 (fun H locs hP hD hS => ?_)
      refine lv_aload_n hx hb dX11_overlap_34 rfl (lv_at hl 0 rfl) ?_
      refine va_get (D := (dC, dI)) (ci := 10) (v := .int (1 : Int32)) (C := RX11) (T := TX11) (N := 17) hx hb hts inX11 hown hK hP 0 rfl rfl 0 (by decide) (hts _ q_fl_X11_43) (fun _ h9 => h9) rfl dX11_overlap_35 ?_
      refine lv_if_le (tgt := 43) hx hb dX11_overlap_38 (by decide) (fun c_12 => ?_) (fun c_12 => ?_)
      · have hf := hf.1 c_12
        refine lv_iconst (v := 0) hx hb dX11_overlap_43 (by decide) ?_
        refine lv_istore_n (lv' := [(3, .int (0 : Int32)), (0, .ref (a 0)), (1, .int x1), (2, .int x2)]) hx hb dX11_overlap_44 rfl hl (by decide) rfl (fun ls hl => ?_)
        refine lv_iconst (v := 0) hx hb dX11_overlap_45 (by decide) ?_
        refine lv_istore (lv' := [(4, .int (0 : Int32)), (3, .int (0 : Int32)), (0, .ref (a 0)), (1, .int x1), (2, .int x2)]) hx hb dX11_overlap_46 hl (by decide) rfl (fun ls hl => ?_)
        obtain ⟨k_13, hf⟩ := hf
        exact (LP k_13) _ _ ((1 : Int32), u.2) _ _ ls hf hP hD hS (lv_sub hl [2, 3, 4, 1, 0] rfl)
      · have hf := hf.2 c_12
        refine lv_iconst (v := 0) hx hb dX11_overlap_41 (by decide) ?_
        exact z_retMi (Wf := (fun z => cl_X11 cI cJ a z)) (u := ((1 : Int32), u.2)) X hf hP hD hS dX11_overlap_42
def s_X11_overlap (u : zModel) (x1 x2 : Int32) (Q : Int32 → zModel → Prop) : Prop := mAsk u (fun v => fOverlap v x1 x2) Q
theorem st_X11_overlap {u : zModel} {x1 x2 : Int32} {Q : Int32 → zModel → Prop} (h : s_X11_overlap u x1 x2 Q) : v_X11_overlap u x1 x2 Q := by
  obtain ⟨B, G, hG, hm, hQ⟩ := h
  dsimp only at hQ
  unfold fOverlap at hQ
  have ho := hG.1.ok
  have hR := ho.2.1.2
  by_cases c1 : isRn (gNow G) x1
  · by_cases c2 : isRn (gNow G) x2
    · rw [if_pos ⟨c1, c2⟩] at hQ
      by_cases h12 : x1 = x2
      · rw [if_pos h12] at hQ
        exact ⟨fun _ _ _ _ => False, fun _ _ _ _ q => q.elim, isRun_of hm.now (fun _ => ⟨fun q => absurd q (by decide), fun _ => isRun_of hm.now (fun _ => ⟨fun _ => ⟨fun q => absurd h12 q, fun _ => ⟨fun q => absurd q (by decide), fun _ => hQ _ (hm.th 2) rfl⟩⟩, fun q => absurd q (by decide)⟩) (fun q => absurd c2 q)⟩) (fun q => absurd c1 q)⟩
      · rw [if_neg h12] at hQ
        obtain ⟨n, hn, rfl, en⟩ := run_n ho c1
        obtain ⟨n', hn', rfl, en'⟩ := run_n ho c2
        rw [en, en'] at hQ
        have e1 := fun k hk => (hm.now.2.2.2.1 (n + 1) k (show n + 1 ≤ rN (gNow G) by omega) hk).1
        have e2 := fun k hk => (hm.now.2.2.2.1 (n' + 1) k (show n' + 1 ≤ rN (gNow G) by omega) hk).1
        have hQ := hQ _ (hm.th 0) rfl
        dsimp only at hQ
        generalize hp : (fun k => zHas (gNow G).2.2.2.1.1 (n + 1) k && zHas (gNow G).2.2.2.1.1 (n' + 1) k) = p at hQ
        have hpk : ∀ k, p k = (zHas (gNow G).2.2.2.1.1 (n + 1) k && zHas (gNow G).2.2.2.1.1 (n' + 1) k) := fun k => by rw [← hp]
        refine zlp3 (T := fun y y' z K => t_X11_overlap_48 (nI n) (nI n') y y' z K Q) (E := fun K => t_X11_overlap_e u (nI n) (nI n') K Q) 64 (fun i => nI (fa_cnt p i)) (fun i => nI i) (fun _ => ((0 : Int32), u.2)) (fun K hK => ?_) ?_ ?_
        · exact isRun_of hm.now (fun _ => ⟨fun q => absurd q (by decide), fun _ => isRun_of hm.now (fun _ => ⟨fun _ => ⟨fun _ => ⟨fun _ => hK, fun q => absurd (by decide) q⟩, fun q => absurd q h12⟩, fun q => absurd q (by decide)⟩) (fun q => absurd c2 q)⟩) (fun q => absurd c1 q)
        · intro i hi K hK
          refine ⟨fun c => absurd c (ge64 hi), fun _ => ⟨n + 1, i, by omega, hi, nI_1 n, rfl, fun d => ⟨fun _ x e x' e' => ?_, fun q => absurd rfl q⟩, fun d => ⟨fun q => absurd q (by decide), fun _ => ⟨n' + 1, i, by omega, hi, nI_1 n', rfl, fun d2 => ⟨fun _ x e x' e' => ?_, fun q => absurd rfl q⟩, fun d2 => ⟨fun q => absurd q (by decide), fun _ x e x' e' => ?_⟩⟩⟩⟩⟩
          · rw [e1 i hi] at d
            have h1 : p i = false := by rw [hpk, show zHas (gNow G).2.2.2.1.1 (n + 1) i = false from decide_eq_false (fun q => q ((uKind_pos _).mp d))]; rfl
            rw [fa_cnt_no h1] at hK
            rw [e, e', nI_1, Int32.add_zero]; exact hK
          · rw [e2 i hi] at d2
            have h1 : p i = false := by rw [hpk, show zHas (gNow G).2.2.2.1.1 (n' + 1) i = false from decide_eq_false (fun q => q ((uKind_pos _).mp d2)), Bool.and_false]
            rw [fa_cnt_no h1] at hK
            rw [e, e', nI_1, Int32.add_zero]; exact hK
          · rw [e1 i hi] at d
            rw [e2 i hi] at d2
            have h1 : p i = true := by rw [hpk, show zHas (gNow G).2.2.2.1.1 (n + 1) i = true from decide_eq_true (fun q => d ((uKind_pos _).mpr q)), show zHas (gNow G).2.2.2.1.1 (n' + 1) i = true from decide_eq_true (fun q => d2 ((uKind_pos _).mpr q))]; rfl
            rw [fa_cnt_yes h1] at hK
            rw [e, e', nI_1, nI_1]; exact hK
        · intro K
          exact ⟨fun _ => hQ, fun c => absurd (le64 (Nat.le_refl _) (by decide)) c⟩
    · rw [if_neg (fun q => c2 q.2)] at hQ
      exact ⟨fun _ _ _ _ => False, fun _ _ _ _ q => q.elim, isRun_of hm.now (fun _ => ⟨fun q => absurd q (by decide), fun _ => isRun_of hm.now (fun q => absurd q c2) (fun _ => ⟨fun q => absurd rfl q, fun _ => ⟨fun q => absurd q (by decide), fun _ => hQ _ (hm.th 1) rfl⟩⟩)⟩) (fun q => absurd c1 q)⟩
  · rw [if_neg (fun q => c1 q.1)] at hQ
    exact ⟨fun _ _ _ _ => False, fun _ _ _ _ q => q.elim, isRun_of hm.now (fun q => absurd q c1) (fun _ => ⟨fun _ => ⟨fun q => absurd q (by decide), fun _ => hQ _ (hm.th 1) rfl⟩, fun q => absurd rfl q⟩)⟩
theorem c_X11_overlap (l : Launch) (dC : Nat → ClassId) (dI : Nat → Nat → Nat) (cI cJ cS : ClassId) (a : Nat → Nat) (u : zModel) (x1 : Int32) (x2 : Int32) (Q : Int32 → zModel → Prop) (hf : s_X11_overlap u x1 x2 Q) : ∀ sz : Nat, Met l yX11_overlap (Cond.code yX11_overlap cX11_overlap 5 (some .int) :: zT) rm_X11_overlap (zPm dC dI cI cJ cS (cl_X11 cI cJ a u) [.ref (a 0), .int x1, .int x2] sz) (va_Qi Q (zB dC dI cI cJ cS (va_A (cl_X11 cI cJ a u) sz) (fun z => cl_X11 cI cJ a z)) (va_A (cl_X11 cI cJ a u) sz)) 0 0 (va_A (cl_X11 cI cJ a u) sz) := by
  obtain ⟨I48, h48, hf⟩ := st_X11_overlap hf
  exact L_X11_overlap l dC dI cI cJ cS a u x1 x2 Q I48 h48 hf

def t_X11_isLess_e (u : zModel) (x1 : Int32) (x2 : Int32) (K30 : Int32 → Int32 → Int32 → Int32 → Int32 → Prop) (Q : Int32 → Prop) : Prop := s_X11_lengthOf u x1 (fun r_1 : Int32 => s_X11_lengthOf u x2 (fun r_2 : Int32 => s_X11_seedOf u x1 (fun r_3 : Int32 => s_X11_seedOf u x2 (fun r_4 : Int32 => K30 r_1 r_2 r_3 r_4 (0 : Int32)))))
def t_X11_isLess_30 (u : zModel) (x1 : Int32) (x2 : Int32) (y3 : Int32) (y4 : Int32) (y5 : Int32) (y6 : Int32) (y7 : Int32) (K30 : Int32 → Int32 → Int32 → Int32 → Int32 → Prop) (Q : Int32 → Prop) : Prop := ((y3 ≤ y7 → ((y4 ≤ y3 → Q (0 : Int32)) ∧ (¬ y4 ≤ y3 → Q (1 : Int32)))) ∧ (¬ y3 ≤ y7 → ((y4 ≤ y7 → ((y4 ≤ y3 → Q (0 : Int32)) ∧ (¬ y4 ≤ y3 → Q (1 : Int32)))) ∧ (¬ y4 ≤ y7 → s_X11_byteOf y5 y7 (fun r_10 : Int32 => s_X11_byteOf y6 y7 (fun r_11 : Int32 => ((r_10 = r_11 → ∀ x_13 : Int32, x_13 = y7 + (1 : Int32) → K30 y3 y4 y5 y6 x_13) ∧ (¬ r_10 = r_11 → s_X11_byteOf y5 y7 (fun r_15 : Int32 => s_X11_byteOf y6 y7 (fun r_16 : Int32 => ((r_16 ≤ r_15 → Q (0 : Int32)) ∧ (¬ r_16 ≤ r_15 → Q (1 : Int32)))))))))))))
theorem zc_X11_isLess : zCalV RX11 yX11_isLess cX11_isLess 8 (some .boolean) 2 := ⟨q_im_X11_isLess, q_se_X11_isLess, q_in_X11, q_cd_X11_isLess, ⟨by decide, by decide, by decide +kernel⟩, rfl⟩
abbrev rm_X11_isLess : Room := { frames := 6, cells := 0, slots := 0, locals := 131 }
def v_X11_isLess (u : zModel) (x1 : Int32) (x2 : Int32) (Q : Int32 → Prop) : Prop := ∃ I30 : Nat → Int32 → Int32 → Int32 → Int32 → Int32 → Prop, (∀ (n : Nat) (y3 : Int32) (y4 : Int32) (y5 : Int32) (y6 : Int32) (y7 : Int32), I30 n y3 y4 y5 y6 y7 → t_X11_isLess_30 u x1 x2 y3 y4 y5 y6 y7 (fun q0 q1 q2 q3 q4 => ∃ k : Nat, k < n ∧ I30 k q0 q1 q2 q3 q4) Q) ∧ t_X11_isLess_e u x1 x2 (fun q0 q1 q2 q3 q4 => ∃ k : Nat, I30 k q0 q1 q2 q3 q4) Q
set_option maxHeartbeats 4000000 in
set_option maxRecDepth 100000 in
theorem L_X11_isLess (l : Launch) (dC : Nat → ClassId) (dI : Nat → Nat → Nat) (cI cJ cS : ClassId) (a : Nat → Nat) (u : zModel) (x1 : Int32) (x2 : Int32) (Q : Int32 → Prop) (I30 : Nat → Int32 → Int32 → Int32 → Int32 → Int32 → Prop) (h30 : ∀ (n : Nat) (y3 : Int32) (y4 : Int32) (y5 : Int32) (y6 : Int32) (y7 : Int32), I30 n y3 y4 y5 y6 y7 → t_X11_isLess_30 u x1 x2 y3 y4 y5 y6 y7 (fun q0 q1 q2 q3 q4 => ∃ k : Nat, k < n ∧ I30 k q0 q1 q2 q3 q4) Q) (hf : t_X11_isLess_e u x1 x2 (fun q0 q1 q2 q3 q4 => ∃ k : Nat, I30 k q0 q1 q2 q3 q4) Q) : Met l yX11_isLess (Cond.code yX11_isLess cX11_isLess 8 (some .boolean) :: zT) rm_X11_isLess (zPp dC dI cI cJ cS (cl_X11 cI cJ a u) [.ref (a 0), .int x1, .int x2]) (vp_Si (fun r => (r = 0 ∨ r = 1) ∧ Q r)) 0 0 (fun _ => False) := by
  refine z_enterP (cc := cX11_isLess) (maxL := 8) (ret := (some .boolean)) (by decide) (Nat.le_of_ble_eq_true rfl) ?_
  intro p e s m below meth c ls X hP hl
  obtain ⟨⟨hx, hb, hml, hown, hts⟩, hr, hlk, hK⟩ := id X
  have hl : lv_has ls 8 [(0, .ref (a 0)), (1, .int x1), (2, .int x2)] := hl
  have LP : ∀ n : Nat, (∀ (y3 : Int32) (y4 : Int32) (y5 : Int32) (y6 : Int32) (y7 : Int32) (ls : Array Slot), I30 n y3 y4 y5 y6 y7 → lv_has ls 8 [(0, .ref (a 0)), (1, .int x1), (2, .int x2), (3, .int y3), (4, .int y4), (5, .int y5), (6, .int y6), (7, .int y7)] → W p l e rm_X11_isLess s m [.ref (a 0), .int x1, .int x2].toArray below meth c s.heap [] 0 0 (MQ below (vp_Si (fun r => (r = 0 ∨ r = 1) ∧ Q r)) [.ref (a 0), .int x1, .int x2].toArray s 0 0 (fun _ => False)) (F0 m 30 ls [])) := by
    intro n
    induction n using Nat.strongRecOn with
    | _ n ih =>
      intro y3 y4 y5 y6 y7 ls hI hl
      have hf := h30 n y3 y4 y5 y6 y7 hI
      unfold t_X11_isLess_30 at hf
      refine lv_iload hx hb dX11_isLess_30 (lv_at hl 7 rfl) ?_
      refine lv_iload_n hx hb dX11_isLess_32 rfl (lv_at hl 3 rfl) ?_
      refine lv_icmp_ge (tgt := 89) hx hb dX11_isLess_33 (by decide) (fun c_6 => ?_) (fun c_6 => ?_)
      · have hf := hf.1 c_6
        refine lv_iload_n hx hb dX11_isLess_89 rfl (lv_at hl 3 rfl) ?_
        refine lv_iload hx hb dX11_isLess_90 (lv_at hl 4 rfl) ?_
        refine lv_icmp_ge (tgt := 99) hx hb dX11_isLess_92 (by decide) (fun c_7 => ?_) (fun c_7 => ?_)
        · have hf := hf.1 c_7
          refine lv_iconst (v := 0) hx hb dX11_isLess_99 (by decide) ?_
          exact z_retPz X (Or.inl rfl) hf dX11_isLess_100
        · have hf := hf.2 c_7
          refine lv_iconst (v := 1) hx hb dX11_isLess_95 (by decide) ?_
          refine lv_goto (tgt := 100) hx hb dX11_isLess_96 (by decide) ?_
          exact z_retPz X (Or.inr rfl) hf dX11_isLess_100
      · have hf := hf.2 c_6
        refine lv_iload hx hb dX11_isLess_36 (lv_at hl 7 rfl) ?_
        refine lv_iload hx hb dX11_isLess_38 (lv_at hl 4 rfl) ?_
        refine lv_icmp_ge (tgt := 89) hx hb dX11_isLess_40 (by decide) (fun c_8 => ?_) (fun c_8 => ?_)
        · have hf := hf.1 c_8
          refine lv_iload_n hx hb dX11_isLess_89 rfl (lv_at hl 3 rfl) ?_
          refine lv_iload hx hb dX11_isLess_90 (lv_at hl 4 rfl) ?_
          refine lv_icmp_ge (tgt := 99) hx hb dX11_isLess_92 (by decide) (fun c_9 => ?_) (fun c_9 => ?_)
          · have hf := hf.1 c_9
            refine lv_iconst (v := 0) hx hb dX11_isLess_99 (by decide) ?_
            exact z_retPz X (Or.inl rfl) hf dX11_isLess_100
          · have hf := hf.2 c_9
            refine lv_iconst (v := 1) hx hb dX11_isLess_95 (by decide) ?_
            refine lv_goto (tgt := 100) hx hb dX11_isLess_96 (by decide) ?_
            exact z_retPz X (Or.inr rfl) hf dX11_isLess_100
        · have hf := hf.2 c_8
          refine lv_iload hx hb dX11_isLess_43 (lv_at hl 5 rfl) ?_
          refine lv_iload hx hb dX11_isLess_45 (lv_at hl 7 rfl) ?_
          refine z_cSi (As := [.int y5, .int y7]) (rest := []) X (c_X11_byteOf l dC dI cI cJ cS   y5 y7 _ hf) zc_X11_byteOf q_ml_X11_284 ⟨rfl, rfl⟩ ⟨Nat.le_of_ble_eq_true rfl, Nat.le_of_ble_eq_true rfl⟩ hP [] rfl hl.1 rfl rfl (Nat.le_of_ble_eq_true rfl) ⟨Nat.zero_le _, Nat.zero_le _⟩ dX11_isLess_47 (fun r_10 hf => ?_)
          refine lv_iload hx hb dX11_isLess_50 (lv_at hl 6 rfl) ?_
          refine lv_iload hx hb dX11_isLess_52 (lv_at hl 7 rfl) ?_
          refine z_cSi (As := [.int y6, .int y7]) (rest := [.int r_10]) X (c_X11_byteOf l dC dI cI cJ cS   y6 y7 _ hf) zc_X11_byteOf q_ml_X11_284 ⟨rfl, rfl⟩ ⟨Nat.le_of_ble_eq_true rfl, Nat.le_of_ble_eq_true rfl⟩ hP [] rfl hl.1 rfl rfl (Nat.le_of_ble_eq_true rfl) ⟨Nat.zero_le _, Nat.zero_le _⟩ dX11_isLess_54 (fun r_11 hf => ?_)
          refine lv_icmp_eq (tgt := 83) hx hb dX11_isLess_57 (by decide) (fun c_12 => ?_) (fun c_12 => ?_)
          · have hf := hf.1 c_12
            obtain ⟨x_13, ex_13⟩ : ∃ y : Int32, y = y7 + (1 : Int32) := ⟨_, rfl⟩
            have hf := hf x_13 ex_13
            refine lv_iinc (v := x_13) (lv' := [(7, .int x_13), (0, .ref (a 0)), (1, .int x1), (2, .int x2), (3, .int y3), (4, .int y4), (5, .int y5), (6, .int y6)]) hx hb dX11_isLess_83 hl (k := 7) rfl (by rw [ex_13]; rfl) (by decide) rfl (fun ls hl => ?_)
            refine lv_goto (tgt := 30) hx hb dX11_isLess_86 (by decide) ?_
            obtain ⟨k_14, hk_14, hf⟩ := hf
            exact (ih k_14 hk_14) _ _ _ _ _ ls hf (lv_sub hl [1, 2, 3, 4, 5, 6, 7, 0] rfl)
          · have hf := hf.2 c_12
            refine lv_iload hx hb dX11_isLess_60 (lv_at hl 5 rfl) ?_
            refine lv_iload hx hb dX11_isLess_62 (lv_at hl 7 rfl) ?_
            refine z_cSi (As := [.int y5, .int y7]) (rest := []) X (c_X11_byteOf l dC dI cI cJ cS   y5 y7 _ hf) zc_X11_byteOf q_ml_X11_284 ⟨rfl, rfl⟩ ⟨Nat.le_of_ble_eq_true rfl, Nat.le_of_ble_eq_true rfl⟩ hP [] rfl hl.1 rfl rfl (Nat.le_of_ble_eq_true rfl) ⟨Nat.zero_le _, Nat.zero_le _⟩ dX11_isLess_64 (fun r_15 hf => ?_)
            refine lv_iload hx hb dX11_isLess_67 (lv_at hl 6 rfl) ?_
            refine lv_iload hx hb dX11_isLess_69 (lv_at hl 7 rfl) ?_
            refine z_cSi (As := [.int y6, .int y7]) (rest := [.int r_15]) X (c_X11_byteOf l dC dI cI cJ cS   y6 y7 _ hf) zc_X11_byteOf q_ml_X11_284 ⟨rfl, rfl⟩ ⟨Nat.le_of_ble_eq_true rfl, Nat.le_of_ble_eq_true rfl⟩ hP [] rfl hl.1 rfl rfl (Nat.le_of_ble_eq_true rfl) ⟨Nat.zero_le _, Nat.zero_le _⟩ dX11_isLess_71 (fun r_16 hf => ?_)
            refine lv_icmp_ge (tgt := 81) hx hb dX11_isLess_74 (by decide) (fun c_17 => ?_) (fun c_17 => ?_)
            · have hf := hf.1 c_17
              refine lv_iconst (v := 0) hx hb dX11_isLess_81 (by decide) ?_
              exact z_retPz X (Or.inl rfl) hf dX11_isLess_82
            · have hf := hf.2 c_17
              refine lv_iconst (v := 1) hx hb dX11_isLess_77 (by decide) ?_
              refine lv_goto (tgt := 82) hx hb dX11_isLess_78 (by decide) ?_
              exact z_retPz X (Or.inr rfl) hf dX11_isLess_82
  unfold t_X11_isLess_e at hf
  refine lv_aload_n hx hb dX11_isLess_0 rfl (lv_at hl 0 rfl) ?_
  refine lv_iload_n hx hb dX11_isLess_1 rfl (lv_at hl 1 rfl) ?_
  refine z_cVi (As := [.int x1]) (rest := []) X (c_X11_lengthOf l dC dI cI cJ cS a u x1 _ hf) zc_X11_lengthOf q_ml_X11_266 ⟨rfl, rfl⟩ ⟨Nat.le_of_ble_eq_true rfl, Nat.le_of_ble_eq_true rfl⟩ hP [0, 1, 2, 3, 4, 5, 6, 7, 8] rfl 10 rfl rfl hl.1 rfl rfl (Nat.le_of_ble_eq_true rfl) ⟨Nat.zero_le _, Nat.zero_le _⟩ dX11_isLess_2 (fun r_1 hf => ?_)
  refine lv_istore_n (lv' := [(3, .int r_1), (0, .ref (a 0)), (1, .int x1), (2, .int x2)]) hx hb dX11_isLess_5 rfl hl (by decide) rfl (fun ls hl => ?_)
  refine lv_aload_n hx hb dX11_isLess_6 rfl (lv_at hl 1 rfl) ?_
  refine lv_iload_n hx hb dX11_isLess_7 rfl (lv_at hl 3 rfl) ?_
  refine z_cVi (As := [.int x2]) (rest := []) X (c_X11_lengthOf l dC dI cI cJ cS a u x2 _ hf) zc_X11_lengthOf q_ml_X11_266 ⟨rfl, rfl⟩ ⟨Nat.le_of_ble_eq_true rfl, Nat.le_of_ble_eq_true rfl⟩ hP [0, 1, 2, 3, 4, 5, 6, 7, 8] rfl 10 rfl rfl hl.1 rfl rfl (Nat.le_of_ble_eq_true rfl) ⟨Nat.zero_le _, Nat.zero_le _⟩ dX11_isLess_8 (fun r_2 hf => ?_)
  refine lv_istore (lv' := [(4, .int r_2), (3, .int r_1), (0, .ref (a 0)), (1, .int x1), (2, .int x2)]) hx hb dX11_isLess_11 hl (by decide) rfl (fun ls hl => ?_)
  refine lv_aload_n hx hb dX11_isLess_13 rfl (lv_at hl 2 rfl) ?_
  refine lv_iload_n hx hb dX11_isLess_14 rfl (lv_at hl 3 rfl) ?_
  refine z_cVi (As := [.int x1]) (rest := []) X (c_X11_seedOf l dC dI cI cJ cS a u x1 _ hf) zc_X11_seedOf q_ml_X11_269 ⟨rfl, rfl⟩ ⟨Nat.le_of_ble_eq_true rfl, Nat.le_of_ble_eq_true rfl⟩ hP [0, 1, 2, 3, 4, 5, 6, 7, 8] rfl 10 rfl rfl hl.1 rfl rfl (Nat.le_of_ble_eq_true rfl) ⟨Nat.zero_le _, Nat.zero_le _⟩ dX11_isLess_15 (fun r_3 hf => ?_)
  refine lv_istore (lv' := [(5, .int r_3), (4, .int r_2), (3, .int r_1), (0, .ref (a 0)), (1, .int x1), (2, .int x2)]) hx hb dX11_isLess_18 hl (by decide) rfl (fun ls hl => ?_)
  refine lv_aload_n hx hb dX11_isLess_20 rfl (lv_at hl 3 rfl) ?_
  refine lv_iload_n hx hb dX11_isLess_21 rfl (lv_at hl 5 rfl) ?_
  refine z_cVi (As := [.int x2]) (rest := []) X (c_X11_seedOf l dC dI cI cJ cS a u x2 _ hf) zc_X11_seedOf q_ml_X11_269 ⟨rfl, rfl⟩ ⟨Nat.le_of_ble_eq_true rfl, Nat.le_of_ble_eq_true rfl⟩ hP [0, 1, 2, 3, 4, 5, 6, 7, 8] rfl 10 rfl rfl hl.1 rfl rfl (Nat.le_of_ble_eq_true rfl) ⟨Nat.zero_le _, Nat.zero_le _⟩ dX11_isLess_22 (fun r_4 hf => ?_)
  refine lv_istore (lv' := [(6, .int r_4), (5, .int r_3), (4, .int r_2), (3, .int r_1), (0, .ref (a 0)), (1, .int x1), (2, .int x2)]) hx hb dX11_isLess_25 hl (by decide) rfl (fun ls hl => ?_)
  refine lv_iconst (v := 0) hx hb dX11_isLess_27 (by decide) ?_
  refine lv_istore (lv' := [(7, .int (0 : Int32)), (6, .int r_4), (5, .int r_3), (4, .int r_2), (3, .int r_1), (0, .ref (a 0)), (1, .int x1), (2, .int x2)]) hx hb dX11_isLess_28 hl (by decide) rfl (fun ls hl => ?_)
  obtain ⟨k_5, hf⟩ := hf
  exact (LP k_5) _ _ _ _ _ ls hf (lv_sub hl [5, 6, 7, 4, 3, 2, 1, 0] rfl)
def s_X11_isLess (u : zModel) (x1 x2 : Int32) (Q : Int32 → Prop) : Prop := ∃ (v : zState) (a b : Nat), mOk v u.2.1 ∧ a < 64 ∧ b < 64 ∧ x1 = nI a ∧ x2 = nI b ∧ uVal v a = true ∧ uVal v b = true ∧ (uVof v a < uVof v b → Q 1) ∧ (¬ uVof v a < uVof v b → Q 0)
theorem st_X11_isLess {u : zModel} {x1 x2 : Int32} {Q : Int32 → Prop} (h : s_X11_isLess u x1 x2 Q) : v_X11_isLess u x1 x2 Q := by
  obtain ⟨v, a, b, hm, ha, hb, rfl, rfl, va, vb, h1, h0⟩ := h
  obtain ⟨a1, a2, a3, a4, a5, a6⟩ := vof_eq va
  obtain ⟨b1, b2, b3, b4, b5, b6⟩ := vof_eq vb
  rw [a1, b1] at h1 h0
  generalize lnN (uCur v a) = la at *
  generalize lnN (uCur v b) = lb at *
  generalize sdN (uCur v a) = sa at *
  generalize sdN (uCur v b) = sb at *
  have hlt : nI (64 * sa + la) < nI (64 * sb + lb) ↔ 64 * sa + la < 64 * sb + lb := nI_ltI (by omega) (by omega)
  rw [hlt] at h1 h0
  have by0 : ∀ s i : Nat, s < 256 → i < 64 → (nI s + (7 : Int32) * nI i) - (nI s + (7 : Int32) * nI i) / (256 : Int32) * (256 : Int32) = nI ((s + 7 * i) % 256) := fun s i hs hi => by
    rw [show (7 : Int32) = nI 7 from rfl, n_mul, nI_add, b256 (by omega)]
  refine ⟨fun n y3 y4 y5 y6 y7 => ∃ i : Nat, i ≤ la ∧ i ≤ lb ∧ (0 < i → sa = sb) ∧ n = 64 - i ∧ y3 = nI la ∧ y4 = nI lb ∧ y5 = nI sa ∧ y6 = nI sb ∧ y7 = nI i, ?_, ?_⟩
  · rintro n y3 y4 y5 y6 y7 ⟨i, hia, hib, hs, rfl, rfl, rfl, rfl, rfl, rfl⟩
    have fin : (la ≤ i ∨ lb ≤ i) → ((nI lb ≤ nI la → Q (0 : Int32)) ∧ (¬ nI lb ≤ nI la → Q (1 : Int32))) := by
      intro q
      have e := hs (by omega)
      subst e
      refine ⟨fun c => h0 ?_, fun c => h1 ?_⟩
      · have := (nI_leI (by omega) (by omega)).mp c
        omega
      · have : ¬ lb ≤ la := fun q => c (nI_le q (by omega))
        omega
    refine ⟨fun c => fin (Or.inl ((nI_leI (by omega) (by omega)).mp c)), fun c => ⟨fun c2 => fin (Or.inr ((nI_leI (by omega) (by omega)).mp c2)), fun c2 => ⟨by decide, by decide, ?_⟩⟩⟩
    have hi : i < la := by
      have : ¬ la ≤ i := fun q => c (nI_le q (by omega))
      omega
    rw [by0 sa i a4 (by omega), by0 sb i b4 (by omega)]
    refine ⟨fun d x e => ?_, fun d => ⟨by decide, by decide, ?_⟩⟩
    · have hib2 : i < lb := by
        have : ¬ lb ≤ i := fun q => c2 (nI_le q (by omega))
        omega
      refine ⟨64 - (i + 1), by omega, i + 1, by omega, by omega, fun _ => ?_, rfl, rfl, rfl, rfl, rfl, by rw [e, nI_1]⟩
      by_cases h0 : 0 < i
      · exact hs h0
      · have e0 : i = 0 := by omega
        subst e0
        have := (nI_eq (by omega) (by omega)).mp d
        omega
    · have e0 : i = 0 := by
        by_cases h0 : 0 < i
        · exact absurd (by rw [hs h0]) d
        · omega
      subst e0
      rw [by0 sa 0 a4 (by omega), by0 sb 0 b4 (by omega)]
      rw [show (sa + 7 * 0) % 256 = sa by omega, show (sb + 7 * 0) % 256 = sb by omega] at d ⊢
      have hne : ¬ sa = sb := fun q => d (by rw [q])
      refine ⟨fun c3 => h0 ?_, fun c3 => h1 ?_⟩
      · have := (nI_leI (by omega) (by omega)).mp c3
        omega
      · have : ¬ sb ≤ sa := fun q => c3 (nI_le q (by omega))
        omega
  · refine ⟨v, a, hm, ha, rfl, v, b, hm, hb, rfl, v, a, hm, ha, rfl, v, b, hm, hb, rfl, ?_⟩
    rw [a5, b5, a6, b6]
    exact ⟨64 - 0, 0, by omega, by omega, fun q => absurd q (Nat.lt_irrefl 0), rfl, rfl, rfl, rfl, rfl, rfl⟩
theorem c_X11_isLess (l : Launch) (dC : Nat → ClassId) (dI : Nat → Nat → Nat) (cI cJ cS : ClassId) (a : Nat → Nat) (u : zModel) (x1 : Int32) (x2 : Int32) (Q : Int32 → Prop) (hf : s_X11_isLess u x1 x2 Q) : Met l yX11_isLess (Cond.code yX11_isLess cX11_isLess 8 (some .boolean) :: zT) rm_X11_isLess (zPp dC dI cI cJ cS (cl_X11 cI cJ a u) [.ref (a 0), .int x1, .int x2]) (vp_Si (fun r => (r = 0 ∨ r = 1) ∧ Q r)) 0 0 (fun _ => False) := by
  obtain ⟨I30, h30, hf⟩ := st_X11_isLess hf
  exact L_X11_isLess l dC dI cI cJ cS a u x1 x2 Q I30 h30 hf

def t_X11_twinOf_e (u : zModel) (x1 : Int32) (K2 : Int32 → Prop) (Q : Int32 → Prop) : Prop := K2 (0 : Int32)
def t_X11_twinOf_2 (u : zModel) (x1 : Int32) (y2 : Int32) (K2 : Int32 → Prop) (Q : Int32 → Prop) : Prop := (((64 : Int32) ≤ y2 → Q (-1 : Int32)) ∧ (¬ (64 : Int32) ≤ y2 → ((y2 = x1 → ∀ x_4 : Int32, x_4 = y2 + (1 : Int32) → K2 x_4) ∧ (¬ y2 = x1 → s_X11_hasValue u y2 (fun r_6 : Int32 => ((r_6 = 0 → ∀ x_8 : Int32, x_8 = y2 + (1 : Int32) → K2 x_8) ∧ (¬ r_6 = 0 → s_X11_lengthOf u y2 (fun r_10 : Int32 => s_X11_lengthOf u x1 (fun r_11 : Int32 => ((¬ r_10 = r_11 → ∀ x_13 : Int32, x_13 = y2 + (1 : Int32) → K2 x_13) ∧ (r_10 = r_11 → s_X11_seedOf u y2 (fun r_15 : Int32 => s_X11_seedOf u x1 (fun r_16 : Int32 => ((¬ r_15 = r_16 → ∀ x_18 : Int32, x_18 = y2 + (1 : Int32) → K2 x_18) ∧ (r_15 = r_16 → Q y2)))))))))))))))
theorem zc_X11_twinOf : zCalV RX11 yX11_twinOf cX11_twinOf 3 (some .int) 1 := ⟨q_im_X11_twinOf, q_se_X11_twinOf, q_in_X11, q_cd_X11_twinOf, ⟨by decide, by decide, by decide +kernel⟩, rfl⟩
abbrev rm_X11_twinOf : Room := { frames := 6, cells := 0, slots := 0, locals := 131 }
def v_X11_twinOf (u : zModel) (x1 : Int32) (Q : Int32 → Prop) : Prop := ∃ I2 : Nat → Int32 → Prop, (∀ (n : Nat) (y2 : Int32), I2 n y2 → t_X11_twinOf_2 u x1 y2 (fun q0 => ∃ k : Nat, k < n ∧ I2 k q0) Q) ∧ t_X11_twinOf_e u x1 (fun q0 => ∃ k : Nat, I2 k q0) Q
set_option maxHeartbeats 4000000 in
set_option maxRecDepth 100000 in
theorem L_X11_twinOf (l : Launch) (dC : Nat → ClassId) (dI : Nat → Nat → Nat) (cI cJ cS : ClassId) (a : Nat → Nat) (u : zModel) (x1 : Int32) (Q : Int32 → Prop) (I2 : Nat → Int32 → Prop) (h2 : ∀ (n : Nat) (y2 : Int32), I2 n y2 → t_X11_twinOf_2 u x1 y2 (fun q0 => ∃ k : Nat, k < n ∧ I2 k q0) Q) (hf : t_X11_twinOf_e u x1 (fun q0 => ∃ k : Nat, I2 k q0) Q) : Met l yX11_twinOf (Cond.code yX11_twinOf cX11_twinOf 3 (some .int) :: zT) rm_X11_twinOf (zPp dC dI cI cJ cS (cl_X11 cI cJ a u) [.ref (a 0), .int x1]) (vp_Si Q) 0 0 (fun _ => False) := by
  refine z_enterP (cc := cX11_twinOf) (maxL := 3) (ret := (some .int)) (by decide) (Nat.le_of_ble_eq_true rfl) ?_
  intro p e s m below meth c ls X hP hl
  obtain ⟨⟨hx, hb, hml, hown, hts⟩, hr, hlk, hK⟩ := id X
  have hl : lv_has ls 3 [(0, .ref (a 0)), (1, .int x1)] := hl
  have LP : ∀ n : Nat, (∀ (y2 : Int32) (ls : Array Slot), I2 n y2 → lv_has ls 3 [(0, .ref (a 0)), (1, .int x1), (2, .int y2)] → W p l e rm_X11_twinOf s m [.ref (a 0), .int x1].toArray below meth c s.heap [] 0 0 (MQ below (vp_Si Q) [.ref (a 0), .int x1].toArray s 0 0 (fun _ => False)) (F0 m 2 ls [])) := by
    intro n
    induction n using Nat.strongRecOn with
    | _ n ih =>
      intro y2 ls hI hl
      have hf := h2 n y2 hI
      unfold t_X11_twinOf_2 at hf
      refine lv_iload_n hx hb dX11_twinOf_2 rfl (lv_at hl 2 rfl) ?_
      refine lv_bipush (v := 64) hx hb dX11_twinOf_3 (by decide) ?_
      refine lv_icmp_ge (tgt := 55) hx hb dX11_twinOf_5 (by decide) (fun c_2 => ?_) (fun c_2 => ?_)
      · have hf := hf.1 c_2
        refine lv_iconst (v := (-1)) hx hb dX11_twinOf_55 (by decide) ?_
        exact z_retPi X hf dX11_twinOf_56
      · have hf := hf.2 c_2
        refine lv_iload_n hx hb dX11_twinOf_8 rfl (lv_at hl 2 rfl) ?_
        refine lv_iload_n hx hb dX11_twinOf_9 rfl (lv_at hl 1 rfl) ?_
        refine lv_icmp_eq (tgt := 49) hx hb dX11_twinOf_10 (by decide) (fun c_3 => ?_) (fun c_3 => ?_)
        · have hf := hf.1 c_3
          obtain ⟨x_4, ex_4⟩ : ∃ y : Int32, y = y2 + (1 : Int32) := ⟨_, rfl⟩
          have hf := hf x_4 ex_4
          refine lv_iinc (v := x_4) (lv' := [(2, .int x_4), (0, .ref (a 0)), (1, .int x1)]) hx hb dX11_twinOf_49 hl (k := 2) rfl (by rw [ex_4]; rfl) (by decide) rfl (fun ls hl => ?_)
          refine lv_goto (tgt := 2) hx hb dX11_twinOf_52 (by decide) ?_
          obtain ⟨k_5, hk_5, hf⟩ := hf
          exact (ih k_5 hk_5) _ ls hf (lv_sub hl [1, 2, 0] rfl)
        · have hf := hf.2 c_3
          refine lv_aload_n hx hb dX11_twinOf_13 rfl (lv_at hl 0 rfl) ?_
          refine lv_iload_n hx hb dX11_twinOf_14 rfl (lv_at hl 2 rfl) ?_
          refine z_cVi (As := [.int y2]) (rest := []) X (c_X11_hasValue l dC dI cI cJ cS a u y2 _ hf) zc_X11_hasValue q_ml_X11_81 ⟨rfl, rfl⟩ ⟨Nat.le_of_ble_eq_true rfl, Nat.le_of_ble_eq_true rfl⟩ hP [0, 1, 2, 3, 4, 5, 6, 7, 8] rfl 10 rfl rfl hl.1 rfl rfl (Nat.le_of_ble_eq_true rfl) ⟨Nat.zero_le _, Nat.zero_le _⟩ dX11_twinOf_15 (fun r_6 hf => ?_)
          obtain ⟨hbr_6, hf⟩ := hf
          refine lv_if_eq (tgt := 49) hx hb dX11_twinOf_18 (by decide) (fun c_7 => ?_) (fun c_7 => ?_)
          · have hf := hf.1 c_7
            obtain ⟨x_8, ex_8⟩ : ∃ y : Int32, y = y2 + (1 : Int32) := ⟨_, rfl⟩
            have hf := hf x_8 ex_8
            refine lv_iinc (v := x_8) (lv' := [(2, .int x_8), (0, .ref (a 0)), (1, .int x1)]) hx hb dX11_twinOf_49 hl (k := 2) rfl (by rw [ex_8]; rfl) (by decide) rfl (fun ls hl => ?_)
            refine lv_goto (tgt := 2) hx hb dX11_twinOf_52 (by decide) ?_
            obtain ⟨k_9, hk_9, hf⟩ := hf
            exact (ih k_9 hk_9) _ ls hf (lv_sub hl [1, 2, 0] rfl)
          · have hf := hf.2 c_7
            refine lv_aload_n hx hb dX11_twinOf_21 rfl (lv_at hl 0 rfl) ?_
            refine lv_iload_n hx hb dX11_twinOf_22 rfl (lv_at hl 2 rfl) ?_
            refine z_cVi (As := [.int y2]) (rest := []) X (c_X11_lengthOf l dC dI cI cJ cS a u y2 _ hf) zc_X11_lengthOf q_ml_X11_266 ⟨rfl, rfl⟩ ⟨Nat.le_of_ble_eq_true rfl, Nat.le_of_ble_eq_true rfl⟩ hP [0, 1, 2, 3, 4, 5, 6, 7, 8] rfl 10 rfl rfl hl.1 rfl rfl (Nat.le_of_ble_eq_true rfl) ⟨Nat.zero_le _, Nat.zero_le _⟩ dX11_twinOf_23 (fun r_10 hf => ?_)
            refine lv_aload_n hx hb dX11_twinOf_26 rfl (lv_at hl 0 rfl) ?_
            refine lv_iload_n hx hb dX11_twinOf_27 rfl (lv_at hl 1 rfl) ?_
            refine z_cVi (As := [.int x1]) (rest := [.int r_10]) X (c_X11_lengthOf l dC dI cI cJ cS a u x1 _ hf) zc_X11_lengthOf q_ml_X11_266 ⟨rfl, rfl⟩ ⟨Nat.le_of_ble_eq_true rfl, Nat.le_of_ble_eq_true rfl⟩ hP [0, 1, 2, 3, 4, 5, 6, 7, 8] rfl 10 rfl rfl hl.1 rfl rfl (Nat.le_of_ble_eq_true rfl) ⟨Nat.zero_le _, Nat.zero_le _⟩ dX11_twinOf_28 (fun r_11 hf => ?_)
            refine lv_icmp_ne (tgt := 49) hx hb dX11_twinOf_31 (by decide) (fun c_12 => ?_) (fun c_12 => ?_)
            · have hf := hf.1 c_12
              obtain ⟨x_13, ex_13⟩ : ∃ y : Int32, y = y2 + (1 : Int32) := ⟨_, rfl⟩
              have hf := hf x_13 ex_13
              refine lv_iinc (v := x_13) (lv' := [(2, .int x_13), (0, .ref (a 0)), (1, .int x1)]) hx hb dX11_twinOf_49 hl (k := 2) rfl (by rw [ex_13]; rfl) (by decide) rfl (fun ls hl => ?_)
              refine lv_goto (tgt := 2) hx hb dX11_twinOf_52 (by decide) ?_
              obtain ⟨k_14, hk_14, hf⟩ := hf
              exact (ih k_14 hk_14) _ ls hf (lv_sub hl [1, 2, 0] rfl)
            · have hf := hf.2 c_12
              refine lv_aload_n hx hb dX11_twinOf_34 rfl (lv_at hl 0 rfl) ?_
              refine lv_iload_n hx hb dX11_twinOf_35 rfl (lv_at hl 2 rfl) ?_
              refine z_cVi (As := [.int y2]) (rest := []) X (c_X11_seedOf l dC dI cI cJ cS a u y2 _ hf) zc_X11_seedOf q_ml_X11_269 ⟨rfl, rfl⟩ ⟨Nat.le_of_ble_eq_true rfl, Nat.le_of_ble_eq_true rfl⟩ hP [0, 1, 2, 3, 4, 5, 6, 7, 8] rfl 10 rfl rfl hl.1 rfl rfl (Nat.le_of_ble_eq_true rfl) ⟨Nat.zero_le _, Nat.zero_le _⟩ dX11_twinOf_36 (fun r_15 hf => ?_)
              refine lv_aload_n hx hb dX11_twinOf_39 rfl (lv_at hl 0 rfl) ?_
              refine lv_iload_n hx hb dX11_twinOf_40 rfl (lv_at hl 1 rfl) ?_
              refine z_cVi (As := [.int x1]) (rest := [.int r_15]) X (c_X11_seedOf l dC dI cI cJ cS a u x1 _ hf) zc_X11_seedOf q_ml_X11_269 ⟨rfl, rfl⟩ ⟨Nat.le_of_ble_eq_true rfl, Nat.le_of_ble_eq_true rfl⟩ hP [0, 1, 2, 3, 4, 5, 6, 7, 8] rfl 10 rfl rfl hl.1 rfl rfl (Nat.le_of_ble_eq_true rfl) ⟨Nat.zero_le _, Nat.zero_le _⟩ dX11_twinOf_41 (fun r_16 hf => ?_)
              refine lv_icmp_ne (tgt := 49) hx hb dX11_twinOf_44 (by decide) (fun c_17 => ?_) (fun c_17 => ?_)
              · have hf := hf.1 c_17
                obtain ⟨x_18, ex_18⟩ : ∃ y : Int32, y = y2 + (1 : Int32) := ⟨_, rfl⟩
                have hf := hf x_18 ex_18
                refine lv_iinc (v := x_18) (lv' := [(2, .int x_18), (0, .ref (a 0)), (1, .int x1)]) hx hb dX11_twinOf_49 hl (k := 2) rfl (by rw [ex_18]; rfl) (by decide) rfl (fun ls hl => ?_)
                refine lv_goto (tgt := 2) hx hb dX11_twinOf_52 (by decide) ?_
                obtain ⟨k_19, hk_19, hf⟩ := hf
                exact (ih k_19 hk_19) _ ls hf (lv_sub hl [1, 2, 0] rfl)
              · have hf := hf.2 c_17
                refine lv_iload_n hx hb dX11_twinOf_47 rfl (lv_at hl 2 rfl) ?_
                exact z_retPi X hf dX11_twinOf_48
  unfold t_X11_twinOf_e at hf
  refine lv_iconst (v := 0) hx hb dX11_twinOf_0 (by decide) ?_
  refine lv_istore_n (lv' := [(2, .int (0 : Int32)), (0, .ref (a 0)), (1, .int x1)]) hx hb dX11_twinOf_1 rfl hl (by decide) rfl (fun ls hl => ?_)
  obtain ⟨k_1, hf⟩ := hf
  exact (LP k_1) _ ls hf (lv_sub hl [1, 2, 0] rfl)
def s_X11_twinOf (u : zModel) (x1 : Int32) (Q : Int32 → Prop) : Prop := ∃ (v : zState) (k : Nat), mOk v u.2.1 ∧ k < 64 ∧ x1 = nI k ∧ uVal v k = true ∧ Q (zFst (fun j => decide (¬ j = k ∧ uVof v j = uVof v k)) 64)
theorem st_X11_twinOf {u : zModel} {x1 : Int32} {Q : Int32 → Prop} (h : s_X11_twinOf u x1 Q) : v_X11_twinOf u x1 Q := by
  obtain ⟨v, k, hm, hk, rfl, hv, h⟩ := h
  have hle := fa_first_le (fun j => decide (¬ j = k ∧ uVof v j = uVof v k)) 64
  have key : ∀ j, uVof v j = uVof v k ↔ uVal v j = true ∧ uLenF v j = uLenF v k ∧ uSeedF v j = uSeedF v k := fun j => by
    rw [vof_iff]
    refine ⟨fun q => ⟨?_, q⟩, fun q => q.2⟩
    cases hj : uVal v j with
    | true => rfl
    | false =>
      obtain ⟨b1, b2, b3, b4, b5, b6⟩ := vof_eq hv
      rw [(vof_no hj).2.1, b5] at q
      exact absurd q.1.symm (n_neg (by omega))
  refine zlp1 (T := fun y K => t_X11_twinOf_2 u (nI k) y K Q) (E := fun K => t_X11_twinOf_e u (nI k) K Q) (fa_first (fun j => decide (¬ j = k ∧ uVof v j = uVof v k)) 64) (fun i => nI i) (fun K hK => hK) ?_ ?_
  · intro i hi K hK
    have hp := fa_first_no (fun j => decide (¬ j = k ∧ uVof v j = uVof v k)) 64 i hi
    simp only [decide_eq_false_iff_not] at hp
    have nx : ∀ x : Int32, x = nI i + 1 → K x := fun x e => by rw [e, nI_1]; exact hK
    refine ⟨fun c => absurd c (ge64 (by omega)), fun _ => ⟨fun _ => nx, fun c => ⟨v, i, hm, by omega, rfl, fun d => ⟨fun q => absurd q (by decide), fun _ => ⟨v, i, hm, by omega, rfl, v, k, hm, hk, rfl, fun _ => nx, fun c2 => ⟨v, i, hm, by omega, rfl, v, k, hm, hk, rfl, fun _ => nx, fun c3 => ?_⟩⟩⟩, fun d => ⟨fun _ => nx, fun q => absurd rfl q⟩⟩⟩⟩
    exact absurd ⟨fun q => c (by rw [q]), (key i).mpr ⟨d, c2, c3⟩⟩ hp
  · intro K
    by_cases hf : fa_first (fun j => decide (¬ j = k ∧ uVof v j = uVof v k)) 64 < 64
    · have hp := fa_first_yes (fun j => decide (¬ j = k ∧ uVof v j = uVof v k)) 64 hf
      simp only [decide_eq_true_eq] at hp
      rw [zFst_yes hf] at h
      obtain ⟨p1, p2⟩ := hp
      obtain ⟨k1, k2, k3⟩ := (key _).mp p2
      refine ⟨fun c => absurd c (ge64 hf), fun _ => ⟨fun c => absurd ((nI_eq (by omega) (by omega)).mp c) p1, fun _ => ⟨v, _, hm, hf, rfl, fun d => ⟨fun q => absurd q (by decide), fun _ => ⟨v, _, hm, hf, rfl, v, k, hm, hk, rfl, fun c2 => absurd k2 c2, fun _ => ⟨v, _, hm, hf, rfl, v, k, hm, hk, rfl, fun c3 => absurd k3 c3, fun _ => h⟩⟩⟩, fun d => ?_⟩⟩⟩
      rw [k1] at d; exact absurd d (by decide)
    · rw [zFst_no hf] at h
      have he : fa_first (fun j => decide (¬ j = k ∧ uVof v j = uVof v k)) 64 = 64 := by omega
      show t_X11_twinOf_2 u (nI k) (nI (fa_first (fun j => decide (¬ j = k ∧ uVof v j = uVof v k)) 64)) K Q
      rw [he]
      exact ⟨fun _ => h, fun c => absurd (le64 (Nat.le_refl _) (by decide)) c⟩
theorem c_X11_twinOf (l : Launch) (dC : Nat → ClassId) (dI : Nat → Nat → Nat) (cI cJ cS : ClassId) (a : Nat → Nat) (u : zModel) (x1 : Int32) (Q : Int32 → Prop) (hf : s_X11_twinOf u x1 Q) : Met l yX11_twinOf (Cond.code yX11_twinOf cX11_twinOf 3 (some .int) :: zT) rm_X11_twinOf (zPp dC dI cI cJ cS (cl_X11 cI cJ a u) [.ref (a 0), .int x1]) (vp_Si Q) 0 0 (fun _ => False) := by
  obtain ⟨I2, h2, hf⟩ := st_X11_twinOf hf
  exact L_X11_twinOf l dC dI cI cJ cS a u x1 Q I2 h2 hf

def t_X11_rank_e (u : zModel) (x1 : Int32) (x2 : Int32) (K50 : Int32 → Int32 → zModel → Prop) (Q : Int32 → zModel → Prop) : Prop := s_X11_isKey x1 (fun r_1 : Int32 => ((r_1 = 0 → (((1 : Int32) ≤ 0 → s_X11_hasValue ((1 : Int32), u.2) x1 (fun r_4 : Int32 => ((¬ r_4 = 0 → ((x2 = 0 → K50 (0 : Int32) (0 : Int32) ((1 : Int32), u.2)) ∧ (¬ x2 = 0 → s_X11_twinOf ((1 : Int32), u.2) x1 (fun r_8 : Int32 => Q r_8 ((1 : Int32), u.2))))) ∧ (r_4 = 0 → Q (-1 : Int32) ((1 : Int32), u.2))))) ∧ (¬ (1 : Int32) ≤ 0 → Q (0 : Int32) ((1 : Int32), u.2)))) ∧ (¬ r_1 = 0 → (((0 : Int32) ≤ 0 → s_X11_hasValue ((0 : Int32), u.2) x1 (fun r_10 : Int32 => ((¬ r_10 = 0 → ((x2 = 0 → K50 (0 : Int32) (0 : Int32) ((0 : Int32), u.2)) ∧ (¬ x2 = 0 → s_X11_twinOf ((0 : Int32), u.2) x1 (fun r_14 : Int32 => Q r_14 ((0 : Int32), u.2))))) ∧ (r_10 = 0 → Q (-1 : Int32) ((0 : Int32), u.2))))) ∧ (¬ (0 : Int32) ≤ 0 → Q (0 : Int32) ((0 : Int32), u.2))))))
def t_X11_rank_50 (x1 : Int32) (x2 : Int32) (y3 : Int32) (y4 : Int32) (z : zModel) (K50 : Int32 → Int32 → zModel → Prop) (Q : Int32 → zModel → Prop) : Prop := (((64 : Int32) ≤ y4 → Q y3 z) ∧ (¬ (64 : Int32) ≤ y4 → s_X11_hasValue z y4 (fun r_16 : Int32 => ((r_16 = 0 → ∀ x_18 : Int32, x_18 = (y3 + (0 : Int32)) → ∀ x_19 : Int32, x_19 = y4 + (1 : Int32) → K50 x_18 x_19 z) ∧ (¬ r_16 = 0 → s_X11_isLess z y4 x1 (fun r_21 : Int32 => ((r_21 = 0 → ∀ x_23 : Int32, x_23 = (y3 + (0 : Int32)) → ∀ x_24 : Int32, x_24 = y4 + (1 : Int32) → K50 x_23 x_24 z) ∧ (¬ r_21 = 0 → ∀ x_26 : Int32, x_26 = (y3 + (1 : Int32)) → ∀ x_27 : Int32, x_27 = y4 + (1 : Int32) → K50 x_26 x_27 z))))))))
theorem zc_X11_rank : zCalV RX11 yX11_rank cX11_rank 5 (some .int) 2 := ⟨q_im_X11_rank, q_se_X11_rank, q_in_X11, q_cd_X11_rank, ⟨by decide, by decide, by decide +kernel⟩, rfl⟩
abbrev rm_X11_rank : Room := { frames := 7, cells := 0, slots := 0, locals := 158 }
def v_X11_rank (u : zModel) (x1 : Int32) (x2 : Int32) (Q : Int32 → zModel → Prop) : Prop := ∃ I50 : Nat → Int32 → Int32 → zModel → Prop, (∀ (n : Nat) (y3 : Int32) (y4 : Int32) (z : zModel), I50 n y3 y4 z → t_X11_rank_50 x1 x2 y3 y4 z (fun q0 q1 q2 => ∃ k : Nat, k < n ∧ I50 k q0 q1 q2) Q) ∧ t_X11_rank_e u x1 x2 (fun q0 q1 q2 => ∃ k : Nat, I50 k q0 q1 q2) Q
set_option maxHeartbeats 4000000 in
set_option maxRecDepth 100000 in
theorem L_X11_rank (l : Launch) (dC : Nat → ClassId) (dI : Nat → Nat → Nat) (cI cJ cS : ClassId) (a : Nat → Nat) (u : zModel) (x1 : Int32) (x2 : Int32) (Q : Int32 → zModel → Prop) (I50 : Nat → Int32 → Int32 → zModel → Prop) (h50 : ∀ (n : Nat) (y3 : Int32) (y4 : Int32) (z : zModel), I50 n y3 y4 z → t_X11_rank_50 x1 x2 y3 y4 z (fun q0 q1 q2 => ∃ k : Nat, k < n ∧ I50 k q0 q1 q2) Q) (hf : t_X11_rank_e u x1 x2 (fun q0 q1 q2 => ∃ k : Nat, I50 k q0 q1 q2) Q) : ∀ sz : Nat, Met l yX11_rank (Cond.code yX11_rank cX11_rank 5 (some .int) :: zT) rm_X11_rank (zPm dC dI cI cJ cS (cl_X11 cI cJ a u) [.ref (a 0), .int x1, .int x2] sz) (va_Qi Q (zB dC dI cI cJ cS (va_A (cl_X11 cI cJ a u) sz) (fun z => cl_X11 cI cJ a z)) (va_A (cl_X11 cI cJ a u) sz)) 0 0 (va_A (cl_X11 cI cJ a u) sz) := by
  intro sz
  refine z_enterM (Qc := fun A => va_Qi Q (zB dC dI cI cJ cS A (fun z => cl_X11 cI cJ a z)) A) (cc := cX11_rank) (maxL := 5) (ret := (some .int)) (by decide) (Nat.le_of_ble_eq_true rfl) ?_
  intro p e s m below meth c ls A X hP hD hS hA hl
  obtain ⟨⟨hx, hb, hml, hown, hts⟩, hr, hlk, hK⟩ := id X
  have hl : lv_has ls 5 [(0, .ref (a 0)), (1, .int x1), (2, .int x2)] := hl
  have LP : ∀ n : Nat, (∀ (y3 : Int32) (y4 : Int32) (z : zModel) (H : Heap) (locs : List Loc) (ls : Array Slot), I50 n y3 y4 z → va_P (dC, dI) vwCl (cl_X11 cI cJ a z) H → va_D A (cl_X11 cI cJ a z) → va_S A s.heap H locs → lv_has ls 5 [(0, .ref (a 0)), (1, .int x1), (2, .int x2), (3, .int y3), (4, .int y4)] → W p l e rm_X11_rank s m [.ref (a 0), .int x1, .int x2].toArray below meth c H locs 0 0 (MQ below (va_Qi Q (zB dC dI cI cJ cS A (fun z => cl_X11 cI cJ a z)) A) [.ref (a 0), .int x1, .int x2].toArray s 0 0 A) (F0 m 50 ls [])) := by
    intro n
    induction n using Nat.strongRecOn with
    | _ n ih =>
      intro y3 y4 z H locs ls hI hP hD hS hl
      have hf := h50 n y3 y4 z hI
      unfold t_X11_rank_50 at hf
      refine lv_iload hx hb dX11_rank_50 (lv_at hl 4 rfl) ?_
      refine lv_bipush (v := 64) hx hb dX11_rank_52 (by decide) ?_
      refine lv_icmp_ge (tgt := 90) hx hb dX11_rank_54 (by decide) (fun c_15 => ?_) (fun c_15 => ?_)
      · have hf := hf.1 c_15
        refine lv_iload_n hx hb dX11_rank_90 rfl (lv_at hl 3 rfl) ?_
        exact z_retMi (Wf := (fun z => cl_X11 cI cJ a z)) (u := z) X hf hP hD hS dX11_rank_91
      · have hf := hf.2 c_15
        refine lv_iload_n hx hb dX11_rank_57 rfl (lv_at hl 3 rfl) ?_
        refine lv_aload_n hx hb dX11_rank_58 rfl (lv_at hl 0 rfl) ?_
        refine lv_iload hx hb dX11_rank_59 (lv_at hl 4 rfl) ?_
        refine z_cVi (As := [.int y4]) (rest := [.int y3]) X (c_X11_hasValue l dC dI cI cJ cS a z y4 _ hf) zc_X11_hasValue q_ml_X11_81 ⟨rfl, rfl⟩ ⟨Nat.le_of_ble_eq_true rfl, Nat.le_of_ble_eq_true rfl⟩ hP [0, 1, 2, 3, 4, 5, 6, 7, 8] rfl 10 rfl rfl hl.1 rfl rfl (Nat.le_of_ble_eq_true rfl) ⟨Nat.zero_le _, Nat.zero_le _⟩ dX11_rank_61 (fun r_16 hf => ?_)
        obtain ⟨hbr_16, hf⟩ := hf
        refine lv_if_eq (tgt := 81) hx hb dX11_rank_64 (by decide) (fun c_17 => ?_) (fun c_17 => ?_)
        · have hf := hf.1 c_17
          refine lv_iconst (v := 0) hx hb dX11_rank_81 (by decide) ?_
          refine lv_iadd hx hb dX11_rank_82 ?_
          refine lv_topi (fun x_18 ex_18 => ?_)
          have hf := hf x_18 ex_18
          refine lv_istore_n (lv' := [(3, .int x_18), (0, .ref (a 0)), (1, .int x1), (2, .int x2), (4, .int y4)]) hx hb dX11_rank_83 rfl hl (by decide) rfl (fun ls hl => ?_)
          obtain ⟨x_19, ex_19⟩ : ∃ y : Int32, y = y4 + (1 : Int32) := ⟨_, rfl⟩
          have hf := hf x_19 ex_19
          refine lv_iinc (v := x_19) (lv' := [(4, .int x_19), (3, .int x_18), (0, .ref (a 0)), (1, .int x1), (2, .int x2)]) hx hb dX11_rank_84 hl (k := 4) rfl (by rw [ex_19]; rfl) (by decide) rfl (fun ls hl => ?_)
          refine lv_goto (tgt := 50) hx hb dX11_rank_87 (by decide) ?_
          obtain ⟨k_20, hk_20, hf⟩ := hf
          exact (ih k_20 hk_20) _ _ z _ _ ls hf hP hD hS (lv_sub hl [2, 3, 4, 1, 0] rfl)
        · have hf := hf.2 c_17
          refine lv_aload_n hx hb dX11_rank_67 rfl (lv_at hl 0 rfl) ?_
          refine lv_iload hx hb dX11_rank_68 (lv_at hl 4 rfl) ?_
          refine lv_iload_n hx hb dX11_rank_70 rfl (lv_at hl 1 rfl) ?_
          refine z_cVi (As := [.int y4, .int x1]) (rest := [.int y3]) X (c_X11_isLess l dC dI cI cJ cS a z y4 x1 _ hf) zc_X11_isLess q_ml_X11_308 ⟨rfl, rfl⟩ ⟨Nat.le_of_ble_eq_true rfl, Nat.le_of_ble_eq_true rfl⟩ hP [0, 1, 2, 3, 4, 5, 6, 7, 8] rfl 10 rfl rfl hl.1 rfl rfl (Nat.le_of_ble_eq_true rfl) ⟨Nat.zero_le _, Nat.zero_le _⟩ dX11_rank_71 (fun r_21 hf => ?_)
          obtain ⟨hbr_21, hf⟩ := hf
          refine lv_if_eq (tgt := 81) hx hb dX11_rank_74 (by decide) (fun c_22 => ?_) (fun c_22 => ?_)
          · have hf := hf.1 c_22
            refine lv_iconst (v := 0) hx hb dX11_rank_81 (by decide) ?_
            refine lv_iadd hx hb dX11_rank_82 ?_
            refine lv_topi (fun x_23 ex_23 => ?_)
            have hf := hf x_23 ex_23
            refine lv_istore_n (lv' := [(3, .int x_23), (0, .ref (a 0)), (1, .int x1), (2, .int x2), (4, .int y4)]) hx hb dX11_rank_83 rfl hl (by decide) rfl (fun ls hl => ?_)
            obtain ⟨x_24, ex_24⟩ : ∃ y : Int32, y = y4 + (1 : Int32) := ⟨_, rfl⟩
            have hf := hf x_24 ex_24
            refine lv_iinc (v := x_24) (lv' := [(4, .int x_24), (3, .int x_23), (0, .ref (a 0)), (1, .int x1), (2, .int x2)]) hx hb dX11_rank_84 hl (k := 4) rfl (by rw [ex_24]; rfl) (by decide) rfl (fun ls hl => ?_)
            refine lv_goto (tgt := 50) hx hb dX11_rank_87 (by decide) ?_
            obtain ⟨k_25, hk_25, hf⟩ := hf
            exact (ih k_25 hk_25) _ _ z _ _ ls hf hP hD hS (lv_sub hl [2, 3, 4, 1, 0] rfl)
          · have hf := hf.2 c_22
            refine lv_iconst (v := 1) hx hb dX11_rank_77 (by decide) ?_
            refine lv_goto (tgt := 82) hx hb dX11_rank_78 (by decide) ?_
            refine lv_iadd hx hb dX11_rank_82 ?_
            refine lv_topi (fun x_26 ex_26 => ?_)
            have hf := hf x_26 ex_26
            refine lv_istore_n (lv' := [(3, .int x_26), (0, .ref (a 0)), (1, .int x1), (2, .int x2), (4, .int y4)]) hx hb dX11_rank_83 rfl hl (by decide) rfl (fun ls hl => ?_)
            obtain ⟨x_27, ex_27⟩ : ∃ y : Int32, y = y4 + (1 : Int32) := ⟨_, rfl⟩
            have hf := hf x_27 ex_27
            refine lv_iinc (v := x_27) (lv' := [(4, .int x_27), (3, .int x_26), (0, .ref (a 0)), (1, .int x1), (2, .int x2)]) hx hb dX11_rank_84 hl (k := 4) rfl (by rw [ex_27]; rfl) (by decide) rfl (fun ls hl => ?_)
            refine lv_goto (tgt := 50) hx hb dX11_rank_87 (by decide) ?_
            obtain ⟨k_28, hk_28, hf⟩ := hf
            exact (ih k_28 hk_28) _ _ z _ _ ls hf hP hD hS (lv_sub hl [2, 3, 4, 1, 0] rfl)
  unfold t_X11_rank_e at hf
  refine lv_aload_n hx hb dX11_rank_0 rfl (lv_at hl 0 rfl) ?_
  refine lv_iload_n hx hb dX11_rank_1 rfl (lv_at hl 1 rfl) ?_
  refine z_cSi (As := [.int x1]) (rest := [.ref (a 0)]) X (c_X11_isKey l dC dI cI cJ cS   x1 _ hf) zc_X11_isKey q_ml_X11_254 ⟨rfl, rfl⟩ ⟨Nat.le_of_ble_eq_true rfl, Nat.le_of_ble_eq_true rfl⟩ hP [] rfl hl.1 rfl rfl (Nat.le_of_ble_eq_true rfl) ⟨Nat.zero_le _, Nat.zero_le _⟩ dX11_rank_2 (fun r_1 hf => ?_)
  obtain ⟨hbr_1, hf⟩ := hf
  refine lv_if_eq (tgt := 12) hx hb dX11_rank_5 (by decide) (fun c_2 => ?_) (fun c_2 => ?_)
  · have hf := hf.1 c_2
    refine lv_iconst (v := 1) hx hb dX11_rank_12 (by decide) ?_
    refine z_put (w' := cl_X11 cI cJ a ((1 : Int32), u.2)) (ci := 10) (v := .int (1 : Int32)) (ty := .int) (Cn := RX11) (T := TX11) (N := 17) X inX11 tyX11 tyX11_ok nmX11 hP hD hS 0 rfl rfl 0 (by decide) (hts _ q_fl_X11_43) (fun _ h9 => h9) rfl (tyX11_ok 0 (by decide)) rfl rfl (Nat.le_of_ble_eq_true rfl) rfl dX11_rank_13 (fun H locs hP hD hS => ?_)
    refine lv_aload_n hx hb dX11_rank_16 rfl (lv_at hl 0 rfl) ?_
    refine va_get (D := (dC, dI)) (ci := 10) (v := .int (1 : Int32)) (C := RX11) (T := TX11) (N := 17) hx hb hts inX11 hown hK hP 0 rfl rfl 0 (by decide) (hts _ q_fl_X11_43) (fun _ h9 => h9) rfl dX11_rank_17 ?_
    refine lv_if_le (tgt := 25) hx hb dX11_rank_20 (by decide) (fun c_3 => ?_) (fun c_3 => ?_)
    · have hf := hf.1 c_3
      refine lv_aload_n hx hb dX11_rank_25 rfl (lv_at hl 0 rfl) ?_
      refine lv_iload_n hx hb dX11_rank_26 rfl (lv_at hl 1 rfl) ?_
      refine z_cVi (As := [.int x1]) (rest := []) X (c_X11_hasValue l dC dI cI cJ cS a ((1 : Int32), u.2) x1 _ hf) zc_X11_hasValue q_ml_X11_81 ⟨rfl, rfl⟩ ⟨Nat.le_of_ble_eq_true rfl, Nat.le_of_ble_eq_true rfl⟩ hP [0, 1, 2, 3, 4, 5, 6, 7, 8] rfl 10 rfl rfl hl.1 rfl rfl (Nat.le_of_ble_eq_true rfl) ⟨Nat.zero_le _, Nat.zero_le _⟩ dX11_rank_27 (fun r_4 hf => ?_)
      obtain ⟨hbr_4, hf⟩ := hf
      refine lv_if_ne (tgt := 35) hx hb dX11_rank_30 (by decide) (fun c_5 => ?_) (fun c_5 => ?_)
      · have hf := hf.1 c_5
        refine lv_iload_n hx hb dX11_rank_35 rfl (lv_at hl 2 rfl) ?_
        refine lv_if_eq (tgt := 45) hx hb dX11_rank_36 (by decide) (fun c_6 => ?_) (fun c_6 => ?_)
        · have hf := hf.1 c_6
          refine lv_iconst (v := 0) hx hb dX11_rank_45 (by decide) ?_
          refine lv_istore_n (lv' := [(3, .int (0 : Int32)), (0, .ref (a 0)), (1, .int x1), (2, .int x2)]) hx hb dX11_rank_46 rfl hl (by decide) rfl (fun ls hl => ?_)
          refine lv_iconst (v := 0) hx hb dX11_rank_47 (by decide) ?_
          refine lv_istore (lv' := [(4, .int (0 : Int32)), (3, .int (0 : Int32)), (0, .ref (a 0)), (1, .int x1), (2, .int x2)]) hx hb dX11_rank_48 hl (by decide) rfl (fun ls hl => ?_)
          obtain ⟨k_7, hf⟩ := hf
          exact (LP k_7) _ _ ((1 : Int32), u.2) _ _ ls hf hP hD hS (lv_sub hl [2, 3, 4, 1, 0] rfl)
        · have hf := hf.2 c_6
          refine lv_aload_n hx hb dX11_rank_39 rfl (lv_at hl 0 rfl) ?_
          refine lv_iload_n hx hb dX11_rank_40 rfl (lv_at hl 1 rfl) ?_
          refine z_cVi (As := [.int x1]) (rest := []) X (c_X11_twinOf l dC dI cI cJ cS a ((1 : Int32), u.2) x1 _ hf) zc_X11_twinOf q_ml_X11_305 ⟨rfl, rfl⟩ ⟨Nat.le_of_ble_eq_true rfl, Nat.le_of_ble_eq_true rfl⟩ hP [0, 1, 2, 3, 4, 5, 6, 7, 8] rfl 10 rfl rfl hl.1 rfl rfl (Nat.le_of_ble_eq_true rfl) ⟨Nat.zero_le _, Nat.zero_le _⟩ dX11_rank_41 (fun r_8 hf => ?_)
          exact z_retMi (Wf := (fun z => cl_X11 cI cJ a z)) (u := ((1 : Int32), u.2)) X hf hP hD hS dX11_rank_44
      · have hf := hf.2 c_5
        refine lv_iconst (v := (-1)) hx hb dX11_rank_33 (by decide) ?_
        exact z_retMi (Wf := (fun z => cl_X11 cI cJ a z)) (u := ((1 : Int32), u.2)) X hf hP hD hS dX11_rank_34
    · have hf := hf.2 c_3
      refine lv_iconst (v := 0) hx hb dX11_rank_23 (by decide) ?_
      exact z_retMi (Wf := (fun z => cl_X11 cI cJ a z)) (u := ((1 : Int32), u.2)) X hf hP hD hS dX11_rank_24
  · have hf := hf.2 c_2
    refine lv_iconst (v := 0) hx hb dX11_rank_8 (by decide) ?_
    refine lv_goto (tgt := 13) hx hb dX11_rank_9 (by decide) ?_
    refine z_put (w' := cl_X11 cI cJ a ((0 : Int32), u.2)) (ci := 10) (v := .int (0 : Int32)) (ty := .int) (Cn := RX11) (T := TX11) (N := 17) X inX11 tyX11 tyX11_ok nmX11 hP hD hS 0 rfl rfl 0 (by decide) (hts _ q_fl_X11_43) (fun _ h9 => h9) rfl (tyX11_ok 0 (by decide)) rfl rfl (Nat.le_of_ble_eq_true rfl) rfl dX11_rank_13 (fun H locs hP hD hS => ?_)
    refine lv_aload_n hx hb dX11_rank_16 rfl (lv_at hl 0 rfl) ?_
    refine va_get (D := (dC, dI)) (ci := 10) (v := .int (0 : Int32)) (C := RX11) (T := TX11) (N := 17) hx hb hts inX11 hown hK hP 0 rfl rfl 0 (by decide) (hts _ q_fl_X11_43) (fun _ h9 => h9) rfl dX11_rank_17 ?_
    refine lv_if_le (tgt := 25) hx hb dX11_rank_20 (by decide) (fun c_9 => ?_) (fun c_9 => ?_)
    · have hf := hf.1 c_9
      refine lv_aload_n hx hb dX11_rank_25 rfl (lv_at hl 0 rfl) ?_
      refine lv_iload_n hx hb dX11_rank_26 rfl (lv_at hl 1 rfl) ?_
      refine z_cVi (As := [.int x1]) (rest := []) X (c_X11_hasValue l dC dI cI cJ cS a ((0 : Int32), u.2) x1 _ hf) zc_X11_hasValue q_ml_X11_81 ⟨rfl, rfl⟩ ⟨Nat.le_of_ble_eq_true rfl, Nat.le_of_ble_eq_true rfl⟩ hP [0, 1, 2, 3, 4, 5, 6, 7, 8] rfl 10 rfl rfl hl.1 rfl rfl (Nat.le_of_ble_eq_true rfl) ⟨Nat.zero_le _, Nat.zero_le _⟩ dX11_rank_27 (fun r_10 hf => ?_)
      obtain ⟨hbr_10, hf⟩ := hf
      refine lv_if_ne (tgt := 35) hx hb dX11_rank_30 (by decide) (fun c_11 => ?_) (fun c_11 => ?_)
      · have hf := hf.1 c_11
        refine lv_iload_n hx hb dX11_rank_35 rfl (lv_at hl 2 rfl) ?_
        refine lv_if_eq (tgt := 45) hx hb dX11_rank_36 (by decide) (fun c_12 => ?_) (fun c_12 => ?_)
        · have hf := hf.1 c_12
          refine lv_iconst (v := 0) hx hb dX11_rank_45 (by decide) ?_
          refine lv_istore_n (lv' := [(3, .int (0 : Int32)), (0, .ref (a 0)), (1, .int x1), (2, .int x2)]) hx hb dX11_rank_46 rfl hl (by decide) rfl (fun ls hl => ?_)
          refine lv_iconst (v := 0) hx hb dX11_rank_47 (by decide) ?_
          refine lv_istore (lv' := [(4, .int (0 : Int32)), (3, .int (0 : Int32)), (0, .ref (a 0)), (1, .int x1), (2, .int x2)]) hx hb dX11_rank_48 hl (by decide) rfl (fun ls hl => ?_)
          obtain ⟨k_13, hf⟩ := hf
          exact (LP k_13) _ _ ((0 : Int32), u.2) _ _ ls hf hP hD hS (lv_sub hl [2, 3, 4, 1, 0] rfl)
        · have hf := hf.2 c_12
          refine lv_aload_n hx hb dX11_rank_39 rfl (lv_at hl 0 rfl) ?_
          refine lv_iload_n hx hb dX11_rank_40 rfl (lv_at hl 1 rfl) ?_
          refine z_cVi (As := [.int x1]) (rest := []) X (c_X11_twinOf l dC dI cI cJ cS a ((0 : Int32), u.2) x1 _ hf) zc_X11_twinOf q_ml_X11_305 ⟨rfl, rfl⟩ ⟨Nat.le_of_ble_eq_true rfl, Nat.le_of_ble_eq_true rfl⟩ hP [0, 1, 2, 3, 4, 5, 6, 7, 8] rfl 10 rfl rfl hl.1 rfl rfl (Nat.le_of_ble_eq_true rfl) ⟨Nat.zero_le _, Nat.zero_le _⟩ dX11_rank_41 (fun r_14 hf => ?_)
          exact z_retMi (Wf := (fun z => cl_X11 cI cJ a z)) (u := ((0 : Int32), u.2)) X hf hP hD hS dX11_rank_44
      · have hf := hf.2 c_11
        refine lv_iconst (v := (-1)) hx hb dX11_rank_33 (by decide) ?_
        exact z_retMi (Wf := (fun z => cl_X11 cI cJ a z)) (u := ((0 : Int32), u.2)) X hf hP hD hS dX11_rank_34
    · have hf := hf.2 c_9
      refine lv_iconst (v := 0) hx hb dX11_rank_23 (by decide) ?_
      exact z_retMi (Wf := (fun z => cl_X11 cI cJ a z)) (u := ((0 : Int32), u.2)) X hf hP hD hS dX11_rank_24
def s_X11_rank (u : zModel) (x1 x2 : Int32) (Q : Int32 → zModel → Prop) : Prop := mAsk u (fun v => fRank v x1 x2) Q
theorem st_X11_rank {u : zModel} {x1 x2 : Int32} {Q : Int32 → zModel → Prop} (h : s_X11_rank u x1 x2 Q) : v_X11_rank u x1 x2 Q := by
  obtain ⟨B, G, hG, hm, hQ⟩ := h
  dsimp only at hQ
  unfold fRank at hQ
  have hmk : mOk (gNow G) u.2.1 := hG.1.mok hm.now
  by_cases c1 : inR x1 0 63
  · rw [if_pos c1] at hQ
    obtain ⟨k, hk, rfl, ek⟩ := key_n c1
    rw [ek] at hQ
    have hQ := hQ _ (hm.th 0) rfl
    dsimp only at hQ
    have ent : ∀ K : Int32 → Int32 → zModel → Prop, s_X11_hasValue ((0 : Int32), u.2) (nI k) (fun r_10 : Int32 => ((¬ r_10 = 0 → ((x2 = 0 → K (0 : Int32) (0 : Int32) ((0 : Int32), u.2)) ∧ (¬ x2 = 0 → s_X11_twinOf ((0 : Int32), u.2) (nI k) (fun r_14 : Int32 => Q r_14 ((0 : Int32), u.2))))) ∧ (r_10 = 0 → Q (-1 : Int32) ((0 : Int32), u.2)))) → t_X11_rank_e u (nI k) x2 K Q := fun K hK => isIn_of (fun _ => ⟨fun q => absurd q (by decide), fun _ => ⟨fun _ => hK, fun q => absurd (by decide) q⟩⟩) (fun q => absurd c1 q)
    cases hv : uVal (gNow G) k with
    | false =>
      rw [if_neg (by rw [hv]; decide)] at hQ
      exact ⟨fun _ _ _ _ => False, fun _ _ _ _ q => q.elim, ent _ ⟨gNow G, k, hmk, hk, rfl, fun d => by rw [hv] at d; exact absurd d (by decide), fun _ => ⟨fun q => absurd rfl q, fun _ => hQ⟩⟩⟩
    | true =>
      rw [if_pos hv] at hQ
      by_cases h2 : x2 = 0
      · rw [if_pos h2] at hQ
        generalize hp : (fun j => uVal (gNow G) j && decide (uVof (gNow G) j < uVof (gNow G) k)) = p at hQ
        have hpk : ∀ j, p j = (uVal (gNow G) j && decide (uVof (gNow G) j < uVof (gNow G) k)) := fun j => by rw [← hp]
        refine zlp3 (T := fun y y' z K => t_X11_rank_50 (nI k) x2 y y' z K Q) (E := fun K => t_X11_rank_e u (nI k) x2 K Q) 64 (fun i => nI (fa_cnt p i)) (fun i => nI i) (fun _ => ((0 : Int32), u.2)) (fun K hK => ?_) ?_ ?_
        · exact ent _ ⟨gNow G, k, hmk, hk, rfl, fun _ => ⟨fun _ => ⟨fun _ => hK, fun q => absurd h2 q⟩, fun q => absurd q (by decide)⟩, fun d => by rw [hv] at d; exact absurd d (by decide)⟩
        · intro i hi K hK
          have nx : ∀ b : Nat, fa_cnt p (i + 1) = fa_cnt p i + b → ∀ x : Int32, x = nI (fa_cnt p i) + nI b → ∀ x' : Int32, x' = nI i + 1 → K x x' ((0 : Int32), u.2) := fun b eb x e x' e' => by
            have hK : K (nI (fa_cnt p (i + 1))) (nI (i + 1)) ((0 : Int32), u.2) := hK
            rw [e, e', nI_add, nI_1, ← eb]; exact hK
          refine ⟨fun c => absurd c (ge64 hi), fun _ => ⟨gNow G, i, hmk, hi, rfl, fun d => ⟨fun q => absurd q (by decide), fun _ => ⟨gNow G, i, k, hmk, hi, hk, rfl, rfl, d, hv, fun c2 => ⟨fun q => absurd q (by decide), fun _ => nx 1 (fa_cnt_yes (by rw [hpk, d, decide_eq_true c2]; rfl))⟩, fun c2 => ⟨fun _ => nx 0 (fa_cnt_no (by rw [hpk, decide_eq_false c2, Bool.and_false])), fun q => absurd rfl q⟩⟩⟩, fun d => ⟨fun _ => nx 0 (fa_cnt_no (by rw [hpk, d]; rfl)), fun q => absurd rfl q⟩⟩⟩
        · intro K
          exact ⟨fun _ => hQ, fun c => absurd (le64 (Nat.le_refl _) (by decide)) c⟩
      · rw [if_neg h2] at hQ
        exact ⟨fun _ _ _ _ => False, fun _ _ _ _ q => q.elim, ent _ ⟨gNow G, k, hmk, hk, rfl, fun _ => ⟨fun _ => ⟨fun q => absurd q h2, fun _ => ⟨gNow G, k, hmk, hk, rfl, hv, hQ⟩⟩, fun q => absurd q (by decide)⟩, fun d => by rw [hv] at d; exact absurd d (by decide)⟩⟩
  · rw [if_neg c1] at hQ
    exact ⟨fun _ _ _ _ => False, fun _ _ _ _ q => q.elim, isIn_of (fun q => absurd q c1) (fun _ => ⟨fun _ => ⟨fun q => absurd q (by decide), fun _ => hQ _ (hm.th 1) rfl⟩, fun q => absurd rfl q⟩)⟩
theorem c_X11_rank (l : Launch) (dC : Nat → ClassId) (dI : Nat → Nat → Nat) (cI cJ cS : ClassId) (a : Nat → Nat) (u : zModel) (x1 : Int32) (x2 : Int32) (Q : Int32 → zModel → Prop) (hf : s_X11_rank u x1 x2 Q) : ∀ sz : Nat, Met l yX11_rank (Cond.code yX11_rank cX11_rank 5 (some .int) :: zT) rm_X11_rank (zPm dC dI cI cJ cS (cl_X11 cI cJ a u) [.ref (a 0), .int x1, .int x2] sz) (va_Qi Q (zB dC dI cI cJ cS (va_A (cl_X11 cI cJ a u) sz) (fun z => cl_X11 cI cJ a z)) (va_A (cl_X11 cI cJ a u) sz)) 0 0 (va_A (cl_X11 cI cJ a u) sz) := by
  obtain ⟨I50, h50, hf⟩ := st_X11_rank hf
  exact L_X11_rank l dC dI cI cJ cS a u x1 x2 Q I50 h50 hf
