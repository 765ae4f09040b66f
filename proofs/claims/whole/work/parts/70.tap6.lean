def s_X6_hasRoom (u : zTape) (x1 : Int32) (Q : Int32 → Prop) : Prop := (((400 : Int32) < (u.2.2.1 + x1) → Q (0 : Int32)) ∧ (¬ (400 : Int32) < (u.2.2.1 + x1) → Q (1 : Int32)))
theorem zc_X6_hasRoom : zCalV RX6 yX6_hasRoom cX6_hasRoom 2 (some .boolean) 1 := ⟨q_im_X6_hasRoom, q_se_X6_hasRoom, q_in_X6, q_cd_X6_hasRoom, ⟨by decide, by decide, by decide +kernel⟩, rfl⟩
abbrev rm_X6_hasRoom : Room := { frames := 0, cells := 0, slots := 0, locals := 0 }
set_option maxHeartbeats 4000000 in
set_option maxRecDepth 100000 in
theorem c_X6_hasRoom (l : Launch) (dC : Nat → ClassId) (dI : Nat → Nat → Nat) (cI cJ cS : ClassId) (a : Nat → Nat) (u : zTape) (x1 : Int32) (Q : Int32 → Prop) (hf : s_X6_hasRoom u x1 Q) : Met l yX6_hasRoom (Cond.code yX6_hasRoom cX6_hasRoom 2 (some .boolean) :: zT) rm_X6_hasRoom (zPp dC dI cI cJ cS (cl_X6 cI cJ a u) [.ref (a 0), .int x1]) (vp_Si (fun r => (r = 0 ∨ r = 1) ∧ Q r)) 0 0 (fun _ => False) := by
  refine z_enterP (cc := cX6_hasRoom) (maxL := 2) (ret := (some .boolean)) (by decide) (Nat.le_of_ble_eq_true rfl) ?_
  intro p e s m below meth c ls X hP hl
  obtain ⟨⟨hx, hb, hml, hown, hts⟩, hr, hlk, hK⟩ := id X
  have hl : lv_has ls 2 [(0, .ref (a 0)), (1, .int x1)] := hl
  unfold s_X6_hasRoom at hf
  refine lv_aload_n hx hb dX6_hasRoom_0 rfl (lv_at hl 0 rfl) ?_
  refine va_get (D := (dC, dI)) (ci := 5) (v := .int u.2.2.1) (C := RX6) (T := TX6) (N := 7) hx hb hts inX6 hown hK hP 0 rfl rfl 2 (by decide) (hts _ q_fl_X6_18) (fun _ h9 => h9) rfl dX6_hasRoom_1 ?_
  refine lv_iload_n hx hb dX6_hasRoom_4 rfl (lv_at hl 1 rfl) ?_
  refine lv_iadd hx hb dX6_hasRoom_5 ?_
  refine lv_sipush (v := 400) hx hb dX6_hasRoom_6 (by decide) ?_
  refine lv_icmp_gt (tgt := 16) hx hb dX6_hasRoom_9 (by decide) (fun c_1 => ?_) (fun c_1 => ?_)
  · have hf := hf.1 c_1
    refine lv_iconst (v := 0) hx hb dX6_hasRoom_16 (by decide) ?_
    exact z_retPz X (Or.inl rfl) hf dX6_hasRoom_17
  · have hf := hf.2 c_1
    refine lv_iconst (v := 1) hx hb dX6_hasRoom_12 (by decide) ?_
    refine lv_goto (tgt := 17) hx hb dX6_hasRoom_13 (by decide) ?_
    exact z_retPz X (Or.inr rfl) hf dX6_hasRoom_17

def s_X6_rewind (u : zTape) (Q : zTape → Prop) : Prop := Q (u.1, u.2.1, u.2.2.1, (0 : Int32), u.2.2.2.2.1, u.2.2.2.2.2.1, (-1 : Int32))
theorem zc_X6_rewind : zCalV RX6 yX6_rewind cX6_rewind 1 none 0 := ⟨q_im_X6_rewind, q_se_X6_rewind, q_in_X6, q_cd_X6_rewind, ⟨by decide, by decide, by decide +kernel⟩, rfl⟩
abbrev rm_X6_rewind : Room := { frames := 0, cells := 0, slots := 0, locals := 0 }
set_option maxHeartbeats 4000000 in
set_option maxRecDepth 100000 in
theorem c_X6_rewind (l : Launch) (dC : Nat → ClassId) (dI : Nat → Nat → Nat) (cI cJ cS : ClassId) (a : Nat → Nat) (u : zTape) (Q : zTape → Prop) (hf : s_X6_rewind u Q) : ∀ sz : Nat, Met l yX6_rewind (Cond.code yX6_rewind cX6_rewind 1 none :: zT) rm_X6_rewind (zPm dC dI cI cJ cS (cl_X6 cI cJ a u) [.ref (a 0)] sz) (va_Qv Q (zB dC dI cI cJ cS (va_A (cl_X6 cI cJ a u) sz) (fun z => cl_X6 cI cJ a z)) (va_A (cl_X6 cI cJ a u) sz)) 0 0 (va_A (cl_X6 cI cJ a u) sz) := by
  intro sz
  refine z_enterM (Qc := fun A => va_Qv Q (zB dC dI cI cJ cS A (fun z => cl_X6 cI cJ a z)) A) (cc := cX6_rewind) (maxL := 1) (ret := none) (by decide) (Nat.le_of_ble_eq_true rfl) ?_
  intro p e s m below meth c ls A X hP hD hS hA hl
  obtain ⟨⟨hx, hb, hml, hown, hts⟩, hr, hlk, hK⟩ := id X
  have hl : lv_has ls 1 [(0, .ref (a 0))] := hl
  unfold s_X6_rewind at hf
  refine lv_aload_n hx hb dX6_rewind_0 rfl (lv_at hl 0 rfl) ?_
  refine lv_iconst (v := 0) hx hb dX6_rewind_1 (by decide) ?_
  refine z_put (w' := cl_X6 cI cJ a (u.1, u.2.1, u.2.2.1, (0 : Int32), u.2.2.2.2.1, u.2.2.2.2.2.1, u.2.2.2.2.2.2)) (ci := 5) (v := .int (0 : Int32)) (ty := .int) (Cn := RX6) (T := TX6) (N := 7) X inX6 tyX6 tyX6_ok nmX6 hP hD hS 0 rfl rfl 3 (by decide) (hts _ q_fl_X6_26) (fun _ h9 => h9) rfl (tyX6_ok 3 (by decide)) rfl rfl (Nat.le_of_ble_eq_true rfl) rfl dX6_rewind_2 (fun H locs hP hD hS => ?_)
  refine lv_aload_n hx hb dX6_rewind_5 rfl (lv_at hl 0 rfl) ?_
  refine lv_iconst (v := (-1)) hx hb dX6_rewind_6 (by decide) ?_
  refine z_put (w' := cl_X6 cI cJ a (u.1, u.2.1, u.2.2.1, (0 : Int32), u.2.2.2.2.1, u.2.2.2.2.2.1, (-1 : Int32))) (ci := 5) (v := .int (-1 : Int32)) (ty := .int) (Cn := RX6) (T := TX6) (N := 7) X inX6 tyX6 tyX6_ok nmX6 hP hD hS 0 rfl rfl 6 (by decide) (hts _ q_fl_X6_29) (fun _ h9 => h9) rfl (tyX6_ok 6 (by decide)) rfl rfl (Nat.le_of_ble_eq_true rfl) rfl dX6_rewind_7 (fun H locs hP hD hS => ?_)
  exact z_retMv (Wf := (fun z => cl_X6 cI cJ a z)) (u := (u.1, u.2.1, u.2.2.1, (0 : Int32), u.2.2.2.2.1, u.2.2.2.2.2.1, (-1 : Int32))) X hf hP hD hS dX6_rewind_10

def s_X6_number (u : zTape) (x1 : Int32) (Q : Int32 → Prop) : Prop := ((x1 < 0 → Q (-1 : Int32)) ∧ (¬ x1 < 0 → ((x1 < (4 : Int32) → vp_in x1 4 ∧ Q (u.2.1 x1.toNatClampNeg)) ∧ (¬ x1 < (4 : Int32) → Q (-1 : Int32)))))
theorem zc_X6_number : zCalV RX6 yX6_number cX6_number 2 (some .int) 1 := ⟨q_im_X6_number, q_se_X6_number, q_in_X6, q_cd_X6_number, ⟨by decide, by decide, by decide +kernel⟩, rfl⟩
abbrev rm_X6_number : Room := { frames := 0, cells := 0, slots := 0, locals := 0 }
set_option maxHeartbeats 4000000 in
set_option maxRecDepth 100000 in
theorem c_X6_number (l : Launch) (dC : Nat → ClassId) (dI : Nat → Nat → Nat) (cI cJ cS : ClassId) (a : Nat → Nat) (u : zTape) (x1 : Int32) (Q : Int32 → Prop) (hf : s_X6_number u x1 Q) : Met l yX6_number (Cond.code yX6_number cX6_number 2 (some .int) :: zT) rm_X6_number (zPp dC dI cI cJ cS (cl_X6 cI cJ a u) [.ref (a 0), .int x1]) (vp_Si Q) 0 0 (fun _ => False) := by
  refine z_enterP (cc := cX6_number) (maxL := 2) (ret := (some .int)) (by decide) (Nat.le_of_ble_eq_true rfl) ?_
  intro p e s m below meth c ls X hP hl
  obtain ⟨⟨hx, hb, hml, hown, hts⟩, hr, hlk, hK⟩ := id X
  have hl : lv_has ls 2 [(0, .ref (a 0)), (1, .int x1)] := hl
  unfold s_X6_number at hf
  refine lv_iload_n hx hb dX6_number_0 rfl (lv_at hl 1 rfl) ?_
  refine lv_if_lt (tgt := 9) hx hb dX6_number_1 (by decide) (fun c_1 => ?_) (fun c_1 => ?_)
  · have hf := hf.1 c_1
    refine lv_iconst (v := (-1)) hx hb dX6_number_9 (by decide) ?_
    refine lv_goto (tgt := 19) hx hb dX6_number_10 (by decide) ?_
    exact z_retPi X hf dX6_number_19
  · have hf := hf.2 c_1
    refine lv_iload_n hx hb dX6_number_4 rfl (lv_at hl 1 rfl) ?_
    refine lv_iconst (v := 4) hx hb dX6_number_5 (by decide) ?_
    refine lv_icmp_lt (tgt := 13) hx hb dX6_number_6 (by decide) (fun c_2 => ?_) (fun c_2 => ?_)
    · have hf := hf.1 c_2
      refine lv_aload_n hx hb dX6_number_13 rfl (lv_at hl 0 rfl) ?_
      refine va_get (D := (dC, dI)) (ci := 5) (v := .ref (a 2)) (C := RX6) (T := TX6) (N := 7) hx hb hts inX6 hown hK hP 0 rfl rfl 1 (by decide) (hts _ q_fl_X6_15) (fun _ h9 => h9) rfl dX6_number_14 ?_
      refine lv_iload_n hx hb dX6_number_17 rfl (lv_at hl 1 rfl) ?_
      obtain ⟨hg, hf⟩ := hf
      refine va_iald hx hb hK hP 2 0 rfl rfl hg dX6_number_18 ?_
      exact z_retPi X hf dX6_number_19
    · have hf := hf.2 c_2
      refine lv_iconst (v := (-1)) hx hb dX6_number_9 (by decide) ?_
      refine lv_goto (tgt := 19) hx hb dX6_number_10 (by decide) ?_
      exact z_retPi X hf dX6_number_19

def s_X6_here (u : zTape) (Q : Int32 → Prop) : Prop := ((u.2.2.2.1 < 0 → Q (-1 : Int32)) ∧ (¬ u.2.2.2.1 < 0 → ((u.2.2.1 ≤ u.2.2.2.1 → Q (-1 : Int32)) ∧ (¬ u.2.2.1 ≤ u.2.2.2.1 → ((u.2.2.2.1 < (400 : Int32) → vp_in u.2.2.2.1 400 ∧ Q (u.1 u.2.2.2.1.toNatClampNeg)) ∧ (¬ u.2.2.2.1 < (400 : Int32) → Q (-1 : Int32)))))))
theorem zc_X6_here : zCalV RX6 yX6_here cX6_here 1 (some .int) 0 := ⟨q_im_X6_here, q_se_X6_here, q_in_X6, q_cd_X6_here, ⟨by decide, by decide, by decide +kernel⟩, rfl⟩
abbrev rm_X6_here : Room := { frames := 0, cells := 0, slots := 0, locals := 0 }
set_option maxHeartbeats 4000000 in
set_option maxRecDepth 100000 in
theorem c_X6_here (l : Launch) (dC : Nat → ClassId) (dI : Nat → Nat → Nat) (cI cJ cS : ClassId) (a : Nat → Nat) (u : zTape) (Q : Int32 → Prop) (hf : s_X6_here u Q) : Met l yX6_here (Cond.code yX6_here cX6_here 1 (some .int) :: zT) rm_X6_here (zPp dC dI cI cJ cS (cl_X6 cI cJ a u) [.ref (a 0)]) (vp_Si Q) 0 0 (fun _ => False) := by
  refine z_enterP (cc := cX6_here) (maxL := 1) (ret := (some .int)) (by decide) (Nat.le_of_ble_eq_true rfl) ?_
  intro p e s m below meth c ls X hP hl
  obtain ⟨⟨hx, hb, hml, hown, hts⟩, hr, hlk, hK⟩ := id X
  have hl : lv_has ls 1 [(0, .ref (a 0))] := hl
  unfold s_X6_here at hf
  refine lv_aload_n hx hb dX6_here_0 rfl (lv_at hl 0 rfl) ?_
  refine va_get (D := (dC, dI)) (ci := 5) (v := .int u.2.2.2.1) (C := RX6) (T := TX6) (N := 7) hx hb hts inX6 hown hK hP 0 rfl rfl 3 (by decide) (hts _ q_fl_X6_26) (fun _ h9 => h9) rfl dX6_here_1 ?_
  refine lv_if_lt (tgt := 28) hx hb dX6_here_4 (by decide) (fun c_1 => ?_) (fun c_1 => ?_)
  · have hf := hf.1 c_1
    refine lv_iconst (v := (-1)) hx hb dX6_here_28 (by decide) ?_
    refine lv_goto (tgt := 41) hx hb dX6_here_29 (by decide) ?_
    exact z_retPi X hf dX6_here_41
  · have hf := hf.2 c_1
    refine lv_aload_n hx hb dX6_here_7 rfl (lv_at hl 0 rfl) ?_
    refine va_get (D := (dC, dI)) (ci := 5) (v := .int u.2.2.2.1) (C := RX6) (T := TX6) (N := 7) hx hb hts inX6 hown hK hP 0 rfl rfl 3 (by decide) (hts _ q_fl_X6_26) (fun _ h9 => h9) rfl dX6_here_8 ?_
    refine lv_aload_n hx hb dX6_here_11 rfl (lv_at hl 0 rfl) ?_
    refine va_get (D := (dC, dI)) (ci := 5) (v := .int u.2.2.1) (C := RX6) (T := TX6) (N := 7) hx hb hts inX6 hown hK hP 0 rfl rfl 2 (by decide) (hts _ q_fl_X6_18) (fun _ h9 => h9) rfl dX6_here_12 ?_
    refine lv_icmp_ge (tgt := 28) hx hb dX6_here_15 (by decide) (fun c_2 => ?_) (fun c_2 => ?_)
    · have hf := hf.1 c_2
      refine lv_iconst (v := (-1)) hx hb dX6_here_28 (by decide) ?_
      refine lv_goto (tgt := 41) hx hb dX6_here_29 (by decide) ?_
      exact z_retPi X hf dX6_here_41
    · have hf := hf.2 c_2
      refine lv_aload_n hx hb dX6_here_18 rfl (lv_at hl 0 rfl) ?_
      refine va_get (D := (dC, dI)) (ci := 5) (v := .int u.2.2.2.1) (C := RX6) (T := TX6) (N := 7) hx hb hts inX6 hown hK hP 0 rfl rfl 3 (by decide) (hts _ q_fl_X6_26) (fun _ h9 => h9) rfl dX6_here_19 ?_
      refine lv_sipush (v := 400) hx hb dX6_here_22 (by decide) ?_
      refine lv_icmp_lt (tgt := 32) hx hb dX6_here_25 (by decide) (fun c_3 => ?_) (fun c_3 => ?_)
      · have hf := hf.1 c_3
        refine lv_aload_n hx hb dX6_here_32 rfl (lv_at hl 0 rfl) ?_
        refine va_get (D := (dC, dI)) (ci := 5) (v := .ref (a 1)) (C := RX6) (T := TX6) (N := 7) hx hb hts inX6 hown hK hP 0 rfl rfl 0 (by decide) (hts _ q_fl_X6_9) (fun _ h9 => h9) rfl dX6_here_33 ?_
        refine lv_aload_n hx hb dX6_here_36 rfl (lv_at hl 0 rfl) ?_
        refine va_get (D := (dC, dI)) (ci := 5) (v := .int u.2.2.2.1) (C := RX6) (T := TX6) (N := 7) hx hb hts inX6 hown hK hP 0 rfl rfl 3 (by decide) (hts _ q_fl_X6_26) (fun _ h9 => h9) rfl dX6_here_37 ?_
        obtain ⟨hg, hf⟩ := hf
        refine va_iald hx hb hK hP 1 0 rfl rfl hg dX6_here_40 ?_
        exact z_retPi X hf dX6_here_41
      · have hf := hf.2 c_3
        refine lv_iconst (v := (-1)) hx hb dX6_here_28 (by decide) ?_
        refine lv_goto (tgt := 41) hx hb dX6_here_29 (by decide) ?_
        exact z_retPi X hf dX6_here_41

def s_X6_isDigit (u : zTape) (Q : Int32 → Prop) : Prop := s_X6_here u (fun r_1 : Int32 => ((r_1 < (48 : Int32) → Q (0 : Int32)) ∧ (¬ r_1 < (48 : Int32) → s_X6_here u (fun r_3 : Int32 => (((57 : Int32) < r_3 → Q (0 : Int32)) ∧ (¬ (57 : Int32) < r_3 → Q (1 : Int32)))))))
theorem zc_X6_isDigit : zCalV RX6 yX6_isDigit cX6_isDigit 1 (some .boolean) 0 := ⟨q_im_X6_isDigit, q_se_X6_isDigit, q_in_X6, q_cd_X6_isDigit, ⟨by decide, by decide, by decide +kernel⟩, rfl⟩
abbrev rm_X6_isDigit : Room := { frames := 1, cells := 0, slots := 0, locals := 20 }
set_option maxHeartbeats 4000000 in
set_option maxRecDepth 100000 in
theorem c_X6_isDigit (l : Launch) (dC : Nat → ClassId) (dI : Nat → Nat → Nat) (cI cJ cS : ClassId) (a : Nat → Nat) (u : zTape) (Q : Int32 → Prop) (hf : s_X6_isDigit u Q) : Met l yX6_isDigit (Cond.code yX6_isDigit cX6_isDigit 1 (some .boolean) :: zT) rm_X6_isDigit (zPp dC dI cI cJ cS (cl_X6 cI cJ a u) [.ref (a 0)]) (vp_Si (fun r => (r = 0 ∨ r = 1) ∧ Q r)) 0 0 (fun _ => False) := by
  refine z_enterP (cc := cX6_isDigit) (maxL := 1) (ret := (some .boolean)) (by decide) (Nat.le_of_ble_eq_true rfl) ?_
  intro p e s m below meth c ls X hP hl
  obtain ⟨⟨hx, hb, hml, hown, hts⟩, hr, hlk, hK⟩ := id X
  have hl : lv_has ls 1 [(0, .ref (a 0))] := hl
  unfold s_X6_isDigit at hf
  refine lv_aload_n hx hb dX6_isDigit_0 rfl (lv_at hl 0 rfl) ?_
  refine z_cVi (As := []) (rest := []) X (c_X6_here l dC dI cI cJ cS a u  _ hf) zc_X6_here q_ml_X6_35 ⟨rfl, rfl⟩ ⟨Nat.le_of_ble_eq_true rfl, Nat.le_of_ble_eq_true rfl⟩ hP [0, 1, 2] rfl 5 rfl rfl hl.1 rfl rfl (Nat.le_of_ble_eq_true rfl) ⟨Nat.zero_le _, Nat.zero_le _⟩ dX6_isDigit_1 (fun r_1 hf => ?_)
  refine lv_bipush (v := 48) hx hb dX6_isDigit_4 (by decide) ?_
  refine lv_icmp_lt (tgt := 22) hx hb dX6_isDigit_6 (by decide) (fun c_2 => ?_) (fun c_2 => ?_)
  · have hf := hf.1 c_2
    refine lv_iconst (v := 0) hx hb dX6_isDigit_22 (by decide) ?_
    exact z_retPz X (Or.inl rfl) hf dX6_isDigit_23
  · have hf := hf.2 c_2
    refine lv_aload_n hx hb dX6_isDigit_9 rfl (lv_at hl 0 rfl) ?_
    refine z_cVi (As := []) (rest := []) X (c_X6_here l dC dI cI cJ cS a u  _ hf) zc_X6_here q_ml_X6_35 ⟨rfl, rfl⟩ ⟨Nat.le_of_ble_eq_true rfl, Nat.le_of_ble_eq_true rfl⟩ hP [0, 1, 2] rfl 5 rfl rfl hl.1 rfl rfl (Nat.le_of_ble_eq_true rfl) ⟨Nat.zero_le _, Nat.zero_le _⟩ dX6_isDigit_10 (fun r_3 hf => ?_)
    refine lv_bipush (v := 57) hx hb dX6_isDigit_13 (by decide) ?_
    refine lv_icmp_gt (tgt := 22) hx hb dX6_isDigit_15 (by decide) (fun c_4 => ?_) (fun c_4 => ?_)
    · have hf := hf.1 c_4
      refine lv_iconst (v := 0) hx hb dX6_isDigit_22 (by decide) ?_
      exact z_retPz X (Or.inl rfl) hf dX6_isDigit_23
    · have hf := hf.2 c_4
      refine lv_iconst (v := 1) hx hb dX6_isDigit_18 (by decide) ?_
      refine lv_goto (tgt := 23) hx hb dX6_isDigit_19 (by decide) ?_
      exact z_retPz X (Or.inr rfl) hf dX6_isDigit_23

def s_X6_isWrong (u : zTape) (x1 : Int32) (Q : Int32 → zTape → Prop) : Prop := Q (0 : Int32) (u.1, u.2.1, u.2.2.1, u.2.2.2.1, u.2.2.2.2.1, u.2.2.2.2.2.1, x1)
theorem zc_X6_isWrong : zCalV RX6 yX6_isWrong cX6_isWrong 2 (some .boolean) 1 := ⟨q_im_X6_isWrong, q_se_X6_isWrong, q_in_X6, q_cd_X6_isWrong, ⟨by decide, by decide, by decide +kernel⟩, rfl⟩
abbrev rm_X6_isWrong : Room := { frames := 0, cells := 0, slots := 0, locals := 0 }
set_option maxHeartbeats 4000000 in
set_option maxRecDepth 100000 in
theorem c_X6_isWrong (l : Launch) (dC : Nat → ClassId) (dI : Nat → Nat → Nat) (cI cJ cS : ClassId) (a : Nat → Nat) (u : zTape) (x1 : Int32) (Q : Int32 → zTape → Prop) (hf : s_X6_isWrong u x1 Q) : ∀ sz : Nat, Met l yX6_isWrong (Cond.code yX6_isWrong cX6_isWrong 2 (some .boolean) :: zT) rm_X6_isWrong (zPm dC dI cI cJ cS (cl_X6 cI cJ a u) [.ref (a 0), .int x1] sz) (va_Qi (fun r u => (r = 0 ∨ r = 1) ∧ Q r u) (zB dC dI cI cJ cS (va_A (cl_X6 cI cJ a u) sz) (fun z => cl_X6 cI cJ a z)) (va_A (cl_X6 cI cJ a u) sz)) 0 0 (va_A (cl_X6 cI cJ a u) sz) := by
  intro sz
  refine z_enterM (Qc := fun A => va_Qi (fun r u => (r = 0 ∨ r = 1) ∧ Q r u) (zB dC dI cI cJ cS A (fun z => cl_X6 cI cJ a z)) A) (cc := cX6_isWrong) (maxL := 2) (ret := (some .boolean)) (by decide) (Nat.le_of_ble_eq_true rfl) ?_
  intro p e s m below meth c ls A X hP hD hS hA hl
  obtain ⟨⟨hx, hb, hml, hown, hts⟩, hr, hlk, hK⟩ := id X
  have hl : lv_has ls 2 [(0, .ref (a 0)), (1, .int x1)] := hl
  unfold s_X6_isWrong at hf
  refine lv_aload_n hx hb dX6_isWrong_0 rfl (lv_at hl 0 rfl) ?_
  refine lv_iload_n hx hb dX6_isWrong_1 rfl (lv_at hl 1 rfl) ?_
  refine z_put (w' := cl_X6 cI cJ a (u.1, u.2.1, u.2.2.1, u.2.2.2.1, u.2.2.2.2.1, u.2.2.2.2.2.1, x1)) (ci := 5) (v := .int x1) (ty := .int) (Cn := RX6) (T := TX6) (N := 7) X inX6 tyX6 tyX6_ok nmX6 hP hD hS 0 rfl rfl 6 (by decide) (hts _ q_fl_X6_29) (fun _ h9 => h9) rfl (tyX6_ok 6 (by decide)) rfl rfl (Nat.le_of_ble_eq_true rfl) rfl dX6_isWrong_2 (fun H locs hP hD hS => ?_)
  refine lv_iconst (v := 0) hx hb dX6_isWrong_5 (by decide) ?_
  exact z_retMz (Wf := (fun z => cl_X6 cI cJ a z)) (u := (u.1, u.2.1, u.2.2.1, u.2.2.2.1, u.2.2.2.2.1, u.2.2.2.2.2.1, x1)) X (Or.inl rfl) hf hP hD hS dX6_isWrong_6

/-! the class's TAPE -/
def tTx (u : zTape) (N p : Nat) : Prop := N ≤ 400 ∧ p ≤ N ∧ u.2.2.1 = nI N ∧ u.2.2.2.1 = nI p
def tAt (u : zTape) (x : Int32) : zTape := (u.1, u.2.1, u.2.2.1, x, u.2.2.2.2.1, u.2.2.2.2.2.1, u.2.2.2.2.2.2)
theorem tTx.at {u : zTape} {N p q : Nat} (h : tTx u N p) (hq : q ≤ N) : tTx (tAt u (nI q)) N q := ⟨h.1, hq, h.2.2.1, rfl⟩
theorem here6 {u : zTape} {N p : Nat} {Q : Int32 → Prop} (h : tTx u N p) (h1 : p < N → Q (u.1 p)) (h0 : ¬ p < N → Q (-1)) : s_X6_here u Q := by
  obtain ⟨hN, hp, eN, ep⟩ := h
  unfold s_X6_here
  rw [eN, ep, nI_clamp (by omega)]
  refine ⟨fun c => absurd c (nI_pos (by omega)), fun _ => ⟨fun c => h0 ?_, fun c => ⟨fun _ => ⟨?_, h1 ?_⟩, fun d => absurd (nI_lt (b := 400) ?_ (by decide)) d⟩⟩⟩
  · have := (nI_leI (by omega) (by omega)).mp c
    omega
  all_goals have hlt : ¬ N ≤ p := fun z => c (nI_le z (by omega))
  · exact vp_in_nI (by omega) (by decide)
  · omega
  · omega

def t_X6_skipBlanks_e (u : zTape) (K0 : zTape → Prop) (Q : zTape → Prop) : Prop := K0 u
def t_X6_skipBlanks_0 (z : zTape) (K0 : zTape → Prop) (Q : zTape → Prop) : Prop := ((z.2.2.1 ≤ z.2.2.2.1 → Q z) ∧ (¬ z.2.2.1 ≤ z.2.2.2.1 → s_X6_here z (fun r_3 : Int32 => ((¬ r_3 = (32 : Int32) → Q z) ∧ (r_3 = (32 : Int32) → ∀ x_5 : Int32, x_5 = (z.2.2.2.1 + (1 : Int32)) → K0 (z.1, z.2.1, z.2.2.1, x_5, z.2.2.2.2.1, z.2.2.2.2.2.1, z.2.2.2.2.2.2))))))
theorem zc_X6_skipBlanks : zCalV RX6 yX6_skipBlanks cX6_skipBlanks 1 none 0 := ⟨q_im_X6_skipBlanks, q_se_X6_skipBlanks, q_in_X6, q_cd_X6_skipBlanks, ⟨by decide, by decide, by decide +kernel⟩, rfl⟩
abbrev rm_X6_skipBlanks : Room := { frames := 1, cells := 0, slots := 0, locals := 20 }
def v_X6_skipBlanks (u : zTape) (Q : zTape → Prop) : Prop := ∃ I0 : Nat → zTape → Prop, (∀ (n : Nat) (z : zTape), I0 n z → t_X6_skipBlanks_0 z (fun q0 => ∃ k : Nat, k < n ∧ I0 k q0) Q) ∧ t_X6_skipBlanks_e u (fun q0 => ∃ k : Nat, I0 k q0) Q
set_option maxHeartbeats 4000000 in
set_option maxRecDepth 100000 in
theorem L_X6_skipBlanks (l : Launch) (dC : Nat → ClassId) (dI : Nat → Nat → Nat) (cI cJ cS : ClassId) (a : Nat → Nat) (u : zTape) (Q : zTape → Prop) (I0 : Nat → zTape → Prop) (h0 : ∀ (n : Nat) (z : zTape), I0 n z → t_X6_skipBlanks_0 z (fun q0 => ∃ k : Nat, k < n ∧ I0 k q0) Q) (hf : t_X6_skipBlanks_e u (fun q0 => ∃ k : Nat, I0 k q0) Q) : ∀ sz : Nat, Met l yX6_skipBlanks (Cond.code yX6_skipBlanks cX6_skipBlanks 1 none :: zT) rm_X6_skipBlanks (zPm dC dI cI cJ cS (cl_X6 cI cJ a u) [.ref (a 0)] sz) (va_Qv Q (zB dC dI cI cJ cS (va_A (cl_X6 cI cJ a u) sz) (fun z => cl_X6 cI cJ a z)) (va_A (cl_X6 cI cJ a u) sz)) 0 0 (va_A (cl_X6 cI cJ a u) sz) := by
  intro sz
  refine z_enterM (Qc := fun A => va_Qv Q (zB dC dI cI cJ cS A (fun z => cl_X6 cI cJ a z)) A) (cc := cX6_skipBlanks) (maxL := 1) (ret := none) (by decide) (Nat.le_of_ble_eq_true rfl) ?_
  intro p e s m below meth c ls A X hP hD hS hA hl
  obtain ⟨⟨hx, hb, hml, hown, hts⟩, hr, hlk, hK⟩ := id X
  have hl : lv_has ls 1 [(0, .ref (a 0))] := hl
  have LP : ∀ n : Nat, (∀  (z : zTape) (H : Heap) (locs : List Loc) (ls : Array Slot), I0 n z → va_P (dC, dI) vwCl (cl_X6 cI cJ a z) H → va_D A (cl_X6 cI cJ a z) → va_S A s.heap H locs → lv_has ls 1 [(0, .ref (a 0))] → W p l e rm_X6_skipBlanks s m [.ref (a 0)].toArray below meth c H locs 0 0 (MQ below (va_Qv Q (zB dC dI cI cJ cS A (fun z => cl_X6 cI cJ a z)) A) [.ref (a 0)].toArray s 0 0 A) (F0 m 0 ls [])) := by
    intro n
    induction n using Nat.strongRecOn with
    | _ n ih =>
      intro  z H locs ls hI hP hD hS hl
      have hf := h0 n  z hI
      unfold t_X6_skipBlanks_0 at hf
      refine lv_aload_n hx hb dX6_skipBlanks_0 rfl (lv_at hl 0 rfl) ?_
      refine va_get (D := (dC, dI)) (ci := 5) (v := .int z.2.2.2.1) (C := RX6) (T := TX6) (N := 7) hx hb hts inX6 hown hK hP 0 rfl rfl 3 (by decide) (hts _ q_fl_X6_26) (fun _ h9 => h9) rfl dX6_skipBlanks_1 ?_
      refine lv_aload_n hx hb dX6_skipBlanks_4 rfl (lv_at hl 0 rfl) ?_
      refine va_get (D := (dC, dI)) (ci := 5) (v := .int z.2.2.1) (C := RX6) (T := TX6) (N := 7) hx hb hts inX6 hown hK hP 0 rfl rfl 2 (by decide) (hts _ q_fl_X6_18) (fun _ h9 => h9) rfl dX6_skipBlanks_5 ?_
      refine lv_icmp_ge (tgt := 33) hx hb dX6_skipBlanks_8 (by decide) (fun c_2 => ?_) (fun c_2 => ?_)
      · have hf := hf.1 c_2
        exact z_retMv (Wf := (fun z => cl_X6 cI cJ a z)) (u := z) X hf hP hD hS dX6_skipBlanks_33
      · have hf := hf.2 c_2
        refine lv_aload_n hx hb dX6_skipBlanks_11 rfl (lv_at hl 0 rfl) ?_
        refine z_cVi (As := []) (rest := []) X (c_X6_here l dC dI cI cJ cS a z  _ hf) zc_X6_here q_ml_X6_35 ⟨rfl, rfl⟩ ⟨Nat.le_of_ble_eq_true rfl, Nat.le_of_ble_eq_true rfl⟩ hP [0, 1, 2] rfl 5 rfl rfl hl.1 rfl rfl (Nat.le_of_ble_eq_true rfl) ⟨Nat.zero_le _, Nat.zero_le _⟩ dX6_skipBlanks_12 (fun r_3 hf => ?_)
        refine lv_bipush (v := 32) hx hb dX6_skipBlanks_15 (by decide) ?_
        refine lv_icmp_ne (tgt := 33) hx hb dX6_skipBlanks_17 (by decide) (fun c_4 => ?_) (fun c_4 => ?_)
        · have hf := hf.1 c_4
          exact z_retMv (Wf := (fun z => cl_X6 cI cJ a z)) (u := z) X hf hP hD hS dX6_skipBlanks_33
        · have hf := hf.2 c_4
          refine lv_aload_n hx hb dX6_skipBlanks_20 rfl (lv_at hl 0 rfl) ?_
          refine lv_dup hx hb dX6_skipBlanks_21 rfl ?_
          refine va_get (D := (dC, dI)) (ci := 5) (v := .int z.2.2.2.1) (C := RX6) (T := TX6) (N := 7) hx hb hts inX6 hown hK hP 0 rfl rfl 3 (by decide) (hts _ q_fl_X6_26) (fun _ h9 => h9) rfl dX6_skipBlanks_22 ?_
          refine lv_iconst (v := 1) hx hb dX6_skipBlanks_25 (by decide) ?_
          refine lv_iadd hx hb dX6_skipBlanks_26 ?_
          refine lv_topi (fun x_5 ex_5 => ?_)
          have hf := hf x_5 ex_5
          refine z_put (w' := cl_X6 cI cJ a (z.1, z.2.1, z.2.2.1, x_5, z.2.2.2.2.1, z.2.2.2.2.2.1, z.2.2.2.2.2.2)) (ci := 5) (v := .int x_5) (ty := .int) (Cn := RX6) (T := TX6) (N := 7) X inX6 tyX6 tyX6_ok nmX6 hP hD hS 0 rfl rfl 3 (by decide) (hts _ q_fl_X6_26) (fun _ h9 => h9) rfl (tyX6_ok 3 (by decide)) rfl rfl (Nat.le_of_ble_eq_true rfl) rfl dX6_skipBlanks_27 (fun H locs hP hD hS => ?_)
          refine lv_goto (tgt := 0) hx hb dX6_skipBlanks_30 (by decide) ?_
          obtain ⟨k_6, hk_6, hf⟩ := hf
          exact (ih k_6 hk_6)  (z.1, z.2.1, z.2.2.1, x_5, z.2.2.2.2.1, z.2.2.2.2.2.1, z.2.2.2.2.2.2) _ _ ls hf hP hD hS (lv_sub hl [0] rfl)
  unfold t_X6_skipBlanks_e at hf
  obtain ⟨k_1, hf⟩ := hf
  exact (LP k_1)  u _ _ ls hf hP hD hS (lv_sub hl [0] rfl)
def s_X6_skipBlanks (u : zTape) (Q : zTape → Prop) : Prop := ∃ N p : Nat, tTx u N p ∧ Q (tAt u (nI (pSk u.1 N p)))
theorem st_X6_skipBlanks {u : zTape} {Q : zTape → Prop} (h : s_X6_skipBlanks u Q) : v_X6_skipBlanks u Q := by
  obtain ⟨N, p, ht, hQ⟩ := h
  have hN := ht.1
  refine ⟨fun n z => ∃ k : Nat, k ≤ N ∧ n = N - k ∧ z = tAt u (nI k) ∧ pSk u.1 N p = pSk u.1 N k, ?_, ?_⟩
  · rintro n z ⟨k, hk, rfl, rfl, er⟩
    have stop : ¬ (k < N ∧ isBl u.1 k = true) → pSk u.1 N p = k := fun c => er.trans (pRun_no c)
    refine ⟨fun c => ?_, fun c => here6 (ht.at hk) (fun hl => ⟨fun d => ?_, fun d x ex => ?_⟩) (fun hl => ⟨fun _ => ?_, fun d => absurd d (by decide)⟩)⟩
    · have c : u.2.2.1 ≤ nI k := c
      rw [ht.2.2.1] at c
      have := (nI_leI (by omega) (by omega)).mp c
      rw [stop (fun z => by omega)] at hQ
      exact hQ
    · have d : ¬ u.1 k = 32 := d
      rw [stop (fun z => d (of_decide_eq_true z.2))] at hQ
      exact hQ
    · have d : u.1 k = 32 := d
      refine ⟨N - (k + 1), by omega, k + 1, by omega, rfl, ?_, er.trans (pRun_yes hl (decide_eq_true d))⟩
      have ex : x = nI k + 1 := ex
      rw [ex, nI_1]; rfl
    · rw [stop (fun z => hl z.1)] at hQ
      exact hQ
  · refine ⟨N - p, p, ht.2.1, rfl, ?_, rfl⟩
    show u = tAt u (nI p)
    rw [← ht.2.2.2]; rfl
theorem c_X6_skipBlanks (l : Launch) (dC : Nat → ClassId) (dI : Nat → Nat → Nat) (cI cJ cS : ClassId) (a : Nat → Nat) (u : zTape) (Q : zTape → Prop) (hf : s_X6_skipBlanks u Q) : ∀ sz : Nat, Met l yX6_skipBlanks (Cond.code yX6_skipBlanks cX6_skipBlanks 1 none :: zT) rm_X6_skipBlanks (zPm dC dI cI cJ cS (cl_X6 cI cJ a u) [.ref (a 0)] sz) (va_Qv Q (zB dC dI cI cJ cS (va_A (cl_X6 cI cJ a u) sz) (fun z => cl_X6 cI cJ a z)) (va_A (cl_X6 cI cJ a u) sz)) 0 0 (va_A (cl_X6 cI cJ a u) sz) := by
  obtain ⟨I0, h0, hf⟩ := st_X6_skipBlanks hf
  exact L_X6_skipBlanks l dC dI cI cJ cS a u Q I0 h0 hf

def t_X6_take_e (u : zTape) (x1 : Int32) (K3 : Int32 → zTape → Prop) (Q : zTape → Prop) : Prop := K3 (24 : Int32) u
def t_X6_take_3 (x1 : Int32) (y2 : Int32) (z : zTape) (K3 : Int32 → zTape → Prop) (Q : zTape → Prop) : Prop := ((y2 < 0 → Q z) ∧ (¬ y2 < 0 → s_X6_hasRoom z (1 : Int32) (fun r_3 : Int32 => ((r_3 = 0 → Q z) ∧ (¬ r_3 = 0 → vp_in z.2.2.1 400 ∧ ∀ f_5 : Nat → Int32, f_5 = upd z.1 z.2.2.1.toNatClampNeg (((x1.toUInt32 >>> (y2.toUInt32 &&& Int32.toUInt32 31)).toInt32) &&& (255 : Int32)) → ∀ x_6 : Int32, x_6 = (z.2.2.1 + (1 : Int32)) → ∀ x_7 : Int32, x_7 = y2 + (-8 : Int32) → K3 x_7 (f_5, z.2.1, x_6, z.2.2.2.1, z.2.2.2.2.1, z.2.2.2.2.2.1, z.2.2.2.2.2.2))))))
theorem zc_X6_take : zCalV RX6 yX6_take cX6_take 3 none 1 := ⟨q_im_X6_take, q_se_X6_take, q_in_X6, q_cd_X6_take, ⟨by decide, by decide, by decide +kernel⟩, rfl⟩
abbrev rm_X6_take : Room := { frames := 1, cells := 0, slots := 0, locals := 21 }
def v_X6_take (u : zTape) (x1 : Int32) (Q : zTape → Prop) : Prop := ∃ I3 : Nat → Int32 → zTape → Prop, (∀ (n : Nat) (y2 : Int32) (z : zTape), I3 n y2 z → t_X6_take_3 x1 y2 z (fun q0 q1 => ∃ k : Nat, k < n ∧ I3 k q0 q1) Q) ∧ t_X6_take_e u x1 (fun q0 q1 => ∃ k : Nat, I3 k q0 q1) Q
set_option maxHeartbeats 4000000 in
set_option maxRecDepth 100000 in
theorem L_X6_take (l : Launch) (dC : Nat → ClassId) (dI : Nat → Nat → Nat) (cI cJ cS : ClassId) (a : Nat → Nat) (u : zTape) (x1 : Int32) (Q : zTape → Prop) (I3 : Nat → Int32 → zTape → Prop) (h3 : ∀ (n : Nat) (y2 : Int32) (z : zTape), I3 n y2 z → t_X6_take_3 x1 y2 z (fun q0 q1 => ∃ k : Nat, k < n ∧ I3 k q0 q1) Q) (hf : t_X6_take_e u x1 (fun q0 q1 => ∃ k : Nat, I3 k q0 q1) Q) : ∀ sz : Nat, Met l yX6_take (Cond.code yX6_take cX6_take 3 none :: zT) rm_X6_take (zPm dC dI cI cJ cS (cl_X6 cI cJ a u) [.ref (a 0), .int x1] sz) (va_Qv Q (zB dC dI cI cJ cS (va_A (cl_X6 cI cJ a u) sz) (fun z => cl_X6 cI cJ a z)) (va_A (cl_X6 cI cJ a u) sz)) 0 0 (va_A (cl_X6 cI cJ a u) sz) := by
  intro sz
  refine z_enterM (Qc := fun A => va_Qv Q (zB dC dI cI cJ cS A (fun z => cl_X6 cI cJ a z)) A) (cc := cX6_take) (maxL := 3) (ret := none) (by decide) (Nat.le_of_ble_eq_true rfl) ?_
  intro p e s m below meth c ls A X hP hD hS hA hl
  obtain ⟨⟨hx, hb, hml, hown, hts⟩, hr, hlk, hK⟩ := id X
  have hl : lv_has ls 3 [(0, .ref (a 0)), (1, .int x1)] := hl
  have LP : ∀ n : Nat, (∀ (y2 : Int32) (z : zTape) (H : Heap) (locs : List Loc) (ls : Array Slot), I3 n y2 z → va_P (dC, dI) vwCl (cl_X6 cI cJ a z) H → va_D A (cl_X6 cI cJ a z) → va_S A s.heap H locs → lv_has ls 3 [(0, .ref (a 0)), (1, .int x1), (2, .int y2)] → W p l e rm_X6_take s m [.ref (a 0), .int x1].toArray below meth c H locs 0 0 (MQ below (va_Qv Q (zB dC dI cI cJ cS A (fun z => cl_X6 cI cJ a z)) A) [.ref (a 0), .int x1].toArray s 0 0 A) (F0 m 3 ls [])) := by
    intro n
    induction n using Nat.strongRecOn with
    | _ n ih =>
      intro y2 z H locs ls hI hP hD hS hl
      have hf := h3 n y2 z hI
      unfold t_X6_take_3 at hf
      refine lv_iload_n hx hb dX6_take_3 rfl (lv_at hl 2 rfl) ?_
      refine lv_if_lt (tgt := 47) hx hb dX6_take_4 (by decide) (fun c_2 => ?_) (fun c_2 => ?_)
      · have hf := hf.1 c_2
        exact z_retMv (Wf := (fun z => cl_X6 cI cJ a z)) (u := z) X hf hP hD hS dX6_take_47
      · have hf := hf.2 c_2
        refine lv_aload_n hx hb dX6_take_7 rfl (lv_at hl 0 rfl) ?_
        refine lv_iconst (v := 1) hx hb dX6_take_8 (by decide) ?_
        refine z_cVi (As := [.int (1 : Int32)]) (rest := []) X (c_X6_hasRoom l dC dI cI cJ cS a z (1 : Int32) _ hf) zc_X6_hasRoom q_ml_X6_22 ⟨rfl, rfl⟩ ⟨Nat.le_of_ble_eq_true rfl, Nat.le_of_ble_eq_true rfl⟩ hP [0, 1, 2] rfl 5 rfl rfl hl.1 rfl rfl (Nat.le_of_ble_eq_true rfl) ⟨Nat.zero_le _, Nat.zero_le _⟩ dX6_take_9 (fun r_3 hf => ?_)
        obtain ⟨hbr_3, hf⟩ := hf
        refine lv_if_eq (tgt := 47) hx hb dX6_take_12 (by decide) (fun c_4 => ?_) (fun c_4 => ?_)
        · have hf := hf.1 c_4
          exact z_retMv (Wf := (fun z => cl_X6 cI cJ a z)) (u := z) X hf hP hD hS dX6_take_47
        · have hf := hf.2 c_4
          refine lv_aload_n hx hb dX6_take_15 rfl (lv_at hl 0 rfl) ?_
          refine va_get (D := (dC, dI)) (ci := 5) (v := .ref (a 1)) (C := RX6) (T := TX6) (N := 7) hx hb hts inX6 hown hK hP 0 rfl rfl 0 (by decide) (hts _ q_fl_X6_9) (fun _ h9 => h9) rfl dX6_take_16 ?_
          refine lv_aload_n hx hb dX6_take_19 rfl (lv_at hl 0 rfl) ?_
          refine va_get (D := (dC, dI)) (ci := 5) (v := .int z.2.2.1) (C := RX6) (T := TX6) (N := 7) hx hb hts inX6 hown hK hP 0 rfl rfl 2 (by decide) (hts _ q_fl_X6_18) (fun _ h9 => h9) rfl dX6_take_20 ?_
          refine lv_iload_n hx hb dX6_take_23 rfl (lv_at hl 1 rfl) ?_
          refine lv_iload_n hx hb dX6_take_24 rfl (lv_at hl 2 rfl) ?_
          refine lv_iushr hx hb dX6_take_25 rfl ?_
          refine lv_sipush (v := 255) hx hb dX6_take_26 (by decide) ?_
          refine lv_iand hx hb dX6_take_29 ?_
          obtain ⟨hg, hf⟩ := hf
          refine z_iast (Wn := fun f_5 => cl_X6 cI cJ a (f_5, z.2.1, z.2.2.1, z.2.2.2.1, z.2.2.2.2.1, z.2.2.2.2.2.1, z.2.2.2.2.2.2)) X hP hD hS 1 0 rfl rfl hg (fun _ => rfl) dX6_take_30 (fun f_5 H locs ef_5 hP hD hS => ?_)
          have hf := hf f_5 ef_5
          refine lv_aload_n hx hb dX6_take_31 rfl (lv_at hl 0 rfl) ?_
          refine lv_dup hx hb dX6_take_32 rfl ?_
          refine va_get (D := (dC, dI)) (ci := 5) (v := .int z.2.2.1) (C := RX6) (T := TX6) (N := 7) hx hb hts inX6 hown hK hP 0 rfl rfl 2 (by decide) (hts _ q_fl_X6_18) (fun _ h9 => h9) rfl dX6_take_33 ?_
          refine lv_iconst (v := 1) hx hb dX6_take_36 (by decide) ?_
          refine lv_iadd hx hb dX6_take_37 ?_
          refine lv_topi (fun x_6 ex_6 => ?_)
          have hf := hf x_6 ex_6
          refine z_put (w' := cl_X6 cI cJ a (f_5, z.2.1, x_6, z.2.2.2.1, z.2.2.2.2.1, z.2.2.2.2.2.1, z.2.2.2.2.2.2)) (ci := 5) (v := .int x_6) (ty := .int) (Cn := RX6) (T := TX6) (N := 7) X inX6 tyX6 tyX6_ok nmX6 hP hD hS 0 rfl rfl 2 (by decide) (hts _ q_fl_X6_18) (fun _ h9 => h9) rfl (tyX6_ok 2 (by decide)) rfl rfl (Nat.le_of_ble_eq_true rfl) rfl dX6_take_38 (fun H locs hP hD hS => ?_)
          obtain ⟨x_7, ex_7⟩ : ∃ y : Int32, y = y2 + (-8 : Int32) := ⟨_, rfl⟩
          have hf := hf x_7 ex_7
          refine lv_iinc (v := x_7) (lv' := [(2, .int x_7), (0, .ref (a 0)), (1, .int x1)]) hx hb dX6_take_41 hl (k := 2) rfl (by rw [ex_7]; rfl) (by decide) rfl (fun ls hl => ?_)
          refine lv_goto (tgt := 3) hx hb dX6_take_44 (by decide) ?_
          obtain ⟨k_8, hk_8, hf⟩ := hf
          exact (ih k_8 hk_8) _ (f_5, z.2.1, x_6, z.2.2.2.1, z.2.2.2.2.1, z.2.2.2.2.2.1, z.2.2.2.2.2.2) _ _ ls hf hP hD hS (lv_sub hl [1, 2, 0] rfl)
  unfold t_X6_take_e at hf
  refine lv_bipush (v := 24) hx hb dX6_take_0 (by decide) ?_
  refine lv_istore_n (lv' := [(2, .int (24 : Int32)), (0, .ref (a 0)), (1, .int x1)]) hx hb dX6_take_2 rfl hl (by decide) rfl (fun ls hl => ?_)
  obtain ⟨k_1, hf⟩ := hf
  exact (LP k_1) _ u _ _ ls hf hP hD hS (lv_sub hl [1, 2, 0] rfl)
def tk4 (t : Nat → Int32) (N : Nat) (x : Int32) (i : Nat) : Nat → Int32 := fun j => if N ≤ j ∧ j < N + i then fdB x (j - N) else t j
theorem tk_0 (t : Nat → Int32) (N : Nat) (x : Int32) : tk4 t N x 0 = t := funext fun j => if_neg (fun z => by omega)
theorem tk_up (t : Nat → Int32) (N : Nat) (x : Int32) (i : Nat) : upd (tk4 t N x i) (N + i) (fdB x i) = tk4 t N x (i + 1) := funext fun j => by
  by_cases h : j = N + i
  · subst h
    rw [up_eq rfl]
    unfold tk4
    rw [if_pos ⟨by omega, by omega⟩, Nat.add_sub_cancel_left]
  · rw [up_ne h]
    unfold tk4
    by_cases c : N ≤ j ∧ j < N + i
    · rw [if_pos c, if_pos ⟨c.1, by omega⟩]
    · rw [if_neg c, if_neg (fun z => c ⟨z.1, by omega⟩)]
def tkS (i : Nat) : Int32 := if i < 4 then nI (24 - 8 * (i % 4)) else -8
theorem tkS_ok : ∀ i, i < 4 → ¬ tkS i < 0 ∧ tkS i + (-8) = tkS (i + 1) ∧ tkS i = nI (24 - 8 * (i % 4)) := by decide
def s_X6_take (u : zTape) (x1 : Int32) (Q : zTape → Prop) : Prop := ∃ N : Nat, N + 4 ≤ 400 ∧ u.2.2.1 = nI N ∧ Q (tk4 u.1 N x1 4, u.2.1, nI (N + 4), u.2.2.2.1, u.2.2.2.2.1, u.2.2.2.2.2.1, u.2.2.2.2.2.2)
theorem st_X6_take {u : zTape} {x1 : Int32} {Q : zTape → Prop} (h : s_X6_take u x1 Q) : v_X6_take u x1 Q := by
  obtain ⟨N, hN, eN, hQ⟩ := h
  refine ⟨fun n y2 z => ∃ i : Nat, i ≤ 4 ∧ n = 4 - i ∧ y2 = tkS i ∧ z = (tk4 u.1 N x1 i, u.2.1, nI (N + i), u.2.2.2.1, u.2.2.2.2.1, u.2.2.2.2.2.1, u.2.2.2.2.2.2), ?_, ?_⟩
  · rintro n y2 z ⟨i, hi, rfl, rfl, rfl⟩
    by_cases h4 : i = 4
    · subst h4
      exact ⟨fun _ => hQ, fun c => absurd (show tkS 4 < 0 by decide) c⟩
    · obtain ⟨s1, s2, s3⟩ := tkS_ok i (by omega)
      refine ⟨fun c => absurd c s1, fun _ => ?_⟩
      show ((400 : Int32) < nI (N + i) + 1 → _) ∧ (¬ (400 : Int32) < nI (N + i) + 1 → _)
      rw [nI_1]
      refine ⟨fun c => absurd c (nI_nlt (b := N + i + 1) (a := 400) (by omega) (by decide)), fun _ => ⟨fun q => absurd q (by decide), fun _ => ⟨vp_in_nI (by omega) (by decide), fun f ef x ex y ey => ?_⟩⟩⟩
      have ef : f = upd (tk4 u.1 N x1 i) (nI (N + i)).toNatClampNeg (((x1.toUInt32 >>> ((tkS i).toUInt32 &&& Int32.toUInt32 31)).toInt32) &&& (255 : Int32)) := ef
      have ex : x = nI (N + i + 1) := ex
      rw [nI_clamp (by omega), s3] at ef
      have ef : f = upd (tk4 u.1 N x1 i) (N + i) (fdB x1 i) := ef
      rw [tk_up] at ef
      exact ⟨4 - (i + 1), by omega, i + 1, by omega, rfl, by rw [ey]; exact s2, by rw [ef, ex]; rfl⟩
  · refine ⟨4 - 0, 0, by omega, rfl, rfl, ?_⟩
    show u = _
    rw [tk_0, Nat.add_zero, ← eN]
theorem c_X6_take (l : Launch) (dC : Nat → ClassId) (dI : Nat → Nat → Nat) (cI cJ cS : ClassId) (a : Nat → Nat) (u : zTape) (x1 : Int32) (Q : zTape → Prop) (hf : s_X6_take u x1 Q) : ∀ sz : Nat, Met l yX6_take (Cond.code yX6_take cX6_take 3 none :: zT) rm_X6_take (zPm dC dI cI cJ cS (cl_X6 cI cJ a u) [.ref (a 0), .int x1] sz) (va_Qv Q (zB dC dI cI cJ cS (va_A (cl_X6 cI cJ a u) sz) (fun z => cl_X6 cI cJ a z)) (va_A (cl_X6 cI cJ a u) sz)) 0 0 (va_A (cl_X6 cI cJ a u) sz) := by
  obtain ⟨I3, h3, hf⟩ := st_X6_take hf
  exact L_X6_take l dC dI cI cJ cS a u x1 Q I3 h3 hf
