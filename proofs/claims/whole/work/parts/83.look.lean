def s_X10_lookAtKey (x0 : Int32) (Q : Unit → Prop) (QX : String → Unit → Prop) : Prop := ((x0 < 0 → QX "java/lang/IndexOutOfBoundsException" ()) ∧ (¬ x0 < 0 → ((x0 < (64 : Int32) → Q ()) ∧ (¬ x0 < (64 : Int32) → QX "java/lang/IndexOutOfBoundsException" ()))))
theorem zc_X10_lookAtKey : zCalS yX10_lookAtKey cX10_lookAtKey 1 none 1 := ⟨q_st_X10_lookAtKey, q_in_X10, q_cd_X10_lookAtKey, ⟨by decide, by decide, by decide +kernel⟩⟩
abbrev rm_X10_lookAtKey : Room := { frames := 6, cells := 1, slots := 6, locals := 90 }
set_option maxHeartbeats 4000000 in
set_option maxRecDepth 100000 in
theorem c_X10_lookAtKey (l : Launch) (hlt : l.stackTraces = false) (dC : Nat → ClassId) (dI : Nat → Nat → Nat) (cI cJ cS : ClassId) (x0 : Int32) (Q : Unit → Prop) (QX : String → Unit → Prop) (hf : s_X10_lookAtKey x0 Q QX) : ∀ sz : Nat, vx_Met l yX10_lookAtKey (Cond.code yX10_lookAtKey cX10_lookAtKey 1 none :: zT) rm_X10_lookAtKey (zPmF zFy dC dI cI cJ cS ([]) [.int x0] sz) (va_Qv Q (zB dC dI cI cJ cS (va_A ([]) sz) (fun _ => [])) (va_A ([]) sz)) (zXc QX dC dI cI cJ cS (va_A ([]) sz) (fun _ => [])) 1 6 (va_A ([]) sz) := by
  intro sz
  refine z_enterX (Qc := fun A => va_Qv Q (zB dC dI cI cJ cS A (fun _ => [])) A) (XC := fun A => zXc QX dC dI cI cJ cS A (fun _ => [])) (cc := cX10_lookAtKey) (maxL := 1) (ret := none) (by decide) (Nat.le_of_ble_eq_true rfl) ?_
  intro p e s m below meth c ls A X htb hP hD hS hA hF hl
  obtain ⟨⟨hx, hb, hml, hown, hts⟩, hr, hlk, hK⟩ := id X
  have hl : lv_has ls 1 [(0, .int x0)] := hl
  unfold s_X10_lookAtKey at hf
  refine lv_iload_n hx hb dX10_lookAtKey_0 rfl (lv_at hl 0 rfl) ?_
  refine lv_if_lt (tgt := 10) hx hb dX10_lookAtKey_1 (by decide) (fun c_1 => ?_) (fun c_1 => ?_)
  · have hf := hf.1 c_1
    exact z_thrW (Wf := (fun _ => [])) (u := ()) 2 (by decide) 9 X hlt hF.2.2.2 htb hf hP hD hS hl.1 dX10_lookAtKey_10 dX10_lookAtKey_13 dX10_lookAtKey_14 dX10_lookAtKey_17 dX10_lookAtKey_20 ⟨Nat.le_of_ble_eq_true rfl, Nat.le_of_ble_eq_true rfl⟩ ⟨Nat.le_of_ble_eq_true rfl, Nat.le_of_ble_eq_true rfl⟩ ⟨Nat.le_of_ble_eq_true rfl, Nat.le_of_ble_eq_true rfl⟩
  · have hf := hf.2 c_1
    refine lv_iload_n hx hb dX10_lookAtKey_4 rfl (lv_at hl 0 rfl) ?_
    refine lv_bipush (v := 64) hx hb dX10_lookAtKey_5 (by decide) ?_
    refine lv_icmp_lt (tgt := 21) hx hb dX10_lookAtKey_7 (by decide) (fun c_2 => ?_) (fun c_2 => ?_)
    · have hf := hf.1 c_2
      exact vx_ret (W.widen (k := 1) (n := 6) (Nat.le_of_ble_eq_true rfl) (Nat.le_of_ble_eq_true rfl) (z_retMv (Wf := (fun _ => [])) (u := ()) X hf hP hD hS dX10_lookAtKey_21))
    · have hf := hf.2 c_2
      exact z_thrW (Wf := (fun _ => [])) (u := ()) 2 (by decide) 9 X hlt hF.2.2.2 htb hf hP hD hS hl.1 dX10_lookAtKey_10 dX10_lookAtKey_13 dX10_lookAtKey_14 dX10_lookAtKey_17 dX10_lookAtKey_20 ⟨Nat.le_of_ble_eq_true rfl, Nat.le_of_ble_eq_true rfl⟩ ⟨Nat.le_of_ble_eq_true rfl, Nat.le_of_ble_eq_true rfl⟩ ⟨Nat.le_of_ble_eq_true rfl, Nat.le_of_ble_eq_true rfl⟩

def s_X10_lookAtSegment (x0 : Int32) (Q : Unit → Prop) (QX : String → Unit → Prop) : Prop := ((x0 < 0 → QX "java/lang/IndexOutOfBoundsException" ()) ∧ (¬ x0 < 0 → ((x0 < (12 : Int32) → Q ()) ∧ (¬ x0 < (12 : Int32) → QX "java/lang/IndexOutOfBoundsException" ()))))
theorem zc_X10_lookAtSegment : zCalS yX10_lookAtSegment cX10_lookAtSegment 1 none 1 := ⟨q_st_X10_lookAtSegment, q_in_X10, q_cd_X10_lookAtSegment, ⟨by decide, by decide, by decide +kernel⟩⟩
abbrev rm_X10_lookAtSegment : Room := { frames := 6, cells := 1, slots := 6, locals := 90 }
set_option maxHeartbeats 4000000 in
set_option maxRecDepth 100000 in
theorem c_X10_lookAtSegment (l : Launch) (hlt : l.stackTraces = false) (dC : Nat → ClassId) (dI : Nat → Nat → Nat) (cI cJ cS : ClassId) (x0 : Int32) (Q : Unit → Prop) (QX : String → Unit → Prop) (hf : s_X10_lookAtSegment x0 Q QX) : ∀ sz : Nat, vx_Met l yX10_lookAtSegment (Cond.code yX10_lookAtSegment cX10_lookAtSegment 1 none :: zT) rm_X10_lookAtSegment (zPmF zFy dC dI cI cJ cS ([]) [.int x0] sz) (va_Qv Q (zB dC dI cI cJ cS (va_A ([]) sz) (fun _ => [])) (va_A ([]) sz)) (zXc QX dC dI cI cJ cS (va_A ([]) sz) (fun _ => [])) 1 6 (va_A ([]) sz) := by
  intro sz
  refine z_enterX (Qc := fun A => va_Qv Q (zB dC dI cI cJ cS A (fun _ => [])) A) (XC := fun A => zXc QX dC dI cI cJ cS A (fun _ => [])) (cc := cX10_lookAtSegment) (maxL := 1) (ret := none) (by decide) (Nat.le_of_ble_eq_true rfl) ?_
  intro p e s m below meth c ls A X htb hP hD hS hA hF hl
  obtain ⟨⟨hx, hb, hml, hown, hts⟩, hr, hlk, hK⟩ := id X
  have hl : lv_has ls 1 [(0, .int x0)] := hl
  unfold s_X10_lookAtSegment at hf
  refine lv_iload_n hx hb dX10_lookAtSegment_0 rfl (lv_at hl 0 rfl) ?_
  refine lv_if_lt (tgt := 10) hx hb dX10_lookAtSegment_1 (by decide) (fun c_1 => ?_) (fun c_1 => ?_)
  · have hf := hf.1 c_1
    exact z_thrW (Wf := (fun _ => [])) (u := ()) 2 (by decide) 10 X hlt hF.2.2.2 htb hf hP hD hS hl.1 dX10_lookAtSegment_10 dX10_lookAtSegment_13 dX10_lookAtSegment_14 dX10_lookAtSegment_17 dX10_lookAtSegment_20 ⟨Nat.le_of_ble_eq_true rfl, Nat.le_of_ble_eq_true rfl⟩ ⟨Nat.le_of_ble_eq_true rfl, Nat.le_of_ble_eq_true rfl⟩ ⟨Nat.le_of_ble_eq_true rfl, Nat.le_of_ble_eq_true rfl⟩
  · have hf := hf.2 c_1
    refine lv_iload_n hx hb dX10_lookAtSegment_4 rfl (lv_at hl 0 rfl) ?_
    refine lv_bipush (v := 12) hx hb dX10_lookAtSegment_5 (by decide) ?_
    refine lv_icmp_lt (tgt := 21) hx hb dX10_lookAtSegment_7 (by decide) (fun c_2 => ?_) (fun c_2 => ?_)
    · have hf := hf.1 c_2
      exact vx_ret (W.widen (k := 1) (n := 6) (Nat.le_of_ble_eq_true rfl) (Nat.le_of_ble_eq_true rfl) (z_retMv (Wf := (fun _ => [])) (u := ()) X hf hP hD hS dX10_lookAtSegment_21))
    · have hf := hf.2 c_2
      exact z_thrW (Wf := (fun _ => [])) (u := ()) 2 (by decide) 10 X hlt hF.2.2.2 htb hf hP hD hS hl.1 dX10_lookAtSegment_10 dX10_lookAtSegment_13 dX10_lookAtSegment_14 dX10_lookAtSegment_17 dX10_lookAtSegment_20 ⟨Nat.le_of_ble_eq_true rfl, Nat.le_of_ble_eq_true rfl⟩ ⟨Nat.le_of_ble_eq_true rfl, Nat.le_of_ble_eq_true rfl⟩ ⟨Nat.le_of_ble_eq_true rfl, Nat.le_of_ble_eq_true rfl⟩

def s_X10_lookAtWhat (x0 : Int32) (x1 : Int32) (Q : Unit → Prop) (QX : String → Unit → Prop) : Prop := ((x0 < 0 → QX "java/util/NoSuchElementException" ()) ∧ (¬ x0 < 0 → ((x0 ≤ x1 → Q ()) ∧ (¬ x0 ≤ x1 → QX "java/util/NoSuchElementException" ()))))
theorem zc_X10_lookAtWhat : zCalS yX10_lookAtWhat cX10_lookAtWhat 2 none 2 := ⟨q_st_X10_lookAtWhat, q_in_X10, q_cd_X10_lookAtWhat, ⟨by decide, by decide, by decide +kernel⟩⟩
abbrev rm_X10_lookAtWhat : Room := { frames := 6, cells := 1, slots := 6, locals := 90 }
set_option maxHeartbeats 4000000 in
set_option maxRecDepth 100000 in
theorem c_X10_lookAtWhat (l : Launch) (hlt : l.stackTraces = false) (dC : Nat → ClassId) (dI : Nat → Nat → Nat) (cI cJ cS : ClassId) (x0 : Int32) (x1 : Int32) (Q : Unit → Prop) (QX : String → Unit → Prop) (hf : s_X10_lookAtWhat x0 x1 Q QX) : ∀ sz : Nat, vx_Met l yX10_lookAtWhat (Cond.code yX10_lookAtWhat cX10_lookAtWhat 2 none :: zT) rm_X10_lookAtWhat (zPmF zFy dC dI cI cJ cS ([]) [.int x0, .int x1] sz) (va_Qv Q (zB dC dI cI cJ cS (va_A ([]) sz) (fun _ => [])) (va_A ([]) sz)) (zXc QX dC dI cI cJ cS (va_A ([]) sz) (fun _ => [])) 1 6 (va_A ([]) sz) := by
  intro sz
  refine z_enterX (Qc := fun A => va_Qv Q (zB dC dI cI cJ cS A (fun _ => [])) A) (XC := fun A => zXc QX dC dI cI cJ cS A (fun _ => [])) (cc := cX10_lookAtWhat) (maxL := 2) (ret := none) (by decide) (Nat.le_of_ble_eq_true rfl) ?_
  intro p e s m below meth c ls A X htb hP hD hS hA hF hl
  obtain ⟨⟨hx, hb, hml, hown, hts⟩, hr, hlk, hK⟩ := id X
  have hl : lv_has ls 2 [(0, .int x0), (1, .int x1)] := hl
  unfold s_X10_lookAtWhat at hf
  refine lv_iload_n hx hb dX10_lookAtWhat_0 rfl (lv_at hl 0 rfl) ?_
  refine lv_if_lt (tgt := 9) hx hb dX10_lookAtWhat_1 (by decide) (fun c_1 => ?_) (fun c_1 => ?_)
  · have hf := hf.1 c_1
    exact z_thrN (Wf := (fun _ => [])) (u := ()) 12 X hlt hF.2.2.2 htb hf hP hD hS hl.1 dX10_lookAtWhat_9 dX10_lookAtWhat_12 dX10_lookAtWhat_13 dX10_lookAtWhat_16 dX10_lookAtWhat_19 ⟨Nat.le_of_ble_eq_true rfl, Nat.le_of_ble_eq_true rfl⟩ ⟨Nat.le_of_ble_eq_true rfl, Nat.le_of_ble_eq_true rfl⟩ ⟨Nat.le_of_ble_eq_true rfl, Nat.le_of_ble_eq_true rfl⟩
  · have hf := hf.2 c_1
    refine lv_iload_n hx hb dX10_lookAtWhat_4 rfl (lv_at hl 0 rfl) ?_
    refine lv_iload_n hx hb dX10_lookAtWhat_5 rfl (lv_at hl 1 rfl) ?_
    refine lv_icmp_le (tgt := 20) hx hb dX10_lookAtWhat_6 (by decide) (fun c_2 => ?_) (fun c_2 => ?_)
    · have hf := hf.1 c_2
      exact vx_ret (W.widen (k := 1) (n := 6) (Nat.le_of_ble_eq_true rfl) (Nat.le_of_ble_eq_true rfl) (z_retMv (Wf := (fun _ => [])) (u := ()) X hf hP hD hS dX10_lookAtWhat_20))
    · have hf := hf.2 c_2
      exact z_thrN (Wf := (fun _ => [])) (u := ()) 12 X hlt hF.2.2.2 htb hf hP hD hS hl.1 dX10_lookAtWhat_9 dX10_lookAtWhat_12 dX10_lookAtWhat_13 dX10_lookAtWhat_16 dX10_lookAtWhat_19 ⟨Nat.le_of_ble_eq_true rfl, Nat.le_of_ble_eq_true rfl⟩ ⟨Nat.le_of_ble_eq_true rfl, Nat.le_of_ble_eq_true rfl⟩ ⟨Nat.le_of_ble_eq_true rfl, Nat.le_of_ble_eq_true rfl⟩

def s_X10_lookAtRun (u : zCls) (x1 : Int32) (Q : zCls → Prop) (QX : String → zCls → Prop) : Prop := ((x1 < 0 → QX "java/lang/IndexOutOfBoundsException" u) ∧ (¬ x1 < 0 → ((x1 < u.1.2.2.2.1.2.2 → Q u) ∧ (¬ x1 < u.1.2.2.2.1.2.2 → QX "java/lang/IndexOutOfBoundsException" u))))
theorem zc_X10_lookAtRun : zCalV RX10 yX10_lookAtRun cX10_lookAtRun 2 none 1 := ⟨q_im_X10_lookAtRun, q_se_X10_lookAtRun, q_in_X10, q_cd_X10_lookAtRun, ⟨by decide, by decide, by decide +kernel⟩, rfl⟩
abbrev rm_X10_lookAtRun : Room := { frames := 6, cells := 1, slots := 6, locals := 90 }
set_option maxHeartbeats 4000000 in
set_option maxRecDepth 100000 in
theorem c_X10_lookAtRun (l : Launch) (hlt : l.stackTraces = false) (dC : Nat → ClassId) (dI : Nat → Nat → Nat) (cI cJ cS : ClassId) (a : Nat → Nat) (u : zCls) (x1 : Int32) (Q : zCls → Prop) (QX : String → zCls → Prop) (hf : s_X10_lookAtRun u x1 Q QX) : ∀ sz : Nat, vx_Met l yX10_lookAtRun (Cond.code yX10_lookAtRun cX10_lookAtRun 2 none :: zT) rm_X10_lookAtRun (zPmF zFy dC dI cI cJ cS (cl_X10 cI cJ cS a u) [.ref (a 0), .int x1] sz) (va_Qv Q (zB dC dI cI cJ cS (va_A (cl_X10 cI cJ cS a u) sz) (fun z => cl_X10 cI cJ cS a z)) (va_A (cl_X10 cI cJ cS a u) sz)) (zXc QX dC dI cI cJ cS (va_A (cl_X10 cI cJ cS a u) sz) (fun z => cl_X10 cI cJ cS a z)) 1 6 (va_A (cl_X10 cI cJ cS a u) sz) := by
  intro sz
  refine z_enterX (Qc := fun A => va_Qv Q (zB dC dI cI cJ cS A (fun z => cl_X10 cI cJ cS a z)) A) (XC := fun A => zXc QX dC dI cI cJ cS A (fun z => cl_X10 cI cJ cS a z)) (cc := cX10_lookAtRun) (maxL := 2) (ret := none) (by decide) (Nat.le_of_ble_eq_true rfl) ?_
  intro p e s m below meth c ls A X htb hP hD hS hA hF hl
  obtain ⟨⟨hx, hb, hml, hown, hts⟩, hr, hlk, hK⟩ := id X
  have hl : lv_has ls 2 [(0, .ref (a 0)), (1, .int x1)] := hl
  unfold s_X10_lookAtRun at hf
  refine lv_iload_n hx hb dX10_lookAtRun_0 rfl (lv_at hl 1 rfl) ?_
  refine lv_if_lt (tgt := 18) hx hb dX10_lookAtRun_1 (by decide) (fun c_1 => ?_) (fun c_1 => ?_)
  · have hf := hf.1 c_1
    exact z_thrW (Wf := (fun z => cl_X10 cI cJ cS a z)) (u := u) 2 (by decide) 11 X hlt hF.2.2.2 htb hf hP hD hS hl.1 dX10_lookAtRun_18 dX10_lookAtRun_21 dX10_lookAtRun_22 dX10_lookAtRun_25 dX10_lookAtRun_28 ⟨Nat.le_of_ble_eq_true rfl, Nat.le_of_ble_eq_true rfl⟩ ⟨Nat.le_of_ble_eq_true rfl, Nat.le_of_ble_eq_true rfl⟩ ⟨Nat.le_of_ble_eq_true rfl, Nat.le_of_ble_eq_true rfl⟩
  · have hf := hf.2 c_1
    refine lv_iload_n hx hb dX10_lookAtRun_4 rfl (lv_at hl 1 rfl) ?_
    refine lv_aload_n hx hb dX10_lookAtRun_5 rfl (lv_at hl 0 rfl) ?_
    refine va_get (D := (dC, dI)) (ci := 9) (v := .ref (a 1)) (C := RX10) (T := TX10) (N := 9) hx hb hts inX10 hown hK hP 0 rfl rfl 0 (by decide) (hts _ q_fl_X10_10) (fun _ h9 => h9) rfl dX10_lookAtRun_6 ?_
    refine va_get (D := (dC, dI)) (ci := 4) (v := .ref (a 9)) (C := RX5) (T := TX5) (N := 9) hx hb hts inX5 hown hK hP 1 rfl rfl 3 (by decide) (hts _ q_fl_X10_148) (fun _ h9 => h9) rfl dX10_lookAtRun_9 ?_
    refine va_get (D := (dC, dI)) (ci := 8) (v := .int u.1.2.2.2.1.2.2) (C := RX9) (T := TX9) (N := 3) hx hb hts inX9 hown hK hP 9 rfl rfl 2 (by decide) (hts _ q_fl_X10_356) (fun _ h9 => h9) rfl dX10_lookAtRun_12 ?_
    refine lv_icmp_lt (tgt := 29) hx hb dX10_lookAtRun_15 (by decide) (fun c_2 => ?_) (fun c_2 => ?_)
    · have hf := hf.1 c_2
      exact vx_ret (W.widen (k := 1) (n := 6) (Nat.le_of_ble_eq_true rfl) (Nat.le_of_ble_eq_true rfl) (z_retMv (Wf := (fun z => cl_X10 cI cJ cS a z)) (u := u) X hf hP hD hS dX10_lookAtRun_29))
    · have hf := hf.2 c_2
      exact z_thrW (Wf := (fun z => cl_X10 cI cJ cS a z)) (u := u) 2 (by decide) 11 X hlt hF.2.2.2 htb hf hP hD hS hl.1 dX10_lookAtRun_18 dX10_lookAtRun_21 dX10_lookAtRun_22 dX10_lookAtRun_25 dX10_lookAtRun_28 ⟨Nat.le_of_ble_eq_true rfl, Nat.le_of_ble_eq_true rfl⟩ ⟨Nat.le_of_ble_eq_true rfl, Nat.le_of_ble_eq_true rfl⟩ ⟨Nat.le_of_ble_eq_true rfl, Nat.le_of_ble_eq_true rfl⟩

def s_X10_getReady (u : zCls) (Q : zCls → Prop) : Prop := s_X3_remember u.2.2.2.2.1 u.1 (fun (u_2 : zMem × zState) => Q (u_2.2, u.2.1, u.2.2.1, u.2.2.2.1, u_2.1, u.2.2.2.2.2.1, u.2.2.2.2.2.2.1, u.2.2.2.2.2.2.2.1, (0 : Int32)))
theorem zc_X10_getReady : zCalV RX10 yX10_getReady cX10_getReady 1 none 0 := ⟨q_im_X10_getReady, q_se_X10_getReady, q_in_X10, q_cd_X10_getReady, ⟨by decide, by decide, by decide +kernel⟩, rfl⟩
abbrev rm_X10_getReady : Room := { frames := 4, cells := 0, slots := 0, locals := 112 }
set_option maxHeartbeats 4000000 in
set_option maxRecDepth 100000 in
theorem c_X10_getReady (l : Launch) (dC : Nat → ClassId) (dI : Nat → Nat → Nat) (cI cJ cS : ClassId) (a : Nat → Nat) (u : zCls) (Q : zCls → Prop) (hf : s_X10_getReady u Q) : ∀ sz : Nat, Met l yX10_getReady (Cond.code yX10_getReady cX10_getReady 1 none :: zT) rm_X10_getReady (zPm dC dI cI cJ cS (cl_X10 cI cJ cS a u) [.ref (a 0)] sz) (va_Qv Q (zB dC dI cI cJ cS (va_A (cl_X10 cI cJ cS a u) sz) (fun z => cl_X10 cI cJ cS a z)) (va_A (cl_X10 cI cJ cS a u) sz)) 0 0 (va_A (cl_X10 cI cJ cS a u) sz) := by
  intro sz
  refine z_enterM (Qc := fun A => va_Qv Q (zB dC dI cI cJ cS A (fun z => cl_X10 cI cJ cS a z)) A) (cc := cX10_getReady) (maxL := 1) (ret := none) (by decide) (Nat.le_of_ble_eq_true rfl) ?_
  intro p e s m below meth c ls A X hP hD hS hA hl
  obtain ⟨⟨hx, hb, hml, hown, hts⟩, hr, hlk, hK⟩ := id X
  have hl : lv_has ls 1 [(0, .ref (a 0))] := hl
  unfold s_X10_getReady at hf
  refine lv_aload_n hx hb dX10_getReady_0 rfl (lv_at hl 0 rfl) ?_
  refine lv_iconst (v := 0) hx hb dX10_getReady_1 (by decide) ?_
  refine z_put (w' := cl_X10 cI cJ cS a (u.1, u.2.1, u.2.2.1, u.2.2.2.1, u.2.2.2.2.1, u.2.2.2.2.2.1, u.2.2.2.2.2.2.1, u.2.2.2.2.2.2.2.1, (0 : Int32))) (ci := 9) (v := .int (0 : Int32)) (ty := .int) (Cn := RX10) (T := TX10) (N := 9) X inX10 tyX10 tyX10_ok nmX10 hP hD hS 0 rfl rfl 8 (by decide) (hts _ q_fl_X10_86) (fun _ h9 => h9) rfl (tyX10_ok 8 (by decide)) rfl rfl (Nat.le_of_ble_eq_true rfl) rfl dX10_getReady_2 (fun H locs hP hD hS => ?_)
  refine lv_aload_n hx hb dX10_getReady_5 rfl (lv_at hl 0 rfl) ?_
  refine va_get (D := (dC, dI)) (ci := 9) (v := .ref (a 50)) (C := RX10) (T := TX10) (N := 9) hx hb hts inX10 hown hK hP 0 rfl rfl 4 (by decide) (hts _ q_fl_X10_25) (fun _ h9 => h9) rfl dX10_getReady_6 ?_
  refine lv_aload_n hx hb dX10_getReady_9 rfl (lv_at hl 0 rfl) ?_
  refine va_get (D := (dC, dI)) (ci := 9) (v := .ref (a 1)) (C := RX10) (T := TX10) (N := 9) hx hb hts inX10 hown hK hP 0 rfl rfl 0 (by decide) (hts _ q_fl_X10_10) (fun _ h9 => h9) rfl dX10_getReady_10 ?_
  refine z_pVv (Wn := (fun u_2 => cl_X10 cI cJ cS a (u_2.2, u.2.1, u.2.2.1, u.2.2.2.1, u_2.1, u.2.2.2.2.2.1, u.2.2.2.2.2.2.1, u.2.2.2.2.2.2.2.1, (0 : Int32)))) (As := [.ref (a 1)]) (rest := []) (wr := rr_X10_mn cI cJ cS a (u.1, u.2.1, u.2.2.1, u.2.2.2.1, u.2.2.2.2.1, u.2.2.2.2.2.1, u.2.2.2.2.2.2.1, u.2.2.2.2.2.2.2.1, (0 : Int32))) X (c_X3_remember l dC dI cI cJ cS (fun i => a (50 + i)) (fun i => a (1 + i)) u.2.2.2.2.1 u.1  _ hf _) zc_X3_remember q_ml_X10_133 ⟨rfl, rfl⟩ ⟨Nat.le_of_ble_eq_true rfl, Nat.le_of_ble_eq_true rfl⟩ hP hD hS hA (pm_X10_mn cI cJ cS a (u.1, u.2.1, u.2.2.1, u.2.2.2.1, u.2.2.2.2.1, u.2.2.2.2.2.1, u.2.2.2.2.2.2.1, u.2.2.2.2.2.2.2.1, (0 : Int32))) (fun u_2 => pm_X10_mn cI cJ cS a (u_2.2, u.2.1, u.2.2.1, u.2.2.2.1, u_2.1, u.2.2.2.2.2.1, u.2.2.2.2.2.2.1, u.2.2.2.2.2.2.2.1, (0 : Int32))) 2 rfl rfl hl.1 rfl rfl (Nat.le_of_ble_eq_true rfl) ⟨Nat.zero_le _, Nat.zero_le _⟩ dX10_getReady_13 (fun u_2 H locs hf hP hD hS => ?_)
  exact z_retMv (Wf := (fun z => cl_X10 cI cJ cS a z)) (u := (u_2.2, u.2.1, u.2.2.1, u.2.2.2.1, u_2.1, u.2.2.2.2.2.1, u.2.2.2.2.2.2.1, u.2.2.2.2.2.2.2.1, (0 : Int32))) X hf hP hD hS dX10_getReady_16

def s_X10_lookAtRefusal (u : zCls) (x1 : Int32) (Q : zCls → Prop) (QX : String → zCls → Prop) : Prop := ((x1 = 0 → s_X10_getReady u (fun (u_3 : zCls) => Q u_3)) ∧ (¬ x1 = 0 → QX "java/lang/IllegalStateException" (u.1, u.2.1, u.2.2.1, u.2.2.2.1, u.2.2.2.2.1, u.2.2.2.2.2.1, u.2.2.2.2.2.2.1, u.2.2.2.2.2.2.2.1, x1)))
theorem zc_X10_lookAtRefusal : zCalV RX10 yX10_lookAtRefusal cX10_lookAtRefusal 2 none 1 := ⟨q_im_X10_lookAtRefusal, q_se_X10_lookAtRefusal, q_in_X10, q_cd_X10_lookAtRefusal, ⟨by decide, by decide, by decide +kernel⟩, rfl⟩
abbrev rm_X10_lookAtRefusal : Room := { frames := 6, cells := 1, slots := 6, locals := 132 }
set_option maxHeartbeats 4000000 in
set_option maxRecDepth 100000 in
theorem c_X10_lookAtRefusal (l : Launch) (hlt : l.stackTraces = false) (dC : Nat → ClassId) (dI : Nat → Nat → Nat) (cI cJ cS : ClassId) (a : Nat → Nat) (u : zCls) (x1 : Int32) (Q : zCls → Prop) (QX : String → zCls → Prop) (hf : s_X10_lookAtRefusal u x1 Q QX) : ∀ sz : Nat, vx_Met l yX10_lookAtRefusal (Cond.code yX10_lookAtRefusal cX10_lookAtRefusal 2 none :: zT) rm_X10_lookAtRefusal (zPmF zFy dC dI cI cJ cS (cl_X10 cI cJ cS a u) [.ref (a 0), .int x1] sz) (va_Qv Q (zB dC dI cI cJ cS (va_A (cl_X10 cI cJ cS a u) sz) (fun z => cl_X10 cI cJ cS a z)) (va_A (cl_X10 cI cJ cS a u) sz)) (zXc QX dC dI cI cJ cS (va_A (cl_X10 cI cJ cS a u) sz) (fun z => cl_X10 cI cJ cS a z)) 1 6 (va_A (cl_X10 cI cJ cS a u) sz) := by
  intro sz
  refine z_enterX (Qc := fun A => va_Qv Q (zB dC dI cI cJ cS A (fun z => cl_X10 cI cJ cS a z)) A) (XC := fun A => zXc QX dC dI cI cJ cS A (fun z => cl_X10 cI cJ cS a z)) (cc := cX10_lookAtRefusal) (maxL := 2) (ret := none) (by decide) (Nat.le_of_ble_eq_true rfl) ?_
  intro p e s m below meth c ls A X htb hP hD hS hA hF hl
  obtain ⟨⟨hx, hb, hml, hown, hts⟩, hr, hlk, hK⟩ := id X
  have hl : lv_has ls 2 [(0, .ref (a 0)), (1, .int x1)] := hl
  unfold s_X10_lookAtRefusal at hf
  refine lv_iload_n hx hb dX10_lookAtRefusal_0 rfl (lv_at hl 1 rfl) ?_
  refine lv_if_eq (tgt := 19) hx hb dX10_lookAtRefusal_1 (by decide) (fun c_1 => ?_) (fun c_1 => ?_)
  · have hf := hf.1 c_1
    refine lv_aload_n hx hb dX10_lookAtRefusal_19 rfl (lv_at hl 0 rfl) ?_
    refine z_pVv (Wn := (fun u_3 => cl_X10 cI cJ cS a u_3)) (As := []) (rest := []) (wr := []) X (c_X10_getReady l dC dI cI cJ cS a u  _ hf _) zc_X10_getReady q_ml_X10_113 ⟨rfl, rfl⟩ ⟨Nat.le_of_ble_eq_true rfl, Nat.le_of_ble_eq_true rfl⟩ hP hD hS hA (List.Perm.refl _) (fun _ => List.Perm.refl _) 9 rfl rfl hl.1 rfl rfl (Nat.le_of_ble_eq_true rfl) ⟨Nat.le_of_ble_eq_true rfl, Nat.le_of_ble_eq_true rfl⟩ dX10_lookAtRefusal_20 (fun u_3 H locs hf hP hD hS => ?_)
    exact vx_ret (W.widen (k := 1) (n := 6) (Nat.le_of_ble_eq_true rfl) (Nat.le_of_ble_eq_true rfl) (z_retMv (Wf := (fun z => cl_X10 cI cJ cS a z)) (u := u_3) X hf hP hD hS dX10_lookAtRefusal_23))
  · have hf := hf.2 c_1
    refine lv_aload_n hx hb dX10_lookAtRefusal_4 rfl (lv_at hl 0 rfl) ?_
    refine lv_iload_n hx hb dX10_lookAtRefusal_5 rfl (lv_at hl 1 rfl) ?_
    refine z_put (w' := cl_X10 cI cJ cS a (u.1, u.2.1, u.2.2.1, u.2.2.2.1, u.2.2.2.2.1, u.2.2.2.2.2.1, u.2.2.2.2.2.2.1, u.2.2.2.2.2.2.2.1, x1)) (ci := 9) (v := .int x1) (ty := .int) (Cn := RX10) (T := TX10) (N := 9) X inX10 tyX10 tyX10_ok nmX10 hP hD hS 0 rfl rfl 8 (by decide) (hts _ q_fl_X10_86) (fun _ h9 => h9) rfl (tyX10_ok 8 (by decide)) rfl rfl (Nat.le_of_ble_eq_true rfl) rfl dX10_lookAtRefusal_6 (fun H locs hP hD hS => ?_)
    exact z_thrS (Wf := (fun z => cl_X10 cI cJ cS a z)) (u := (u.1, u.2.1, u.2.2.1, u.2.2.2.1, u.2.2.2.2.1, u.2.2.2.2.2.1, u.2.2.2.2.2.2.1, u.2.2.2.2.2.2.2.1, x1)) 1 (by decide) 5 X hlt hF.2.2.2 htb hf hP hD hS hl.1 dX10_lookAtRefusal_9 dX10_lookAtRefusal_12 dX10_lookAtRefusal_13 dX10_lookAtRefusal_15 dX10_lookAtRefusal_18 ⟨Nat.le_of_ble_eq_true rfl, Nat.le_of_ble_eq_true rfl⟩ ⟨Nat.le_of_ble_eq_true rfl, Nat.le_of_ble_eq_true rfl⟩ ⟨Nat.le_of_ble_eq_true rfl, Nat.le_of_ble_eq_true rfl⟩

def s_X10_lengthOn (u : zState) (x1 : Int32) (Q : Int32 → Prop) : Prop := s_X5_hasValue u x1 (fun r_1 : Int32 => ((r_1 = 0 → Q (-1 : Int32)) ∧ (¬ r_1 = 0 → s_X9_currentOf u.2.2.2.1 x1 (fun r_3 : Int64 => s_X0_lengthOf r_3 (fun r_4 : Int32 => Q r_4)))))
theorem zc_X10_lengthOn : zCalS yX10_lengthOn cX10_lengthOn 2 (some .int) 2 := ⟨q_st_X10_lengthOn, q_in_X10, q_cd_X10_lengthOn, ⟨by decide, by decide, by decide +kernel⟩⟩
abbrev rm_X10_lengthOn : Room := { frames := 3, cells := 0, slots := 0, locals := 65 }
set_option maxHeartbeats 4000000 in
set_option maxRecDepth 100000 in
theorem c_X10_lengthOn (l : Launch) (dC : Nat → ClassId) (dI : Nat → Nat → Nat) (cI cJ cS : ClassId) (a : Nat → Nat) (u : zState) (x1 : Int32) (Q : Int32 → Prop) (hf : s_X10_lengthOn u x1 Q) : Met l yX10_lengthOn (Cond.code yX10_lengthOn cX10_lengthOn 2 (some .int) :: zT) rm_X10_lengthOn (zPp dC dI cI cJ cS (cl_X5 cI cJ a u) [.ref (a 0), .int x1]) (vp_Si Q) 0 0 (fun _ => False) := by
  refine z_enterP (cc := cX10_lengthOn) (maxL := 2) (ret := (some .int)) (by decide) (Nat.le_of_ble_eq_true rfl) ?_
  intro p e s m below meth c ls X hP hl
  obtain ⟨⟨hx, hb, hml, hown, hts⟩, hr, hlk, hK⟩ := id X
  have hl : lv_has ls 2 [(0, .ref (a 0)), (1, .int x1)] := hl
  unfold s_X10_lengthOn at hf
  refine lv_aload_n hx hb dX10_lengthOn_0 rfl (lv_at hl 0 rfl) ?_
  refine lv_iload_n hx hb dX10_lengthOn_1 rfl (lv_at hl 1 rfl) ?_
  refine z_cVi (As := [.int x1]) (rest := []) X (c_X5_hasValue l dC dI cI cJ cS a u x1 _ hf) zc_X5_hasValue q_ml_X10_166 ⟨rfl, rfl⟩ ⟨Nat.le_of_ble_eq_true rfl, Nat.le_of_ble_eq_true rfl⟩ hP [0, 1, 2, 3, 4, 5, 6, 7, 8, 9, 10, 11, 12, 13, 14] rfl 4 rfl rfl hl.1 rfl rfl (Nat.le_of_ble_eq_true rfl) ⟨Nat.zero_le _, Nat.zero_le _⟩ dX10_lengthOn_2 (fun r_1 hf => ?_)
  obtain ⟨hbr_1, hf⟩ := hf
  refine lv_if_eq (tgt := 22) hx hb dX10_lengthOn_5 (by decide) (fun c_2 => ?_) (fun c_2 => ?_)
  · have hf := hf.1 c_2
    refine lv_iconst (v := (-1)) hx hb dX10_lengthOn_22 (by decide) ?_
    exact z_retPi X hf dX10_lengthOn_23
  · have hf := hf.2 c_2
    refine lv_aload_n hx hb dX10_lengthOn_8 rfl (lv_at hl 0 rfl) ?_
    refine va_get (D := (dC, dI)) (ci := 4) (v := .ref (a 8)) (C := RX5) (T := TX5) (N := 9) hx hb hts inX5 hown hK hP 0 rfl rfl 3 (by decide) (hts _ q_fl_X10_148) (fun _ h9 => h9) rfl dX10_lengthOn_9 ?_
    refine lv_iload_n hx hb dX10_lengthOn_12 rfl (lv_at hl 1 rfl) ?_
    refine z_cVl (As := [.int x1]) (rest := []) X (c_X9_currentOf l dC dI cI cJ cS (fun i => a (8 + i)) u.2.2.2.1 x1 _ hf) zc_X9_currentOf q_ml_X10_152 ⟨rfl, rfl⟩ ⟨Nat.le_of_ble_eq_true rfl, Nat.le_of_ble_eq_true rfl⟩ hP [8, 9, 10] rfl 8 rfl rfl hl.1 rfl rfl (Nat.le_of_ble_eq_true rfl) ⟨Nat.zero_le _, Nat.zero_le _⟩ dX10_lengthOn_13 (fun r_3 hf => ?_)
    refine z_cSi (As := [.long r_3]) (rest := []) X (c_X0_lengthOf l dC dI cI cJ cS   r_3 _ hf) zc_X0_lengthOf q_ml_X10_192 ⟨rfl, rfl⟩ ⟨Nat.le_of_ble_eq_true rfl, Nat.le_of_ble_eq_true rfl⟩ hP [] rfl hl.1 rfl rfl (Nat.le_of_ble_eq_true rfl) ⟨Nat.zero_le _, Nat.zero_le _⟩ dX10_lengthOn_16 (fun r_4 hf => ?_)
    refine lv_goto (tgt := 23) hx hb dX10_lengthOn_19 (by decide) ?_
    exact z_retPi X hf dX10_lengthOn_23

def s_X10_fault (u : zCls) (Q : Int32 → Prop) : Prop := Q u.2.2.2.2.2.2.2.1
theorem zc_X10_fault : zCalV RX10 yX10_fault cX10_fault 1 (some .int) 0 := ⟨q_im_X10_fault, q_se_X10_fault, q_in_X10, q_cd_X10_fault, ⟨by decide, by decide, by decide +kernel⟩, rfl⟩
abbrev rm_X10_fault : Room := { frames := 0, cells := 0, slots := 0, locals := 0 }
set_option maxHeartbeats 4000000 in
set_option maxRecDepth 100000 in
theorem c_X10_fault (l : Launch) (dC : Nat → ClassId) (dI : Nat → Nat → Nat) (cI cJ cS : ClassId) (a : Nat → Nat) (u : zCls) (Q : Int32 → Prop) (hf : s_X10_fault u Q) : Met l yX10_fault (Cond.code yX10_fault cX10_fault 1 (some .int) :: zT) rm_X10_fault (zPp dC dI cI cJ cS (cl_X10 cI cJ cS a u) [.ref (a 0)]) (vp_Si Q) 0 0 (fun _ => False) := by
  refine z_enterP (cc := cX10_fault) (maxL := 1) (ret := (some .int)) (by decide) (Nat.le_of_ble_eq_true rfl) ?_
  intro p e s m below meth c ls X hP hl
  obtain ⟨⟨hx, hb, hml, hown, hts⟩, hr, hlk, hK⟩ := id X
  have hl : lv_has ls 1 [(0, .ref (a 0))] := hl
  unfold s_X10_fault at hf
  refine lv_aload_n hx hb dX10_fault_0 rfl (lv_at hl 0 rfl) ?_
  refine va_get (D := (dC, dI)) (ci := 9) (v := .int u.2.2.2.2.2.2.2.1) (C := RX10) (T := TX10) (N := 9) hx hb hts inX10 hown hK hP 0 rfl rfl 7 (by decide) (hts _ q_fl_X10_40) (fun _ h9 => h9) rfl dX10_fault_1 ?_
  exact z_retPi X hf dX10_fault_4

def s_X10_why (u : zCls) (Q : Int32 → Prop) : Prop := Q u.2.2.2.2.2.2.2.2
theorem zc_X10_why : zCalV RX10 yX10_why cX10_why 1 (some .int) 0 := ⟨q_im_X10_why, q_se_X10_why, q_in_X10, q_cd_X10_why, ⟨by decide, by decide, by decide +kernel⟩, rfl⟩
abbrev rm_X10_why : Room := { frames := 0, cells := 0, slots := 0, locals := 0 }
set_option maxHeartbeats 4000000 in
set_option maxRecDepth 100000 in
theorem c_X10_why (l : Launch) (dC : Nat → ClassId) (dI : Nat → Nat → Nat) (cI cJ cS : ClassId) (a : Nat → Nat) (u : zCls) (Q : Int32 → Prop) (hf : s_X10_why u Q) : Met l yX10_why (Cond.code yX10_why cX10_why 1 (some .int) :: zT) rm_X10_why (zPp dC dI cI cJ cS (cl_X10 cI cJ cS a u) [.ref (a 0)]) (vp_Si Q) 0 0 (fun _ => False) := by
  refine z_enterP (cc := cX10_why) (maxL := 1) (ret := (some .int)) (by decide) (Nat.le_of_ble_eq_true rfl) ?_
  intro p e s m below meth c ls X hP hl
  obtain ⟨⟨hx, hb, hml, hown, hts⟩, hr, hlk, hK⟩ := id X
  have hl : lv_has ls 1 [(0, .ref (a 0))] := hl
  unfold s_X10_why at hf
  refine lv_aload_n hx hb dX10_why_0 rfl (lv_at hl 0 rfl) ?_
  refine va_get (D := (dC, dI)) (ci := 9) (v := .int u.2.2.2.2.2.2.2.2) (C := RX10) (T := TX10) (N := 9) hx hb hts inX10 hown hK hP 0 rfl rfl 8 (by decide) (hts _ q_fl_X10_86) (fun _ h9 => h9) rfl dX10_why_1 ?_
  exact z_retPi X hf dX10_why_4

def s_X10_image (u : zCls) (Q : zCls → Prop) : Prop := s_X5_copyFrom u.2.2.1 u.1 (fun (u_2 : zState × zState) => Q (u_2.2, u.2.1, u_2.1, (1 : Int32), u.2.2.2.2))
theorem zc_X10_image : zCalV RX10 yX10_image cX10_image 1 none 0 := ⟨q_im_X10_image, q_se_X10_image, q_in_X10, q_cd_X10_image, ⟨by decide, by decide, by decide +kernel⟩, rfl⟩
abbrev rm_X10_image : Room := { frames := 3, cells := 0, slots := 0, locals := 90 }
set_option maxHeartbeats 4000000 in
set_option maxRecDepth 100000 in
theorem c_X10_image (l : Launch) (dC : Nat → ClassId) (dI : Nat → Nat → Nat) (cI cJ cS : ClassId) (a : Nat → Nat) (u : zCls) (Q : zCls → Prop) (hf : s_X10_image u Q) : ∀ sz : Nat, Met l yX10_image (Cond.code yX10_image cX10_image 1 none :: zT) rm_X10_image (zPm dC dI cI cJ cS (cl_X10 cI cJ cS a u) [.ref (a 0)] sz) (va_Qv Q (zB dC dI cI cJ cS (va_A (cl_X10 cI cJ cS a u) sz) (fun z => cl_X10 cI cJ cS a z)) (va_A (cl_X10 cI cJ cS a u) sz)) 0 0 (va_A (cl_X10 cI cJ cS a u) sz) := by
  intro sz
  refine z_enterM (Qc := fun A => va_Qv Q (zB dC dI cI cJ cS A (fun z => cl_X10 cI cJ cS a z)) A) (cc := cX10_image) (maxL := 1) (ret := none) (by decide) (Nat.le_of_ble_eq_true rfl) ?_
  intro p e s m below meth c ls A X hP hD hS hA hl
  obtain ⟨⟨hx, hb, hml, hown, hts⟩, hr, hlk, hK⟩ := id X
  have hl : lv_has ls 1 [(0, .ref (a 0))] := hl
  unfold s_X10_image at hf
  refine lv_aload_n hx hb dX10_image_0 rfl (lv_at hl 0 rfl) ?_
  refine va_get (D := (dC, dI)) (ci := 9) (v := .ref (a 31)) (C := RX10) (T := TX10) (N := 9) hx hb hts inX10 hown hK hP 0 rfl rfl 2 (by decide) (hts _ q_fl_X10_19) (fun _ h9 => h9) rfl dX10_image_1 ?_
  refine lv_aload_n hx hb dX10_image_4 rfl (lv_at hl 0 rfl) ?_
  refine va_get (D := (dC, dI)) (ci := 9) (v := .ref (a 1)) (C := RX10) (T := TX10) (N := 9) hx hb hts inX10 hown hK hP 0 rfl rfl 0 (by decide) (hts _ q_fl_X10_10) (fun _ h9 => h9) rfl dX10_image_5 ?_
  refine z_pVv (Wn := (fun u_2 => cl_X10 cI cJ cS a (u_2.2, u.2.1, u_2.1, u.2.2.2))) (As := [.ref (a 1)]) (rest := []) (wr := rr_X10_kn cI cJ cS a u) X (c_X5_copyFrom l dC dI cI cJ cS (fun i => a (31 + i)) (fun i => a (1 + i)) u.2.2.1 u.1  _ hf _) zc_X5_copyFrom q_ml_X10_55 ⟨rfl, rfl⟩ ⟨Nat.le_of_ble_eq_true rfl, Nat.le_of_ble_eq_true rfl⟩ hP hD hS hA (pm_X10_kn cI cJ cS a u) (fun u_2 => pm_X10_kn cI cJ cS a (u_2.2, u.2.1, u_2.1, u.2.2.2)) 4 rfl rfl hl.1 rfl rfl (Nat.le_of_ble_eq_true rfl) ⟨Nat.zero_le _, Nat.zero_le _⟩ dX10_image_8 (fun u_2 H locs hf hP hD hS => ?_)
  refine lv_aload_n hx hb dX10_image_11 rfl (lv_at hl 0 rfl) ?_
  refine lv_iconst (v := 1) hx hb dX10_image_12 (by decide) ?_
  refine z_put (w' := cl_X10 cI cJ cS a (u_2.2, u.2.1, u_2.1, (1 : Int32), u.2.2.2.2)) (ci := 9) (v := .int (1 : Int32)) (ty := .boolean) (Cn := RX10) (T := TX10) (N := 9) X inX10 tyX10 tyX10_ok nmX10 hP hD hS 0 rfl rfl 3 (by decide) (hts _ q_fl_X10_325) (fun _ h9 => h9) rfl (tyX10_ok 3 (by decide)) rfl rfl (Nat.le_of_ble_eq_true rfl) rfl dX10_image_13 (fun H locs hP hD hS => ?_)
  exact z_retMv (Wf := (fun z => cl_X10 cI cJ cS a z)) (u := (u_2.2, u.2.1, u_2.1, (1 : Int32), u.2.2.2.2)) X hf hP hD hS dX10_image_16

def s_X10_end (u : zCls) (x1 : Int32) (Q : Int32 → zCls → Prop) : Prop := ((x1 < 0 → Q (0 : Int32) u) ∧ (¬ x1 < 0 → ((x1 ≤ u.2.2.2.2.2.1.2.2.1 → Q (1 : Int32) (u.1, u.2.1, u.2.2.1, u.2.2.2.1, u.2.2.2.2.1, (u.2.2.2.2.2.1.1, u.2.2.2.2.2.1.2.1, x1, u.2.2.2.2.2.1.2.2.2.1, u.2.2.2.2.2.1.2.2.2.2.1, u.2.2.2.2.2.1.2.2.2.2.2.1, u.2.2.2.2.2.1.2.2.2.2.2.2), u.2.2.2.2.2.2)) ∧ (¬ x1 ≤ u.2.2.2.2.2.1.2.2.1 → Q (0 : Int32) u))))
theorem zc_X10_end : zCalV RX10 yX10_end cX10_end 2 (some .boolean) 1 := ⟨q_im_X10_end, q_se_X10_end, q_in_X10, q_cd_X10_end, ⟨by decide, by decide, by decide +kernel⟩, rfl⟩
abbrev rm_X10_end : Room := { frames := 0, cells := 0, slots := 0, locals := 0 }
set_option maxHeartbeats 4000000 in
set_option maxRecDepth 100000 in
theorem c_X10_end (l : Launch) (dC : Nat → ClassId) (dI : Nat → Nat → Nat) (cI cJ cS : ClassId) (a : Nat → Nat) (u : zCls) (x1 : Int32) (Q : Int32 → zCls → Prop) (hf : s_X10_end u x1 Q) : ∀ sz : Nat, Met l yX10_end (Cond.code yX10_end cX10_end 2 (some .boolean) :: zT) rm_X10_end (zPm dC dI cI cJ cS (cl_X10 cI cJ cS a u) [.ref (a 0), .int x1] sz) (va_Qi (fun r u => (r = 0 ∨ r = 1) ∧ Q r u) (zB dC dI cI cJ cS (va_A (cl_X10 cI cJ cS a u) sz) (fun z => cl_X10 cI cJ cS a z)) (va_A (cl_X10 cI cJ cS a u) sz)) 0 0 (va_A (cl_X10 cI cJ cS a u) sz) := by
  intro sz
  refine z_enterM (Qc := fun A => va_Qi (fun r u => (r = 0 ∨ r = 1) ∧ Q r u) (zB dC dI cI cJ cS A (fun z => cl_X10 cI cJ cS a z)) A) (cc := cX10_end) (maxL := 2) (ret := (some .boolean)) (by decide) (Nat.le_of_ble_eq_true rfl) ?_
  intro p e s m below meth c ls A X hP hD hS hA hl
  obtain ⟨⟨hx, hb, hml, hown, hts⟩, hr, hlk, hK⟩ := id X
  have hl : lv_has ls 2 [(0, .ref (a 0)), (1, .int x1)] := hl
  unfold s_X10_end at hf
  refine lv_iload_n hx hb dX10_end_0 rfl (lv_at hl 1 rfl) ?_
  refine lv_if_lt (tgt := 15) hx hb dX10_end_1 (by decide) (fun c_1 => ?_) (fun c_1 => ?_)
  · have hf := hf.1 c_1
    refine lv_iconst (v := 0) hx hb dX10_end_15 (by decide) ?_
    exact z_retMz (Wf := (fun z => cl_X10 cI cJ cS a z)) (u := u) X (Or.inl rfl) hf hP hD hS dX10_end_16
  · have hf := hf.2 c_1
    refine lv_iload_n hx hb dX10_end_4 rfl (lv_at hl 1 rfl) ?_
    refine lv_aload_n hx hb dX10_end_5 rfl (lv_at hl 0 rfl) ?_
    refine va_get (D := (dC, dI)) (ci := 9) (v := .ref (a 46)) (C := RX10) (T := TX10) (N := 9) hx hb hts inX10 hown hK hP 0 rfl rfl 5 (by decide) (hts _ q_fl_X10_32) (fun _ h9 => h9) rfl dX10_end_6 ?_
    refine va_get (D := (dC, dI)) (ci := 5) (v := .int u.2.2.2.2.2.1.2.2.1) (C := RX6) (T := TX6) (N := 7) hx hb hts inX6 hown hK hP 46 rfl rfl 2 (by decide) (hts _ q_fl_X10_52) (fun _ h9 => h9) rfl dX10_end_9 ?_
    refine lv_icmp_le (tgt := 17) hx hb dX10_end_12 (by decide) (fun c_2 => ?_) (fun c_2 => ?_)
    · have hf := hf.1 c_2
      refine lv_aload_n hx hb dX10_end_17 rfl (lv_at hl 0 rfl) ?_
      refine va_get (D := (dC, dI)) (ci := 9) (v := .ref (a 46)) (C := RX10) (T := TX10) (N := 9) hx hb hts inX10 hown hK hP 0 rfl rfl 5 (by decide) (hts _ q_fl_X10_32) (fun _ h9 => h9) rfl dX10_end_18 ?_
      refine lv_iload_n hx hb dX10_end_21 rfl (lv_at hl 1 rfl) ?_
      refine z_put (w' := cl_X10 cI cJ cS a (u.1, u.2.1, u.2.2.1, u.2.2.2.1, u.2.2.2.2.1, (u.2.2.2.2.2.1.1, u.2.2.2.2.2.1.2.1, x1, u.2.2.2.2.2.1.2.2.2.1, u.2.2.2.2.2.1.2.2.2.2.1, u.2.2.2.2.2.1.2.2.2.2.2.1, u.2.2.2.2.2.1.2.2.2.2.2.2), u.2.2.2.2.2.2)) (ci := 5) (v := .int x1) (ty := .int) (Cn := RX6) (T := TX6) (N := 7) X inX6 tyX6 tyX6_ok nmX6 hP hD hS 46 rfl rfl 2 (by decide) (hts _ q_fl_X10_52) (fun _ h9 => h9) rfl (tyX6_ok 2 (by decide)) rfl rfl (Nat.le_of_ble_eq_true rfl) rfl dX10_end_22 (fun H locs hP hD hS => ?_)
      refine lv_iconst (v := 1) hx hb dX10_end_25 (by decide) ?_
      exact z_retMz (Wf := (fun z => cl_X10 cI cJ cS a z)) (u := (u.1, u.2.1, u.2.2.1, u.2.2.2.1, u.2.2.2.2.1, (u.2.2.2.2.2.1.1, u.2.2.2.2.2.1.2.1, x1, u.2.2.2.2.2.1.2.2.2.1, u.2.2.2.2.2.1.2.2.2.2.1, u.2.2.2.2.2.1.2.2.2.2.2.1, u.2.2.2.2.2.1.2.2.2.2.2.2), u.2.2.2.2.2.2)) X (Or.inr rfl) hf hP hD hS dX10_end_26
    · have hf := hf.2 c_2
      refine lv_iconst (v := 0) hx hb dX10_end_15 (by decide) ?_
      exact z_retMz (Wf := (fun z => cl_X10 cI cJ cS a z)) (u := u) X (Or.inl rfl) hf hP hD hS dX10_end_16

def s_X10_back (u : zCls) (Q : Int32 → zCls → Prop) : Prop := ((¬ u.2.2.2.1 = 0 → s_X5_copyFrom u.1 u.2.2.1 (fun (u_3 : zState × zState) => s_X3_forget u.2.2.2.2.1 (fun (u_5 : zMem) => Q (1 : Int32) (u_3.1, u.2.1, u_3.2, u.2.2.2.1, u_5, u.2.2.2.2.2)))) ∧ (u.2.2.2.1 = 0 → Q (0 : Int32) u))
theorem zc_X10_back : zCalV RX10 yX10_back cX10_back 1 (some .boolean) 0 := ⟨q_im_X10_back, q_se_X10_back, q_in_X10, q_cd_X10_back, ⟨by decide, by decide, by decide +kernel⟩, rfl⟩
abbrev rm_X10_back : Room := { frames := 3, cells := 0, slots := 0, locals := 90 }
set_option maxHeartbeats 4000000 in
set_option maxRecDepth 100000 in
theorem c_X10_back (l : Launch) (dC : Nat → ClassId) (dI : Nat → Nat → Nat) (cI cJ cS : ClassId) (a : Nat → Nat) (u : zCls) (Q : Int32 → zCls → Prop) (hf : s_X10_back u Q) : ∀ sz : Nat, Met l yX10_back (Cond.code yX10_back cX10_back 1 (some .boolean) :: zT) rm_X10_back (zPm dC dI cI cJ cS (cl_X10 cI cJ cS a u) [.ref (a 0)] sz) (va_Qi (fun r u => (r = 0 ∨ r = 1) ∧ Q r u) (zB dC dI cI cJ cS (va_A (cl_X10 cI cJ cS a u) sz) (fun z => cl_X10 cI cJ cS a z)) (va_A (cl_X10 cI cJ cS a u) sz)) 0 0 (va_A (cl_X10 cI cJ cS a u) sz) := by
  intro sz
  refine z_enterM (Qc := fun A => va_Qi (fun r u => (r = 0 ∨ r = 1) ∧ Q r u) (zB dC dI cI cJ cS A (fun z => cl_X10 cI cJ cS a z)) A) (cc := cX10_back) (maxL := 1) (ret := (some .boolean)) (by decide) (Nat.le_of_ble_eq_true rfl) ?_
  intro p e s m below meth c ls A X hP hD hS hA hl
  obtain ⟨⟨hx, hb, hml, hown, hts⟩, hr, hlk, hK⟩ := id X
  have hl : lv_has ls 1 [(0, .ref (a 0))] := hl
  unfold s_X10_back at hf
  refine lv_aload_n hx hb dX10_back_0 rfl (lv_at hl 0 rfl) ?_
  refine va_get (D := (dC, dI)) (ci := 9) (v := .int u.2.2.2.1) (C := RX10) (T := TX10) (N := 9) hx hb hts inX10 hown hK hP 0 rfl rfl 3 (by decide) (hts _ q_fl_X10_325) (fun _ h9 => h9) rfl dX10_back_1 ?_
  refine lv_if_ne (tgt := 9) hx hb dX10_back_4 (by decide) (fun c_1 => ?_) (fun c_1 => ?_)
  · have hf := hf.1 c_1
    refine lv_aload_n hx hb dX10_back_9 rfl (lv_at hl 0 rfl) ?_
    refine va_get (D := (dC, dI)) (ci := 9) (v := .ref (a 1)) (C := RX10) (T := TX10) (N := 9) hx hb hts inX10 hown hK hP 0 rfl rfl 0 (by decide) (hts _ q_fl_X10_10) (fun _ h9 => h9) rfl dX10_back_10 ?_
    refine lv_aload_n hx hb dX10_back_13 rfl (lv_at hl 0 rfl) ?_
    refine va_get (D := (dC, dI)) (ci := 9) (v := .ref (a 31)) (C := RX10) (T := TX10) (N := 9) hx hb hts inX10 hown hK hP 0 rfl rfl 2 (by decide) (hts _ q_fl_X10_19) (fun _ h9 => h9) rfl dX10_back_14 ?_
    refine z_pVv (Wn := (fun u_3 => cl_X10 cI cJ cS a (u_3.1, u.2.1, u_3.2, u.2.2.2))) (As := [.ref (a 31)]) (rest := []) (wr := rr_X10_nk cI cJ cS a u) X (c_X5_copyFrom l dC dI cI cJ cS (fun i => a (1 + i)) (fun i => a (31 + i)) u.1 u.2.2.1  _ hf _) zc_X5_copyFrom q_ml_X10_55 ⟨rfl, rfl⟩ ⟨Nat.le_of_ble_eq_true rfl, Nat.le_of_ble_eq_true rfl⟩ hP hD hS hA (pm_X10_nk cI cJ cS a u) (fun u_3 => pm_X10_nk cI cJ cS a (u_3.1, u.2.1, u_3.2, u.2.2.2)) 4 rfl rfl hl.1 rfl rfl (Nat.le_of_ble_eq_true rfl) ⟨Nat.zero_le _, Nat.zero_le _⟩ dX10_back_17 (fun u_3 H locs hf hP hD hS => ?_)
    refine lv_aload_n hx hb dX10_back_20 rfl (lv_at hl 0 rfl) ?_
    refine va_get (D := (dC, dI)) (ci := 9) (v := .ref (a 50)) (C := RX10) (T := TX10) (N := 9) hx hb hts inX10 hown hK hP 0 rfl rfl 4 (by decide) (hts _ q_fl_X10_25) (fun _ h9 => h9) rfl dX10_back_21 ?_
    refine z_pVv (Wn := (fun u_5 => cl_X10 cI cJ cS a (u_3.1, u.2.1, u_3.2, u.2.2.2.1, u_5, u.2.2.2.2.2))) (As := []) (rest := []) (wr := rr_X10_m cI cJ cS a (u_3.1, u.2.1, u_3.2, u.2.2.2)) X (c_X3_forget l dC dI cI cJ cS (fun i => a (50 + i)) u.2.2.2.2.1  _ hf _) zc_X3_forget q_ml_X10_96 ⟨rfl, rfl⟩ ⟨Nat.le_of_ble_eq_true rfl, Nat.le_of_ble_eq_true rfl⟩ hP hD hS hA (pm_X10_m cI cJ cS a (u_3.1, u.2.1, u_3.2, u.2.2.2)) (fun u_5 => pm_X10_m cI cJ cS a (u_3.1, u.2.1, u_3.2, u.2.2.2.1, u_5, u.2.2.2.2.2)) 2 rfl rfl hl.1 rfl rfl (Nat.le_of_ble_eq_true rfl) ⟨Nat.zero_le _, Nat.zero_le _⟩ dX10_back_24 (fun u_5 H locs hf hP hD hS => ?_)
    refine lv_iconst (v := 1) hx hb dX10_back_27 (by decide) ?_
    exact z_retMz (Wf := (fun z => cl_X10 cI cJ cS a z)) (u := (u_3.1, u.2.1, u_3.2, u.2.2.2.1, u_5, u.2.2.2.2.2)) X (Or.inr rfl) hf hP hD hS dX10_back_28
  · have hf := hf.2 c_1
    refine lv_iconst (v := 0) hx hb dX10_back_7 (by decide) ?_
    exact z_retMz (Wf := (fun z => cl_X10 cI cJ cS a z)) (u := u) X (Or.inl rfl) hf hP hD hS dX10_back_8
