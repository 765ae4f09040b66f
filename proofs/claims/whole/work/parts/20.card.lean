def t_X0_made (x0 : Int32) (x1 : Int32) (x2 : Int32) (x3 : Int32) (x4 : Int32) (x5 : Int32) (Q : Int64 → Prop) : Prop := ∀ x_1 : Int64, x_1 = (((x0.toInt64 <<< ((12 : Int32).toInt64 &&& 63)) ||| ((x1 <<< ((8 : Int32) &&& 31)).toInt64)) ||| x2.toInt64) → Q ((x_1 <<< ((20 : Int32).toInt64 &&& 63)) ||| ((((x3 <<< ((14 : Int32) &&& 31)) ||| (x4 <<< ((8 : Int32) &&& 31))) ||| x5).toInt64))
theorem zc_X0_made : zCalS yX0_made cX0_made 8 (some .long) 6 := ⟨q_st_X0_made, q_in_X0, q_cd_X0_made, ⟨by decide, by decide, by decide +kernel⟩⟩
abbrev rm_X0_made : Room := { frames := 0, cells := 0, slots := 0, locals := 0 }
set_option maxHeartbeats 4000000 in
set_option maxRecDepth 100000 in
theorem L_X0_made (l : Launch) (dC : Nat → ClassId) (dI : Nat → Nat → Nat) (cI cJ cS : ClassId) (x0 : Int32) (x1 : Int32) (x2 : Int32) (x3 : Int32) (x4 : Int32) (x5 : Int32) (Q : Int64 → Prop) (hf : t_X0_made x0 x1 x2 x3 x4 x5 Q) : Met l yX0_made (Cond.code yX0_made cX0_made 8 (some .long) :: zT) rm_X0_made (zPp dC dI cI cJ cS ([]) [.int x0, .int x1, .int x2, .int x3, .int x4, .int x5]) (vp_Sl Q) 0 0 (fun _ => False) := by
  refine z_enterP (cc := cX0_made) (maxL := 8) (ret := (some .long)) (by decide) (Nat.le_of_ble_eq_true rfl) ?_
  intro p e s m below meth c ls X hP hl
  obtain ⟨⟨hx, hb, hml, hown, hts⟩, hr, hlk, hK⟩ := id X
  have hl : lv_has ls 8 [(0, .int x0), (1, .int x1), (2, .int x2), (3, .int x3), (4, .int x4), (5, .int x5)] := hl
  unfold t_X0_made at hf
  refine lv_iload_n hx hb dX0_made_0 rfl (lv_at hl 0 rfl) ?_
  refine lv_i2l hx hb dX0_made_1 rfl ?_
  refine lv_bipush (v := 12) hx hb dX0_made_2 (by decide) ?_
  refine lv_lshl hx hb dX0_made_4 rfl ?_
  refine lv_iload_n hx hb dX0_made_5 rfl (lv_at hl 1 rfl) ?_
  refine lv_bipush (v := 8) hx hb dX0_made_6 (by decide) ?_
  refine lv_ishl hx hb dX0_made_8 ?_
  refine lv_i2l hx hb dX0_made_9 rfl ?_
  refine lv_lor hx hb dX0_made_10 ?_
  refine lv_iload_n hx hb dX0_made_11 rfl (lv_at hl 2 rfl) ?_
  refine lv_i2l hx hb dX0_made_12 rfl ?_
  refine lv_lor hx hb dX0_made_13 ?_
  refine lv_topl (fun x_1 ex_1 => ?_)
  have hf := hf x_1 ex_1
  refine lv_lstore (lv' := [(6, .long x_1), (0, .int x0), (1, .int x1), (2, .int x2), (3, .int x3), (4, .int x4), (5, .int x5)]) hx hb dX0_made_14 hl (by decide) rfl (fun ls hl => ?_)
  refine lv_lload hx hb dX0_made_16 (lv_at hl 0 rfl) ?_
  refine lv_bipush (v := 20) hx hb dX0_made_18 (by decide) ?_
  refine lv_lshl hx hb dX0_made_20 rfl ?_
  refine lv_iload_n hx hb dX0_made_21 rfl (lv_at hl 4 rfl) ?_
  refine lv_bipush (v := 14) hx hb dX0_made_22 (by decide) ?_
  refine lv_ishl hx hb dX0_made_24 ?_
  refine lv_iload hx hb dX0_made_25 (lv_at hl 5 rfl) ?_
  refine lv_bipush (v := 8) hx hb dX0_made_27 (by decide) ?_
  refine lv_ishl hx hb dX0_made_29 ?_
  refine lv_ior hx hb dX0_made_30 ?_
  refine lv_iload hx hb dX0_made_31 (lv_at hl 6 rfl) ?_
  refine lv_ior hx hb dX0_made_33 ?_
  refine lv_i2l hx hb dX0_made_34 rfl ?_
  refine lv_lor hx hb dX0_made_35 ?_
  exact z_retPl X hf dX0_made_36
def cMk (x0 x1 x2 x3 x4 x5 : Int32) : Int64 := ((((x0.toInt64 <<< ((12 : Int32).toInt64 &&& 63)) ||| ((x1 <<< ((8 : Int32) &&& 31)).toInt64)) ||| x2.toInt64) <<< ((20 : Int32).toInt64 &&& 63)) ||| ((((x3 <<< ((14 : Int32) &&& 31)) ||| (x4 <<< ((8 : Int32) &&& 31))) ||| x5).toInt64)
def s_X0_made (x0 x1 x2 x3 x4 x5 : Int32) (Q : Int64 → Prop) : Prop := Q (cMk x0 x1 x2 x3 x4 x5)
theorem st_X0_made {x0 x1 x2 x3 x4 x5 : Int32} {Q : Int64 → Prop} (h : s_X0_made x0 x1 x2 x3 x4 x5 Q) : t_X0_made x0 x1 x2 x3 x4 x5 Q := by
  intro x e
  rw [e]; exact h
theorem c_X0_made (l : Launch) (dC : Nat → ClassId) (dI : Nat → Nat → Nat) (cI cJ cS : ClassId) (x0 : Int32) (x1 : Int32) (x2 : Int32) (x3 : Int32) (x4 : Int32) (x5 : Int32) (Q : Int64 → Prop) (hf : s_X0_made x0 x1 x2 x3 x4 x5 Q) : Met l yX0_made (Cond.code yX0_made cX0_made 8 (some .long) :: zT) rm_X0_made (zPp dC dI cI cJ cS ([]) [.int x0, .int x1, .int x2, .int x3, .int x4, .int x5]) (vp_Sl Q) 0 0 (fun _ => False) := L_X0_made l dC dI cI cJ cS x0 x1 x2 x3 x4 x5 Q (st_X0_made hf)

def t_X0_numberOf (x0 : Int64) (Q : Int32 → Prop) : Prop := Q (((x0.toUInt64 >>> ((32 : Int32).toInt64.toUInt64 &&& Int64.toUInt64 63)).toInt64).toInt32)
theorem zc_X0_numberOf : zCalS yX0_numberOf cX0_numberOf 2 (some .int) 1 := ⟨q_st_X0_numberOf, q_in_X0, q_cd_X0_numberOf, ⟨by decide, by decide, by decide +kernel⟩⟩
abbrev rm_X0_numberOf : Room := { frames := 0, cells := 0, slots := 0, locals := 0 }
set_option maxHeartbeats 4000000 in
set_option maxRecDepth 100000 in
theorem L_X0_numberOf (l : Launch) (dC : Nat → ClassId) (dI : Nat → Nat → Nat) (cI cJ cS : ClassId) (x0 : Int64) (Q : Int32 → Prop) (hf : t_X0_numberOf x0 Q) : Met l yX0_numberOf (Cond.code yX0_numberOf cX0_numberOf 2 (some .int) :: zT) rm_X0_numberOf (zPp dC dI cI cJ cS ([]) [.long x0]) (vp_Si Q) 0 0 (fun _ => False) := by
  refine z_enterP (cc := cX0_numberOf) (maxL := 2) (ret := (some .int)) (by decide) (Nat.le_of_ble_eq_true rfl) ?_
  intro p e s m below meth c ls X hP hl
  obtain ⟨⟨hx, hb, hml, hown, hts⟩, hr, hlk, hK⟩ := id X
  have hl : lv_has ls 2 [(0, .long x0)] := hl
  unfold t_X0_numberOf at hf
  refine lv_lload_n hx hb dX0_numberOf_0 rfl (lv_at hl 0 rfl) ?_
  refine lv_bipush (v := 32) hx hb dX0_numberOf_1 (by decide) ?_
  refine lv_lushr hx hb dX0_numberOf_3 rfl ?_
  refine lv_l2i hx hb dX0_numberOf_4 rfl ?_
  exact z_retPi X hf dX0_numberOf_5
def cNum (x0 : Int64) : Int32 := (((x0.toUInt64 >>> ((32 : Int32).toInt64.toUInt64 &&& Int64.toUInt64 63)).toInt64).toInt32)
def s_X0_numberOf (x0 : Int64) (Q : Int32 → Prop) : Prop := Q (cNum x0)
theorem st_X0_numberOf {x0 : Int64} {Q : Int32 → Prop} (h : s_X0_numberOf x0 Q) : t_X0_numberOf x0 Q := h
theorem c_X0_numberOf (l : Launch) (dC : Nat → ClassId) (dI : Nat → Nat → Nat) (cI cJ cS : ClassId) (x0 : Int64) (Q : Int32 → Prop) (hf : s_X0_numberOf x0 Q) : Met l yX0_numberOf (Cond.code yX0_numberOf cX0_numberOf 2 (some .int) :: zT) rm_X0_numberOf (zPp dC dI cI cJ cS ([]) [.long x0]) (vp_Si Q) 0 0 (fun _ => False) := L_X0_numberOf l dC dI cI cJ cS x0 Q (st_X0_numberOf hf)

def t_X0_segmentOf (x0 : Int64) (Q : Int32 → Prop) : Prop := Q ((((x0.toUInt64 >>> ((28 : Int32).toInt64.toUInt64 &&& Int64.toUInt64 63)).toInt64).toInt32) &&& (15 : Int32))
theorem zc_X0_segmentOf : zCalS yX0_segmentOf cX0_segmentOf 2 (some .int) 1 := ⟨q_st_X0_segmentOf, q_in_X0, q_cd_X0_segmentOf, ⟨by decide, by decide, by decide +kernel⟩⟩
abbrev rm_X0_segmentOf : Room := { frames := 0, cells := 0, slots := 0, locals := 0 }
set_option maxHeartbeats 4000000 in
set_option maxRecDepth 100000 in
theorem L_X0_segmentOf (l : Launch) (dC : Nat → ClassId) (dI : Nat → Nat → Nat) (cI cJ cS : ClassId) (x0 : Int64) (Q : Int32 → Prop) (hf : t_X0_segmentOf x0 Q) : Met l yX0_segmentOf (Cond.code yX0_segmentOf cX0_segmentOf 2 (some .int) :: zT) rm_X0_segmentOf (zPp dC dI cI cJ cS ([]) [.long x0]) (vp_Si Q) 0 0 (fun _ => False) := by
  refine z_enterP (cc := cX0_segmentOf) (maxL := 2) (ret := (some .int)) (by decide) (Nat.le_of_ble_eq_true rfl) ?_
  intro p e s m below meth c ls X hP hl
  obtain ⟨⟨hx, hb, hml, hown, hts⟩, hr, hlk, hK⟩ := id X
  have hl : lv_has ls 2 [(0, .long x0)] := hl
  unfold t_X0_segmentOf at hf
  refine lv_lload_n hx hb dX0_segmentOf_0 rfl (lv_at hl 0 rfl) ?_
  refine lv_bipush (v := 28) hx hb dX0_segmentOf_1 (by decide) ?_
  refine lv_lushr hx hb dX0_segmentOf_3 rfl ?_
  refine lv_l2i hx hb dX0_segmentOf_4 rfl ?_
  refine lv_bipush (v := 15) hx hb dX0_segmentOf_5 (by decide) ?_
  refine lv_iand hx hb dX0_segmentOf_7 ?_
  exact z_retPi X hf dX0_segmentOf_8
def cSeg (x0 : Int64) : Int32 := ((((x0.toUInt64 >>> ((28 : Int32).toInt64.toUInt64 &&& Int64.toUInt64 63)).toInt64).toInt32) &&& (15 : Int32))
def s_X0_segmentOf (x0 : Int64) (Q : Int32 → Prop) : Prop := Q (cSeg x0)
theorem st_X0_segmentOf {x0 : Int64} {Q : Int32 → Prop} (h : s_X0_segmentOf x0 Q) : t_X0_segmentOf x0 Q := h
theorem c_X0_segmentOf (l : Launch) (dC : Nat → ClassId) (dI : Nat → Nat → Nat) (cI cJ cS : ClassId) (x0 : Int64) (Q : Int32 → Prop) (hf : s_X0_segmentOf x0 Q) : Met l yX0_segmentOf (Cond.code yX0_segmentOf cX0_segmentOf 2 (some .int) :: zT) rm_X0_segmentOf (zPp dC dI cI cJ cS ([]) [.long x0]) (vp_Si Q) 0 0 (fun _ => False) := L_X0_segmentOf l dC dI cI cJ cS x0 Q (st_X0_segmentOf hf)

def t_X0_beginOf (x0 : Int64) (Q : Int32 → Prop) : Prop := Q ((((x0.toUInt64 >>> ((20 : Int32).toInt64.toUInt64 &&& Int64.toUInt64 63)).toInt64).toInt32) &&& (255 : Int32))
theorem zc_X0_beginOf : zCalS yX0_beginOf cX0_beginOf 2 (some .int) 1 := ⟨q_st_X0_beginOf, q_in_X0, q_cd_X0_beginOf, ⟨by decide, by decide, by decide +kernel⟩⟩
abbrev rm_X0_beginOf : Room := { frames := 0, cells := 0, slots := 0, locals := 0 }
set_option maxHeartbeats 4000000 in
set_option maxRecDepth 100000 in
theorem L_X0_beginOf (l : Launch) (dC : Nat → ClassId) (dI : Nat → Nat → Nat) (cI cJ cS : ClassId) (x0 : Int64) (Q : Int32 → Prop) (hf : t_X0_beginOf x0 Q) : Met l yX0_beginOf (Cond.code yX0_beginOf cX0_beginOf 2 (some .int) :: zT) rm_X0_beginOf (zPp dC dI cI cJ cS ([]) [.long x0]) (vp_Si Q) 0 0 (fun _ => False) := by
  refine z_enterP (cc := cX0_beginOf) (maxL := 2) (ret := (some .int)) (by decide) (Nat.le_of_ble_eq_true rfl) ?_
  intro p e s m below meth c ls X hP hl
  obtain ⟨⟨hx, hb, hml, hown, hts⟩, hr, hlk, hK⟩ := id X
  have hl : lv_has ls 2 [(0, .long x0)] := hl
  unfold t_X0_beginOf at hf
  refine lv_lload_n hx hb dX0_beginOf_0 rfl (lv_at hl 0 rfl) ?_
  refine lv_bipush (v := 20) hx hb dX0_beginOf_1 (by decide) ?_
  refine lv_lushr hx hb dX0_beginOf_3 rfl ?_
  refine lv_l2i hx hb dX0_beginOf_4 rfl ?_
  refine lv_sipush (v := 255) hx hb dX0_beginOf_5 (by decide) ?_
  refine lv_iand hx hb dX0_beginOf_8 ?_
  exact z_retPi X hf dX0_beginOf_9
def cBeg (x0 : Int64) : Int32 := ((((x0.toUInt64 >>> ((20 : Int32).toInt64.toUInt64 &&& Int64.toUInt64 63)).toInt64).toInt32) &&& (255 : Int32))
def s_X0_beginOf (x0 : Int64) (Q : Int32 → Prop) : Prop := Q (cBeg x0)
theorem st_X0_beginOf {x0 : Int64} {Q : Int32 → Prop} (h : s_X0_beginOf x0 Q) : t_X0_beginOf x0 Q := h
theorem c_X0_beginOf (l : Launch) (dC : Nat → ClassId) (dI : Nat → Nat → Nat) (cI cJ cS : ClassId) (x0 : Int64) (Q : Int32 → Prop) (hf : s_X0_beginOf x0 Q) : Met l yX0_beginOf (Cond.code yX0_beginOf cX0_beginOf 2 (some .int) :: zT) rm_X0_beginOf (zPp dC dI cI cJ cS ([]) [.long x0]) (vp_Si Q) 0 0 (fun _ => False) := L_X0_beginOf l dC dI cI cJ cS x0 Q (st_X0_beginOf hf)

def t_X0_keyOf (x0 : Int64) (Q : Int32 → Prop) : Prop := Q ((((x0.toUInt64 >>> ((14 : Int32).toInt64.toUInt64 &&& Int64.toUInt64 63)).toInt64).toInt32) &&& (63 : Int32))
theorem zc_X0_keyOf : zCalS yX0_keyOf cX0_keyOf 2 (some .int) 1 := ⟨q_st_X0_keyOf, q_in_X0, q_cd_X0_keyOf, ⟨by decide, by decide, by decide +kernel⟩⟩
abbrev rm_X0_keyOf : Room := { frames := 0, cells := 0, slots := 0, locals := 0 }
set_option maxHeartbeats 4000000 in
set_option maxRecDepth 100000 in
theorem L_X0_keyOf (l : Launch) (dC : Nat → ClassId) (dI : Nat → Nat → Nat) (cI cJ cS : ClassId) (x0 : Int64) (Q : Int32 → Prop) (hf : t_X0_keyOf x0 Q) : Met l yX0_keyOf (Cond.code yX0_keyOf cX0_keyOf 2 (some .int) :: zT) rm_X0_keyOf (zPp dC dI cI cJ cS ([]) [.long x0]) (vp_Si Q) 0 0 (fun _ => False) := by
  refine z_enterP (cc := cX0_keyOf) (maxL := 2) (ret := (some .int)) (by decide) (Nat.le_of_ble_eq_true rfl) ?_
  intro p e s m below meth c ls X hP hl
  obtain ⟨⟨hx, hb, hml, hown, hts⟩, hr, hlk, hK⟩ := id X
  have hl : lv_has ls 2 [(0, .long x0)] := hl
  unfold t_X0_keyOf at hf
  refine lv_lload_n hx hb dX0_keyOf_0 rfl (lv_at hl 0 rfl) ?_
  refine lv_bipush (v := 14) hx hb dX0_keyOf_1 (by decide) ?_
  refine lv_lushr hx hb dX0_keyOf_3 rfl ?_
  refine lv_l2i hx hb dX0_keyOf_4 rfl ?_
  refine lv_bipush (v := 63) hx hb dX0_keyOf_5 (by decide) ?_
  refine lv_iand hx hb dX0_keyOf_7 ?_
  exact z_retPi X hf dX0_keyOf_8
def cKey (x0 : Int64) : Int32 := ((((x0.toUInt64 >>> ((14 : Int32).toInt64.toUInt64 &&& Int64.toUInt64 63)).toInt64).toInt32) &&& (63 : Int32))
def s_X0_keyOf (x0 : Int64) (Q : Int32 → Prop) : Prop := Q (cKey x0)
theorem st_X0_keyOf {x0 : Int64} {Q : Int32 → Prop} (h : s_X0_keyOf x0 Q) : t_X0_keyOf x0 Q := h
theorem c_X0_keyOf (l : Launch) (dC : Nat → ClassId) (dI : Nat → Nat → Nat) (cI cJ cS : ClassId) (x0 : Int64) (Q : Int32 → Prop) (hf : s_X0_keyOf x0 Q) : Met l yX0_keyOf (Cond.code yX0_keyOf cX0_keyOf 2 (some .int) :: zT) rm_X0_keyOf (zPp dC dI cI cJ cS ([]) [.long x0]) (vp_Si Q) 0 0 (fun _ => False) := L_X0_keyOf l dC dI cI cJ cS x0 Q (st_X0_keyOf hf)

def t_X0_lengthOf (x0 : Int64) (Q : Int32 → Prop) : Prop := Q ((((x0.toUInt64 >>> ((8 : Int32).toInt64.toUInt64 &&& Int64.toUInt64 63)).toInt64).toInt32) &&& (63 : Int32))
theorem zc_X0_lengthOf : zCalS yX0_lengthOf cX0_lengthOf 2 (some .int) 1 := ⟨q_st_X0_lengthOf, q_in_X0, q_cd_X0_lengthOf, ⟨by decide, by decide, by decide +kernel⟩⟩
abbrev rm_X0_lengthOf : Room := { frames := 0, cells := 0, slots := 0, locals := 0 }
set_option maxHeartbeats 4000000 in
set_option maxRecDepth 100000 in
theorem L_X0_lengthOf (l : Launch) (dC : Nat → ClassId) (dI : Nat → Nat → Nat) (cI cJ cS : ClassId) (x0 : Int64) (Q : Int32 → Prop) (hf : t_X0_lengthOf x0 Q) : Met l yX0_lengthOf (Cond.code yX0_lengthOf cX0_lengthOf 2 (some .int) :: zT) rm_X0_lengthOf (zPp dC dI cI cJ cS ([]) [.long x0]) (vp_Si Q) 0 0 (fun _ => False) := by
  refine z_enterP (cc := cX0_lengthOf) (maxL := 2) (ret := (some .int)) (by decide) (Nat.le_of_ble_eq_true rfl) ?_
  intro p e s m below meth c ls X hP hl
  obtain ⟨⟨hx, hb, hml, hown, hts⟩, hr, hlk, hK⟩ := id X
  have hl : lv_has ls 2 [(0, .long x0)] := hl
  unfold t_X0_lengthOf at hf
  refine lv_lload_n hx hb dX0_lengthOf_0 rfl (lv_at hl 0 rfl) ?_
  refine lv_bipush (v := 8) hx hb dX0_lengthOf_1 (by decide) ?_
  refine lv_lushr hx hb dX0_lengthOf_3 rfl ?_
  refine lv_l2i hx hb dX0_lengthOf_4 rfl ?_
  refine lv_bipush (v := 63) hx hb dX0_lengthOf_5 (by decide) ?_
  refine lv_iand hx hb dX0_lengthOf_7 ?_
  exact z_retPi X hf dX0_lengthOf_8
def cLen (x0 : Int64) : Int32 := ((((x0.toUInt64 >>> ((8 : Int32).toInt64.toUInt64 &&& Int64.toUInt64 63)).toInt64).toInt32) &&& (63 : Int32))
def s_X0_lengthOf (x0 : Int64) (Q : Int32 → Prop) : Prop := Q (cLen x0)
theorem st_X0_lengthOf {x0 : Int64} {Q : Int32 → Prop} (h : s_X0_lengthOf x0 Q) : t_X0_lengthOf x0 Q := h
theorem c_X0_lengthOf (l : Launch) (dC : Nat → ClassId) (dI : Nat → Nat → Nat) (cI cJ cS : ClassId) (x0 : Int64) (Q : Int32 → Prop) (hf : s_X0_lengthOf x0 Q) : Met l yX0_lengthOf (Cond.code yX0_lengthOf cX0_lengthOf 2 (some .int) :: zT) rm_X0_lengthOf (zPp dC dI cI cJ cS ([]) [.long x0]) (vp_Si Q) 0 0 (fun _ => False) := L_X0_lengthOf l dC dI cI cJ cS x0 Q (st_X0_lengthOf hf)

def t_X0_seedOf (x0 : Int64) (Q : Int32 → Prop) : Prop := Q (x0.toInt32 &&& (255 : Int32))
theorem zc_X0_seedOf : zCalS yX0_seedOf cX0_seedOf 2 (some .int) 1 := ⟨q_st_X0_seedOf, q_in_X0, q_cd_X0_seedOf, ⟨by decide, by decide, by decide +kernel⟩⟩
abbrev rm_X0_seedOf : Room := { frames := 0, cells := 0, slots := 0, locals := 0 }
set_option maxHeartbeats 4000000 in
set_option maxRecDepth 100000 in
theorem L_X0_seedOf (l : Launch) (dC : Nat → ClassId) (dI : Nat → Nat → Nat) (cI cJ cS : ClassId) (x0 : Int64) (Q : Int32 → Prop) (hf : t_X0_seedOf x0 Q) : Met l yX0_seedOf (Cond.code yX0_seedOf cX0_seedOf 2 (some .int) :: zT) rm_X0_seedOf (zPp dC dI cI cJ cS ([]) [.long x0]) (vp_Si Q) 0 0 (fun _ => False) := by
  refine z_enterP (cc := cX0_seedOf) (maxL := 2) (ret := (some .int)) (by decide) (Nat.le_of_ble_eq_true rfl) ?_
  intro p e s m below meth c ls X hP hl
  obtain ⟨⟨hx, hb, hml, hown, hts⟩, hr, hlk, hK⟩ := id X
  have hl : lv_has ls 2 [(0, .long x0)] := hl
  unfold t_X0_seedOf at hf
  refine lv_lload_n hx hb dX0_seedOf_0 rfl (lv_at hl 0 rfl) ?_
  refine lv_l2i hx hb dX0_seedOf_1 rfl ?_
  refine lv_sipush (v := 255) hx hb dX0_seedOf_2 (by decide) ?_
  refine lv_iand hx hb dX0_seedOf_5 ?_
  exact z_retPi X hf dX0_seedOf_6
def cSeed (x0 : Int64) : Int32 := (x0.toInt32 &&& (255 : Int32))
def s_X0_seedOf (x0 : Int64) (Q : Int32 → Prop) : Prop := Q (cSeed x0)
theorem st_X0_seedOf {x0 : Int64} {Q : Int32 → Prop} (h : s_X0_seedOf x0 Q) : t_X0_seedOf x0 Q := h
theorem c_X0_seedOf (l : Launch) (dC : Nat → ClassId) (dI : Nat → Nat → Nat) (cI cJ cS : ClassId) (x0 : Int64) (Q : Int32 → Prop) (hf : s_X0_seedOf x0 Q) : Met l yX0_seedOf (Cond.code yX0_seedOf cX0_seedOf 2 (some .int) :: zT) rm_X0_seedOf (zPp dC dI cI cJ cS ([]) [.long x0]) (vp_Si Q) 0 0 (fun _ => False) := L_X0_seedOf l dC dI cI cJ cS x0 Q (st_X0_seedOf hf)

def t_X0_sizeOf (x0 : Int64) (Q : Int32 → Prop) : Prop := s_X0_lengthOf x0 (fun r_1 : Int32 => Q ((4 : Int32) + r_1))
theorem zc_X0_sizeOf : zCalS yX0_sizeOf cX0_sizeOf 2 (some .int) 1 := ⟨q_st_X0_sizeOf, q_in_X0, q_cd_X0_sizeOf, ⟨by decide, by decide, by decide +kernel⟩⟩
abbrev rm_X0_sizeOf : Room := { frames := 1, cells := 0, slots := 0, locals := 21 }
set_option maxHeartbeats 4000000 in
set_option maxRecDepth 100000 in
theorem L_X0_sizeOf (l : Launch) (dC : Nat → ClassId) (dI : Nat → Nat → Nat) (cI cJ cS : ClassId) (x0 : Int64) (Q : Int32 → Prop) (hf : t_X0_sizeOf x0 Q) : Met l yX0_sizeOf (Cond.code yX0_sizeOf cX0_sizeOf 2 (some .int) :: zT) rm_X0_sizeOf (zPp dC dI cI cJ cS ([]) [.long x0]) (vp_Si Q) 0 0 (fun _ => False) := by
  refine z_enterP (cc := cX0_sizeOf) (maxL := 2) (ret := (some .int)) (by decide) (Nat.le_of_ble_eq_true rfl) ?_
  intro p e s m below meth c ls X hP hl
  obtain ⟨⟨hx, hb, hml, hown, hts⟩, hr, hlk, hK⟩ := id X
  have hl : lv_has ls 2 [(0, .long x0)] := hl
  unfold t_X0_sizeOf at hf
  refine lv_iconst (v := 4) hx hb dX0_sizeOf_0 (by decide) ?_
  refine lv_lload_n hx hb dX0_sizeOf_1 rfl (lv_at hl 0 rfl) ?_
  refine z_cSi (As := [.long x0]) (rest := [.int (4 : Int32)]) X (c_X0_lengthOf l dC dI cI cJ cS   x0 _ hf) zc_X0_lengthOf q_ml_X0_9 ⟨rfl, rfl⟩ ⟨Nat.le_of_ble_eq_true rfl, Nat.le_of_ble_eq_true rfl⟩ hP [] rfl hl.1 rfl rfl (Nat.le_of_ble_eq_true rfl) ⟨Nat.zero_le _, Nat.zero_le _⟩ dX0_sizeOf_2 (fun r_1 hf => ?_)
  refine lv_iadd hx hb dX0_sizeOf_5 ?_
  exact z_retPi X hf dX0_sizeOf_6
def s_X0_sizeOf (x0 : Int64) (Q : Int32 → Prop) : Prop := Q (4 + cLen x0)
theorem st_X0_sizeOf {x0 : Int64} {Q : Int32 → Prop} (h : s_X0_sizeOf x0 Q) : t_X0_sizeOf x0 Q := h
theorem c_X0_sizeOf (l : Launch) (dC : Nat → ClassId) (dI : Nat → Nat → Nat) (cI cJ cS : ClassId) (x0 : Int64) (Q : Int32 → Prop) (hf : s_X0_sizeOf x0 Q) : Met l yX0_sizeOf (Cond.code yX0_sizeOf cX0_sizeOf 2 (some .int) :: zT) rm_X0_sizeOf (zPp dC dI cI cJ cS ([]) [.long x0]) (vp_Si Q) 0 0 (fun _ => False) := L_X0_sizeOf l dC dI cI cJ cS x0 Q (st_X0_sizeOf hf)

def t_X0_isDrop (x0 : Int64) (Q : Int32 → Prop) : Prop := ((¬ (lg_cmp (x0 &&& (16128 : Int64)) (0 : Int64)) = 0 → Q (0 : Int32)) ∧ ((lg_cmp (x0 &&& (16128 : Int64)) (0 : Int64)) = 0 → Q (1 : Int32)))
theorem zc_X0_isDrop : zCalS yX0_isDrop cX0_isDrop 2 (some .boolean) 1 := ⟨q_st_X0_isDrop, q_in_X0, q_cd_X0_isDrop, ⟨by decide, by decide, by decide +kernel⟩⟩
abbrev rm_X0_isDrop : Room := { frames := 0, cells := 0, slots := 0, locals := 0 }
set_option maxHeartbeats 4000000 in
set_option maxRecDepth 100000 in
theorem L_X0_isDrop (l : Launch) (dC : Nat → ClassId) (dI : Nat → Nat → Nat) (cI cJ cS : ClassId) (x0 : Int64) (Q : Int32 → Prop) (hf : t_X0_isDrop x0 Q) : Met l yX0_isDrop (Cond.code yX0_isDrop cX0_isDrop 2 (some .boolean) :: zT) rm_X0_isDrop (zPp dC dI cI cJ cS ([]) [.long x0]) (vp_Si (fun r => (r = 0 ∨ r = 1) ∧ Q r)) 0 0 (fun _ => False) := by
  refine z_enterP (cc := cX0_isDrop) (maxL := 2) (ret := (some .boolean)) (by decide) (Nat.le_of_ble_eq_true rfl) ?_
  intro p e s m below meth c ls X hP hl
  obtain ⟨⟨hx, hb, hml, hown, hts⟩, hr, hlk, hK⟩ := id X
  have hl : lv_has ls 2 [(0, .long x0)] := hl
  unfold t_X0_isDrop at hf
  refine lv_lload_n hx hb dX0_isDrop_0 rfl (lv_at hl 0 rfl) ?_
  refine lv_ldc2 (v := (16128)) hx hb hown (hts _ q_k_X0_15) dX0_isDrop_1 ?_
  refine lv_land hx hb dX0_isDrop_4 ?_
  refine lv_lconst (v := 0) hx hb dX0_isDrop_5 (by decide) ?_
  refine W.lcmp hx hb dX0_isDrop_6 ?_
  refine lv_if_ne (tgt := 14) hx hb dX0_isDrop_7 (by decide) (fun c_1 => ?_) (fun c_1 => ?_)
  · have hf := hf.1 c_1
    refine lv_iconst (v := 0) hx hb dX0_isDrop_14 (by decide) ?_
    exact z_retPz X (Or.inl rfl) hf dX0_isDrop_15
  · have hf := hf.2 c_1
    refine lv_iconst (v := 1) hx hb dX0_isDrop_10 (by decide) ?_
    refine lv_goto (tgt := 15) hx hb dX0_isDrop_11 (by decide) ?_
    exact z_retPz X (Or.inr rfl) hf dX0_isDrop_15
abbrev cDrop (x0 : Int64) : Prop := x0 &&& 16128 = 0
def s_X0_isDrop (x0 : Int64) (Q : Int32 → Prop) : Prop := (cDrop x0 → Q 1) ∧ (¬ cDrop x0 → Q 0)
theorem st_X0_isDrop {x0 : Int64} {Q : Int32 → Prop} (h : s_X0_isDrop x0 Q) : t_X0_isDrop x0 Q := ⟨fun c => h.2 (fun q => c ((lc_eq _ _).mpr q)), fun c => h.1 ((lc_eq _ _).mp c)⟩
theorem c_X0_isDrop (l : Launch) (dC : Nat → ClassId) (dI : Nat → Nat → Nat) (cI cJ cS : ClassId) (x0 : Int64) (Q : Int32 → Prop) (hf : s_X0_isDrop x0 Q) : Met l yX0_isDrop (Cond.code yX0_isDrop cX0_isDrop 2 (some .boolean) :: zT) rm_X0_isDrop (zPp dC dI cI cJ cS ([]) [.long x0]) (vp_Si (fun r => (r = 0 ∨ r = 1) ∧ Q r)) 0 0 (fun _ => False) := L_X0_isDrop l dC dI cI cJ cS x0 Q (st_X0_isDrop hf)

def s_X7_copyFrom (u : zTerms) (v : zTerms) (Q : zTerms × zTerms → Prop) : Prop := ∀ x_1 : Int32, x_1 = v.1 → ∀ x_2 : Int32, x_2 = v.2.1 → ∀ x_3 : Int32, x_3 = v.2.2.1 → ∀ x_4 : Int32, x_4 = v.2.2.2 → Q ((x_1, x_2, x_3, x_4), v)
theorem zc_X7_copyFrom : zCalV RX7 yX7_copyFrom cX7_copyFrom 2 none 1 := ⟨q_im_X7_copyFrom, q_se_X7_copyFrom, q_in_X7, q_cd_X7_copyFrom, ⟨by decide, by decide, by decide +kernel⟩, rfl⟩
abbrev rm_X7_copyFrom : Room := { frames := 0, cells := 0, slots := 0, locals := 0 }
set_option maxHeartbeats 4000000 in
set_option maxRecDepth 100000 in
theorem c_X7_copyFrom (l : Launch) (dC : Nat → ClassId) (dI : Nat → Nat → Nat) (cI cJ cS : ClassId) (a : Nat → Nat) (b : Nat → Nat) (u : zTerms) (v : zTerms) (Q : zTerms × zTerms → Prop) (hf : s_X7_copyFrom u v Q) : ∀ sz : Nat, Met l yX7_copyFrom (Cond.code yX7_copyFrom cX7_copyFrom 2 none :: zT) rm_X7_copyFrom (zPm dC dI cI cJ cS (cl_X7 cI cJ a u ++ cl_X7 cI cJ b v) [.ref (a 0), .ref (b 0)] sz) (va_Qv Q (zB dC dI cI cJ cS (va_A (cl_X7 cI cJ a u ++ cl_X7 cI cJ b v) sz) (fun z => cl_X7 cI cJ a z.1 ++ cl_X7 cI cJ b z.2)) (va_A (cl_X7 cI cJ a u ++ cl_X7 cI cJ b v) sz)) 0 0 (va_A (cl_X7 cI cJ a u ++ cl_X7 cI cJ b v) sz) := by
  intro sz
  refine z_enterM (Qc := fun A => va_Qv Q (zB dC dI cI cJ cS A (fun z => cl_X7 cI cJ a z.1 ++ cl_X7 cI cJ b z.2)) A) (cc := cX7_copyFrom) (maxL := 2) (ret := none) (by decide) (Nat.le_of_ble_eq_true rfl) ?_
  intro p e s m below meth c ls A X hP hD hS hA hl
  obtain ⟨⟨hx, hb, hml, hown, hts⟩, hr, hlk, hK⟩ := id X
  have hl : lv_has ls 2 [(0, .ref (a 0)), (1, .ref (b 0))] := hl
  unfold s_X7_copyFrom at hf
  refine lv_aload_n hx hb dX7_copyFrom_0 rfl (lv_at hl 0 rfl) ?_
  refine lv_aload_n hx hb dX7_copyFrom_1 rfl (lv_at hl 1 rfl) ?_
  refine va_get (D := (dC, dI)) (ci := 6) (v := .int v.1) (C := RX7) (T := TX7) (N := 4) hx hb hts inX7 hown hK hP 1 rfl rfl 0 (by decide) (hts _ q_fl_X7_7) (fun _ h9 => h9) rfl dX7_copyFrom_2 ?_
  refine lv_topi (fun x_1 ex_1 => ?_)
  have hf := hf x_1 ex_1
  refine z_put (w' := cl_X7 cI cJ a (x_1, u.2.1, u.2.2.1, u.2.2.2) ++ cl_X7 cI cJ b v) (ci := 6) (v := .int x_1) (ty := .int) (Cn := RX7) (T := TX7) (N := 4) X inX7 tyX7 tyX7_ok nmX7 hP hD hS 0 rfl rfl 0 (by decide) (hts _ q_fl_X7_7) (fun _ h9 => h9) rfl (tyX7_ok 0 (by decide)) rfl rfl (Nat.le_of_ble_eq_true rfl) rfl dX7_copyFrom_5 (fun H locs hP hD hS => ?_)
  refine lv_aload_n hx hb dX7_copyFrom_8 rfl (lv_at hl 0 rfl) ?_
  refine lv_aload_n hx hb dX7_copyFrom_9 rfl (lv_at hl 1 rfl) ?_
  refine va_get (D := (dC, dI)) (ci := 6) (v := .int v.2.1) (C := RX7) (T := TX7) (N := 4) hx hb hts inX7 hown hK hP 1 rfl rfl 1 (by decide) (hts _ q_fl_X7_13) (fun _ h9 => h9) rfl dX7_copyFrom_10 ?_
  refine lv_topi (fun x_2 ex_2 => ?_)
  have hf := hf x_2 ex_2
  refine z_put (w' := cl_X7 cI cJ a (x_1, x_2, u.2.2.1, u.2.2.2) ++ cl_X7 cI cJ b v) (ci := 6) (v := .int x_2) (ty := .int) (Cn := RX7) (T := TX7) (N := 4) X inX7 tyX7 tyX7_ok nmX7 hP hD hS 0 rfl rfl 1 (by decide) (hts _ q_fl_X7_13) (fun _ h9 => h9) rfl (tyX7_ok 1 (by decide)) rfl rfl (Nat.le_of_ble_eq_true rfl) rfl dX7_copyFrom_13 (fun H locs hP hD hS => ?_)
  refine lv_aload_n hx hb dX7_copyFrom_16 rfl (lv_at hl 0 rfl) ?_
  refine lv_aload_n hx hb dX7_copyFrom_17 rfl (lv_at hl 1 rfl) ?_
  refine va_get (D := (dC, dI)) (ci := 6) (v := .int v.2.2.1) (C := RX7) (T := TX7) (N := 4) hx hb hts inX7 hown hK hP 1 rfl rfl 2 (by decide) (hts _ q_fl_X7_16) (fun _ h9 => h9) rfl dX7_copyFrom_18 ?_
  refine lv_topi (fun x_3 ex_3 => ?_)
  have hf := hf x_3 ex_3
  refine z_put (w' := cl_X7 cI cJ a (x_1, x_2, x_3, u.2.2.2) ++ cl_X7 cI cJ b v) (ci := 6) (v := .int x_3) (ty := .int) (Cn := RX7) (T := TX7) (N := 4) X inX7 tyX7 tyX7_ok nmX7 hP hD hS 0 rfl rfl 2 (by decide) (hts _ q_fl_X7_16) (fun _ h9 => h9) rfl (tyX7_ok 2 (by decide)) rfl rfl (Nat.le_of_ble_eq_true rfl) rfl dX7_copyFrom_21 (fun H locs hP hD hS => ?_)
  refine lv_aload_n hx hb dX7_copyFrom_24 rfl (lv_at hl 0 rfl) ?_
  refine lv_aload_n hx hb dX7_copyFrom_25 rfl (lv_at hl 1 rfl) ?_
  refine va_get (D := (dC, dI)) (ci := 6) (v := .int v.2.2.2) (C := RX7) (T := TX7) (N := 4) hx hb hts inX7 hown hK hP 1 rfl rfl 3 (by decide) (hts _ q_fl_X7_19) (fun _ h9 => h9) rfl dX7_copyFrom_26 ?_
  refine lv_topi (fun x_4 ex_4 => ?_)
  have hf := hf x_4 ex_4
  refine z_put (w' := cl_X7 cI cJ a (x_1, x_2, x_3, x_4) ++ cl_X7 cI cJ b v) (ci := 6) (v := .int x_4) (ty := .int) (Cn := RX7) (T := TX7) (N := 4) X inX7 tyX7 tyX7_ok nmX7 hP hD hS 0 rfl rfl 3 (by decide) (hts _ q_fl_X7_19) (fun _ h9 => h9) rfl (tyX7_ok 3 (by decide)) rfl rfl (Nat.le_of_ble_eq_true rfl) rfl dX7_copyFrom_29 (fun H locs hP hD hS => ?_)
  exact z_retMv (Wf := (fun z => cl_X7 cI cJ a z.1 ++ cl_X7 cI cJ b z.2)) (u := ((x_1, x_2, x_3, x_4), v)) X hf hP hD hS dX7_copyFrom_32

def s_X8_copyFrom (u : zTotals) (v : zTotals) (Q : zTotals × zTotals → Prop) : Prop := ∀ x_1 : Int32, x_1 = v.1 → ∀ x_2 : Int32, x_2 = v.2.1 → ∀ x_3 : Int32, x_3 = v.2.2.1 → ∀ x_4 : Int32, x_4 = v.2.2.2.1 → ∀ x_5 : Int32, x_5 = v.2.2.2.2 → Q ((x_1, x_2, x_3, x_4, x_5), v)
theorem zc_X8_copyFrom : zCalV RX8 yX8_copyFrom cX8_copyFrom 2 none 1 := ⟨q_im_X8_copyFrom, q_se_X8_copyFrom, q_in_X8, q_cd_X8_copyFrom, ⟨by decide, by decide, by decide +kernel⟩, rfl⟩
abbrev rm_X8_copyFrom : Room := { frames := 0, cells := 0, slots := 0, locals := 0 }
set_option maxHeartbeats 4000000 in
set_option maxRecDepth 100000 in
theorem c_X8_copyFrom (l : Launch) (dC : Nat → ClassId) (dI : Nat → Nat → Nat) (cI cJ cS : ClassId) (a : Nat → Nat) (b : Nat → Nat) (u : zTotals) (v : zTotals) (Q : zTotals × zTotals → Prop) (hf : s_X8_copyFrom u v Q) : ∀ sz : Nat, Met l yX8_copyFrom (Cond.code yX8_copyFrom cX8_copyFrom 2 none :: zT) rm_X8_copyFrom (zPm dC dI cI cJ cS (cl_X8 cI cJ a u ++ cl_X8 cI cJ b v) [.ref (a 0), .ref (b 0)] sz) (va_Qv Q (zB dC dI cI cJ cS (va_A (cl_X8 cI cJ a u ++ cl_X8 cI cJ b v) sz) (fun z => cl_X8 cI cJ a z.1 ++ cl_X8 cI cJ b z.2)) (va_A (cl_X8 cI cJ a u ++ cl_X8 cI cJ b v) sz)) 0 0 (va_A (cl_X8 cI cJ a u ++ cl_X8 cI cJ b v) sz) := by
  intro sz
  refine z_enterM (Qc := fun A => va_Qv Q (zB dC dI cI cJ cS A (fun z => cl_X8 cI cJ a z.1 ++ cl_X8 cI cJ b z.2)) A) (cc := cX8_copyFrom) (maxL := 2) (ret := none) (by decide) (Nat.le_of_ble_eq_true rfl) ?_
  intro p e s m below meth c ls A X hP hD hS hA hl
  obtain ⟨⟨hx, hb, hml, hown, hts⟩, hr, hlk, hK⟩ := id X
  have hl : lv_has ls 2 [(0, .ref (a 0)), (1, .ref (b 0))] := hl
  unfold s_X8_copyFrom at hf
  refine lv_aload_n hx hb dX8_copyFrom_0 rfl (lv_at hl 0 rfl) ?_
  refine lv_aload_n hx hb dX8_copyFrom_1 rfl (lv_at hl 1 rfl) ?_
  refine va_get (D := (dC, dI)) (ci := 7) (v := .int v.1) (C := RX8) (T := TX8) (N := 5) hx hb hts inX8 hown hK hP 1 rfl rfl 0 (by decide) (hts _ q_fl_X8_7) (fun _ h9 => h9) rfl dX8_copyFrom_2 ?_
  refine lv_topi (fun x_1 ex_1 => ?_)
  have hf := hf x_1 ex_1
  refine z_put (w' := cl_X8 cI cJ a (x_1, u.2.1, u.2.2.1, u.2.2.2.1, u.2.2.2.2) ++ cl_X8 cI cJ b v) (ci := 7) (v := .int x_1) (ty := .int) (Cn := RX8) (T := TX8) (N := 5) X inX8 tyX8 tyX8_ok nmX8 hP hD hS 0 rfl rfl 0 (by decide) (hts _ q_fl_X8_7) (fun _ h9 => h9) rfl (tyX8_ok 0 (by decide)) rfl rfl (Nat.le_of_ble_eq_true rfl) rfl dX8_copyFrom_5 (fun H locs hP hD hS => ?_)
  refine lv_aload_n hx hb dX8_copyFrom_8 rfl (lv_at hl 0 rfl) ?_
  refine lv_aload_n hx hb dX8_copyFrom_9 rfl (lv_at hl 1 rfl) ?_
  refine va_get (D := (dC, dI)) (ci := 7) (v := .int v.2.1) (C := RX8) (T := TX8) (N := 5) hx hb hts inX8 hown hK hP 1 rfl rfl 1 (by decide) (hts _ q_fl_X8_13) (fun _ h9 => h9) rfl dX8_copyFrom_10 ?_
  refine lv_topi (fun x_2 ex_2 => ?_)
  have hf := hf x_2 ex_2
  refine z_put (w' := cl_X8 cI cJ a (x_1, x_2, u.2.2.1, u.2.2.2.1, u.2.2.2.2) ++ cl_X8 cI cJ b v) (ci := 7) (v := .int x_2) (ty := .int) (Cn := RX8) (T := TX8) (N := 5) X inX8 tyX8 tyX8_ok nmX8 hP hD hS 0 rfl rfl 1 (by decide) (hts _ q_fl_X8_13) (fun _ h9 => h9) rfl (tyX8_ok 1 (by decide)) rfl rfl (Nat.le_of_ble_eq_true rfl) rfl dX8_copyFrom_13 (fun H locs hP hD hS => ?_)
  refine lv_aload_n hx hb dX8_copyFrom_16 rfl (lv_at hl 0 rfl) ?_
  refine lv_aload_n hx hb dX8_copyFrom_17 rfl (lv_at hl 1 rfl) ?_
  refine va_get (D := (dC, dI)) (ci := 7) (v := .int v.2.2.1) (C := RX8) (T := TX8) (N := 5) hx hb hts inX8 hown hK hP 1 rfl rfl 2 (by decide) (hts _ q_fl_X8_16) (fun _ h9 => h9) rfl dX8_copyFrom_18 ?_
  refine lv_topi (fun x_3 ex_3 => ?_)
  have hf := hf x_3 ex_3
  refine z_put (w' := cl_X8 cI cJ a (x_1, x_2, x_3, u.2.2.2.1, u.2.2.2.2) ++ cl_X8 cI cJ b v) (ci := 7) (v := .int x_3) (ty := .int) (Cn := RX8) (T := TX8) (N := 5) X inX8 tyX8 tyX8_ok nmX8 hP hD hS 0 rfl rfl 2 (by decide) (hts _ q_fl_X8_16) (fun _ h9 => h9) rfl (tyX8_ok 2 (by decide)) rfl rfl (Nat.le_of_ble_eq_true rfl) rfl dX8_copyFrom_21 (fun H locs hP hD hS => ?_)
  refine lv_aload_n hx hb dX8_copyFrom_24 rfl (lv_at hl 0 rfl) ?_
  refine lv_aload_n hx hb dX8_copyFrom_25 rfl (lv_at hl 1 rfl) ?_
  refine va_get (D := (dC, dI)) (ci := 7) (v := .int v.2.2.2.1) (C := RX8) (T := TX8) (N := 5) hx hb hts inX8 hown hK hP 1 rfl rfl 3 (by decide) (hts _ q_fl_X8_19) (fun _ h9 => h9) rfl dX8_copyFrom_26 ?_
  refine lv_topi (fun x_4 ex_4 => ?_)
  have hf := hf x_4 ex_4
  refine z_put (w' := cl_X8 cI cJ a (x_1, x_2, x_3, x_4, u.2.2.2.2) ++ cl_X8 cI cJ b v) (ci := 7) (v := .int x_4) (ty := .int) (Cn := RX8) (T := TX8) (N := 5) X inX8 tyX8 tyX8_ok nmX8 hP hD hS 0 rfl rfl 3 (by decide) (hts _ q_fl_X8_19) (fun _ h9 => h9) rfl (tyX8_ok 3 (by decide)) rfl rfl (Nat.le_of_ble_eq_true rfl) rfl dX8_copyFrom_29 (fun H locs hP hD hS => ?_)
  refine lv_aload_n hx hb dX8_copyFrom_32 rfl (lv_at hl 0 rfl) ?_
  refine lv_aload_n hx hb dX8_copyFrom_33 rfl (lv_at hl 1 rfl) ?_
  refine va_get (D := (dC, dI)) (ci := 7) (v := .int v.2.2.2.2) (C := RX8) (T := TX8) (N := 5) hx hb hts inX8 hown hK hP 1 rfl rfl 4 (by decide) (hts _ q_fl_X8_22) (fun _ h9 => h9) rfl dX8_copyFrom_34 ?_
  refine lv_topi (fun x_5 ex_5 => ?_)
  have hf := hf x_5 ex_5
  refine z_put (w' := cl_X8 cI cJ a (x_1, x_2, x_3, x_4, x_5) ++ cl_X8 cI cJ b v) (ci := 7) (v := .int x_5) (ty := .int) (Cn := RX8) (T := TX8) (N := 5) X inX8 tyX8 tyX8_ok nmX8 hP hD hS 0 rfl rfl 4 (by decide) (hts _ q_fl_X8_22) (fun _ h9 => h9) rfl (tyX8_ok 4 (by decide)) rfl rfl (Nat.le_of_ble_eq_true rfl) rfl dX8_copyFrom_37 (fun H locs hP hD hS => ?_)
  exact z_retMv (Wf := (fun z => cl_X8 cI cJ a z.1 ++ cl_X8 cI cJ b z.2)) (u := ((x_1, x_2, x_3, x_4, x_5), v)) X hf hP hD hS dX8_copyFrom_40

def s_X8_clear (u : zTotals) (Q : zTotals → Prop) : Prop := Q ((0 : Int32), (0 : Int32), (0 : Int32), (0 : Int32), (0 : Int32))
theorem zc_X8_clear : zCalV RX8 yX8_clear cX8_clear 1 none 0 := ⟨q_im_X8_clear, q_se_X8_clear, q_in_X8, q_cd_X8_clear, ⟨by decide, by decide, by decide +kernel⟩, rfl⟩
abbrev rm_X8_clear : Room := { frames := 0, cells := 0, slots := 0, locals := 0 }
set_option maxHeartbeats 4000000 in
set_option maxRecDepth 100000 in
theorem c_X8_clear (l : Launch) (dC : Nat → ClassId) (dI : Nat → Nat → Nat) (cI cJ cS : ClassId) (a : Nat → Nat) (u : zTotals) (Q : zTotals → Prop) (hf : s_X8_clear u Q) : ∀ sz : Nat, Met l yX8_clear (Cond.code yX8_clear cX8_clear 1 none :: zT) rm_X8_clear (zPm dC dI cI cJ cS (cl_X8 cI cJ a u) [.ref (a 0)] sz) (va_Qv Q (zB dC dI cI cJ cS (va_A (cl_X8 cI cJ a u) sz) (fun z => cl_X8 cI cJ a z)) (va_A (cl_X8 cI cJ a u) sz)) 0 0 (va_A (cl_X8 cI cJ a u) sz) := by
  intro sz
  refine z_enterM (Qc := fun A => va_Qv Q (zB dC dI cI cJ cS A (fun z => cl_X8 cI cJ a z)) A) (cc := cX8_clear) (maxL := 1) (ret := none) (by decide) (Nat.le_of_ble_eq_true rfl) ?_
  intro p e s m below meth c ls A X hP hD hS hA hl
  obtain ⟨⟨hx, hb, hml, hown, hts⟩, hr, hlk, hK⟩ := id X
  have hl : lv_has ls 1 [(0, .ref (a 0))] := hl
  unfold s_X8_clear at hf
  refine lv_aload_n hx hb dX8_clear_0 rfl (lv_at hl 0 rfl) ?_
  refine lv_iconst (v := 0) hx hb dX8_clear_1 (by decide) ?_
  refine z_put (w' := cl_X8 cI cJ a ((0 : Int32), u.2.1, u.2.2.1, u.2.2.2.1, u.2.2.2.2)) (ci := 7) (v := .int (0 : Int32)) (ty := .int) (Cn := RX8) (T := TX8) (N := 5) X inX8 tyX8 tyX8_ok nmX8 hP hD hS 0 rfl rfl 0 (by decide) (hts _ q_fl_X8_7) (fun _ h9 => h9) rfl (tyX8_ok 0 (by decide)) rfl rfl (Nat.le_of_ble_eq_true rfl) rfl dX8_clear_2 (fun H locs hP hD hS => ?_)
  refine lv_aload_n hx hb dX8_clear_5 rfl (lv_at hl 0 rfl) ?_
  refine lv_iconst (v := 0) hx hb dX8_clear_6 (by decide) ?_
  refine z_put (w' := cl_X8 cI cJ a ((0 : Int32), (0 : Int32), u.2.2.1, u.2.2.2.1, u.2.2.2.2)) (ci := 7) (v := .int (0 : Int32)) (ty := .int) (Cn := RX8) (T := TX8) (N := 5) X inX8 tyX8 tyX8_ok nmX8 hP hD hS 0 rfl rfl 1 (by decide) (hts _ q_fl_X8_13) (fun _ h9 => h9) rfl (tyX8_ok 1 (by decide)) rfl rfl (Nat.le_of_ble_eq_true rfl) rfl dX8_clear_7 (fun H locs hP hD hS => ?_)
  refine lv_aload_n hx hb dX8_clear_10 rfl (lv_at hl 0 rfl) ?_
  refine lv_iconst (v := 0) hx hb dX8_clear_11 (by decide) ?_
  refine z_put (w' := cl_X8 cI cJ a ((0 : Int32), (0 : Int32), (0 : Int32), u.2.2.2.1, u.2.2.2.2)) (ci := 7) (v := .int (0 : Int32)) (ty := .int) (Cn := RX8) (T := TX8) (N := 5) X inX8 tyX8 tyX8_ok nmX8 hP hD hS 0 rfl rfl 2 (by decide) (hts _ q_fl_X8_16) (fun _ h9 => h9) rfl (tyX8_ok 2 (by decide)) rfl rfl (Nat.le_of_ble_eq_true rfl) rfl dX8_clear_12 (fun H locs hP hD hS => ?_)
  refine lv_aload_n hx hb dX8_clear_15 rfl (lv_at hl 0 rfl) ?_
  refine lv_iconst (v := 0) hx hb dX8_clear_16 (by decide) ?_
  refine z_put (w' := cl_X8 cI cJ a ((0 : Int32), (0 : Int32), (0 : Int32), (0 : Int32), u.2.2.2.2)) (ci := 7) (v := .int (0 : Int32)) (ty := .int) (Cn := RX8) (T := TX8) (N := 5) X inX8 tyX8 tyX8_ok nmX8 hP hD hS 0 rfl rfl 3 (by decide) (hts _ q_fl_X8_19) (fun _ h9 => h9) rfl (tyX8_ok 3 (by decide)) rfl rfl (Nat.le_of_ble_eq_true rfl) rfl dX8_clear_17 (fun H locs hP hD hS => ?_)
  refine lv_aload_n hx hb dX8_clear_20 rfl (lv_at hl 0 rfl) ?_
  refine lv_iconst (v := 0) hx hb dX8_clear_21 (by decide) ?_
  refine z_put (w' := cl_X8 cI cJ a ((0 : Int32), (0 : Int32), (0 : Int32), (0 : Int32), (0 : Int32))) (ci := 7) (v := .int (0 : Int32)) (ty := .int) (Cn := RX8) (T := TX8) (N := 5) X inX8 tyX8 tyX8_ok nmX8 hP hD hS 0 rfl rfl 4 (by decide) (hts _ q_fl_X8_22) (fun _ h9 => h9) rfl (tyX8_ok 4 (by decide)) rfl rfl (Nat.le_of_ble_eq_true rfl) rfl dX8_clear_22 (fun H locs hP hD hS => ?_)
  exact z_retMv (Wf := (fun z => cl_X8 cI cJ a z)) (u := ((0 : Int32), (0 : Int32), (0 : Int32), (0 : Int32), (0 : Int32))) X hf hP hD hS dX8_clear_25

def s_X8_ample (u : zTotals) (Q : Int32 → Prop) : Prop := ((¬ u.2.1 = 0 → (¬ u.2.1.toInt64 = 0) ∧ Q ((((100 : Int64) * u.1.toInt64) / u.2.1.toInt64).toInt32)) ∧ (u.2.1 = 0 → Q (100 : Int32)))
theorem zc_X8_ample : zCalV RX8 yX8_ample cX8_ample 1 (some .int) 0 := ⟨q_im_X8_ample, q_se_X8_ample, q_in_X8, q_cd_X8_ample, ⟨by decide, by decide, by decide +kernel⟩, rfl⟩
abbrev rm_X8_ample : Room := { frames := 0, cells := 0, slots := 0, locals := 0 }
set_option maxHeartbeats 4000000 in
set_option maxRecDepth 100000 in
theorem c_X8_ample (l : Launch) (dC : Nat → ClassId) (dI : Nat → Nat → Nat) (cI cJ cS : ClassId) (a : Nat → Nat) (u : zTotals) (Q : Int32 → Prop) (hf : s_X8_ample u Q) : Met l yX8_ample (Cond.code yX8_ample cX8_ample 1 (some .int) :: zT) rm_X8_ample (zPp dC dI cI cJ cS (cl_X8 cI cJ a u) [.ref (a 0)]) (vp_Si Q) 0 0 (fun _ => False) := by
  refine z_enterP (cc := cX8_ample) (maxL := 1) (ret := (some .int)) (by decide) (Nat.le_of_ble_eq_true rfl) ?_
  intro p e s m below meth c ls X hP hl
  obtain ⟨⟨hx, hb, hml, hown, hts⟩, hr, hlk, hK⟩ := id X
  have hl : lv_has ls 1 [(0, .ref (a 0))] := hl
  unfold s_X8_ample at hf
  refine lv_aload_n hx hb dX8_ample_0 rfl (lv_at hl 0 rfl) ?_
  refine va_get (D := (dC, dI)) (ci := 7) (v := .int u.2.1) (C := RX8) (T := TX8) (N := 5) hx hb hts inX8 hown hK hP 0 rfl rfl 1 (by decide) (hts _ q_fl_X8_13) (fun _ h9 => h9) rfl dX8_ample_1 ?_
  refine lv_if_ne (tgt := 12) hx hb dX8_ample_4 (by decide) (fun c_1 => ?_) (fun c_1 => ?_)
  · have hf := hf.1 c_1
    refine lv_ldc2 (v := (100)) hx hb hown (hts _ q_k_X8_25) dX8_ample_12 ?_
    refine lv_aload_n hx hb dX8_ample_15 rfl (lv_at hl 0 rfl) ?_
    refine va_get (D := (dC, dI)) (ci := 7) (v := .int u.1) (C := RX8) (T := TX8) (N := 5) hx hb hts inX8 hown hK hP 0 rfl rfl 0 (by decide) (hts _ q_fl_X8_7) (fun _ h9 => h9) rfl dX8_ample_16 ?_
    refine lv_i2l hx hb dX8_ample_19 rfl ?_
    refine lv_lmul hx hb dX8_ample_20 ?_
    refine lv_aload_n hx hb dX8_ample_21 rfl (lv_at hl 0 rfl) ?_
    refine va_get (D := (dC, dI)) (ci := 7) (v := .int u.2.1) (C := RX8) (T := TX8) (N := 5) hx hb hts inX8 hown hK hP 0 rfl rfl 1 (by decide) (hts _ q_fl_X8_13) (fun _ h9 => h9) rfl dX8_ample_22 ?_
    refine lv_i2l hx hb dX8_ample_25 rfl ?_
    obtain ⟨hg, hf⟩ := hf
    refine lv_ldiv hx hb dX8_ample_26 hg ?_
    refine lv_l2i hx hb dX8_ample_27 rfl ?_
    exact z_retPi X hf dX8_ample_28
  · have hf := hf.2 c_1
    refine lv_bipush (v := 100) hx hb dX8_ample_7 (by decide) ?_
    refine lv_goto (tgt := 28) hx hb dX8_ample_9 (by decide) ?_
    exact z_retPi X hf dX8_ample_28

def t_X1_copyFrom (u : zColl) (v : zColl) (Q : zColl × zColl → Prop) : Prop := (¬ (0 : Int32) < 0 ∧ ¬ (0 : Int32) < 0 ∧ ¬ (50 : Int32) < 0 ∧ (0 : Int32).toNatClampNeg + (50 : Int32).toNatClampNeg ≤ 50 ∧ (0 : Int32).toNatClampNeg + (50 : Int32).toNatClampNeg ≤ 50) ∧ ∃ f_1 : Nat → Int64, (∀ k : Nat, k < 50 → f_1 k = va_cpy v.1 u.1 (0 : Int32).toNatClampNeg (0 : Int32).toNatClampNeg (50 : Int32).toNatClampNeg k) ∧ ∀ x_2 : Int32, x_2 = v.2.1 → ∀ x_3 : Int32, x_3 = v.2.2.1 → ∀ x_4 : Int32, x_4 = v.2.2.2 → Q ((f_1, x_2, x_3, x_4), v)
theorem zc_X1_copyFrom : zCalV RX1 yX1_copyFrom cX1_copyFrom 2 none 1 := ⟨q_im_X1_copyFrom, q_se_X1_copyFrom, q_in_X1, q_cd_X1_copyFrom, ⟨by decide, by decide, by decide +kernel⟩, rfl⟩
abbrev rm_X1_copyFrom : Room := { frames := 1, cells := 0, slots := 0, locals := 48 }
set_option maxHeartbeats 4000000 in
set_option maxRecDepth 100000 in
theorem L_X1_copyFrom (l : Launch) (dC : Nat → ClassId) (dI : Nat → Nat → Nat) (cI cJ cS : ClassId) (a : Nat → Nat) (b : Nat → Nat) (u : zColl) (v : zColl) (Q : zColl × zColl → Prop) (hf : t_X1_copyFrom u v Q) : ∀ sz : Nat, Met l yX1_copyFrom (Cond.code yX1_copyFrom cX1_copyFrom 2 none :: zT) rm_X1_copyFrom (zPm dC dI cI cJ cS (cl_X1 cI cJ a u ++ cl_X1 cI cJ b v) [.ref (a 0), .ref (b 0)] sz) (va_Qv Q (zB dC dI cI cJ cS (va_A (cl_X1 cI cJ a u ++ cl_X1 cI cJ b v) sz) (fun z => cl_X1 cI cJ a z.1 ++ cl_X1 cI cJ b z.2)) (va_A (cl_X1 cI cJ a u ++ cl_X1 cI cJ b v) sz)) 0 0 (va_A (cl_X1 cI cJ a u ++ cl_X1 cI cJ b v) sz) := by
  intro sz
  refine z_enterM (Qc := fun A => va_Qv Q (zB dC dI cI cJ cS A (fun z => cl_X1 cI cJ a z.1 ++ cl_X1 cI cJ b z.2)) A) (cc := cX1_copyFrom) (maxL := 2) (ret := none) (by decide) (Nat.le_of_ble_eq_true rfl) ?_
  intro p e s m below meth c ls A X hP hD hS hA hl
  obtain ⟨⟨hx, hb, hml, hown, hts⟩, hr, hlk, hK⟩ := id X
  have hl : lv_has ls 2 [(0, .ref (a 0)), (1, .ref (b 0))] := hl
  unfold t_X1_copyFrom at hf
  refine lv_aload_n hx hb dX1_copyFrom_0 rfl (lv_at hl 1 rfl) ?_
  refine va_get (D := (dC, dI)) (ci := 0) (v := .ref (b 1)) (C := RX1) (T := TX1) (N := 4) hx hb hts inX1 hown hK hP 2 rfl rfl 0 (by decide) (hts _ q_fl_X1_9) (fun _ h9 => h9) rfl dX1_copyFrom_1 ?_
  refine lv_iconst (v := 0) hx hb dX1_copyFrom_4 (by decide) ?_
  refine lv_aload_n hx hb dX1_copyFrom_5 rfl (lv_at hl 0 rfl) ?_
  refine va_get (D := (dC, dI)) (ci := 0) (v := .ref (a 1)) (C := RX1) (T := TX1) (N := 4) hx hb hts inX1 hown hK hP 0 rfl rfl 0 (by decide) (hts _ q_fl_X1_9) (fun _ h9 => h9) rfl dX1_copyFrom_6 ?_
  refine lv_iconst (v := 0) hx hb dX1_copyFrom_9 (by decide) ?_
  refine lv_aload_n hx hb dX1_copyFrom_10 rfl (lv_at hl 0 rfl) ?_
  refine va_get (D := (dC, dI)) (ci := 0) (v := .ref (a 1)) (C := RX1) (T := TX1) (N := 4) hx hb hts inX1 hown hK hP 0 rfl rfl 0 (by decide) (hts _ q_fl_X1_9) (fun _ h9 => h9) rfl dX1_copyFrom_11 ?_
  refine va_alen (v := 50) hx hb hK hP 1 1 rfl (ty := .long) rfl rfl dX1_copyFrom_14 ?_
  obtain ⟨⟨g1, g2, g3, g4, g5⟩, f_1, ef_1, hf⟩ := hf
  refine z_copyl (Wn := fun f_1 => cl_X1 cI cJ a (f_1, u.2.1, u.2.2.1, u.2.2.2) ++ cl_X1 cI cJ b v) (idx := 19) X (hts _ q_ml_X1_19) (hts _ q_na_copy) (hts _ q_st_copy) (hts _ q_in_System) hl.1 hP hD hS 3 1 rfl rfl g1 g2 g3 g4 g5 (Nat.le_of_ble_eq_true rfl) (Nat.le_of_ble_eq_true rfl) (fun _ => rfl) f_1 ef_1 dX1_copyFrom_15 (fun H locs hP hD hS => ?_)
  refine lv_aload_n hx hb dX1_copyFrom_18 rfl (lv_at hl 0 rfl) ?_
  refine lv_aload_n hx hb dX1_copyFrom_19 rfl (lv_at hl 1 rfl) ?_
  refine va_get (D := (dC, dI)) (ci := 0) (v := .int v.2.1) (C := RX1) (T := TX1) (N := 4) hx hb hts inX1 hown hK hP 2 rfl rfl 1 (by decide) (hts _ q_fl_X1_15) (fun _ h9 => h9) rfl dX1_copyFrom_20 ?_
  refine lv_topi (fun x_2 ex_2 => ?_)
  have hf := hf x_2 ex_2
  refine z_put (w' := cl_X1 cI cJ a (f_1, x_2, u.2.2.1, u.2.2.2) ++ cl_X1 cI cJ b v) (ci := 0) (v := .int x_2) (ty := .int) (Cn := RX1) (T := TX1) (N := 4) X inX1 tyX1 tyX1_ok nmX1 hP hD hS 0 rfl rfl 1 (by decide) (hts _ q_fl_X1_15) (fun _ h9 => h9) rfl (tyX1_ok 1 (by decide)) rfl rfl (Nat.le_of_ble_eq_true rfl) rfl dX1_copyFrom_23 (fun H locs hP hD hS => ?_)
  refine lv_aload_n hx hb dX1_copyFrom_26 rfl (lv_at hl 0 rfl) ?_
  refine lv_aload_n hx hb dX1_copyFrom_27 rfl (lv_at hl 1 rfl) ?_
  refine va_get (D := (dC, dI)) (ci := 0) (v := .int v.2.2.1) (C := RX1) (T := TX1) (N := 4) hx hb hts inX1 hown hK hP 2 rfl rfl 2 (by decide) (hts _ q_fl_X1_25) (fun _ h9 => h9) rfl dX1_copyFrom_28 ?_
  refine lv_topi (fun x_3 ex_3 => ?_)
  have hf := hf x_3 ex_3
  refine z_put (w' := cl_X1 cI cJ a (f_1, x_2, x_3, u.2.2.2) ++ cl_X1 cI cJ b v) (ci := 0) (v := .int x_3) (ty := .int) (Cn := RX1) (T := TX1) (N := 4) X inX1 tyX1 tyX1_ok nmX1 hP hD hS 0 rfl rfl 2 (by decide) (hts _ q_fl_X1_25) (fun _ h9 => h9) rfl (tyX1_ok 2 (by decide)) rfl rfl (Nat.le_of_ble_eq_true rfl) rfl dX1_copyFrom_31 (fun H locs hP hD hS => ?_)
  refine lv_aload_n hx hb dX1_copyFrom_34 rfl (lv_at hl 0 rfl) ?_
  refine lv_aload_n hx hb dX1_copyFrom_35 rfl (lv_at hl 1 rfl) ?_
  refine va_get (D := (dC, dI)) (ci := 0) (v := .int v.2.2.2) (C := RX1) (T := TX1) (N := 4) hx hb hts inX1 hown hK hP 2 rfl rfl 3 (by decide) (hts _ q_fl_X1_28) (fun _ h9 => h9) rfl dX1_copyFrom_36 ?_
  refine lv_topi (fun x_4 ex_4 => ?_)
  have hf := hf x_4 ex_4
  refine z_put (w' := cl_X1 cI cJ a (f_1, x_2, x_3, x_4) ++ cl_X1 cI cJ b v) (ci := 0) (v := .int x_4) (ty := .int) (Cn := RX1) (T := TX1) (N := 4) X inX1 tyX1 tyX1_ok nmX1 hP hD hS 0 rfl rfl 3 (by decide) (hts _ q_fl_X1_28) (fun _ h9 => h9) rfl (tyX1_ok 3 (by decide)) rfl rfl (Nat.le_of_ble_eq_true rfl) rfl dX1_copyFrom_39 (fun H locs hP hD hS => ?_)
  exact z_retMv (Wf := (fun z => cl_X1 cI cJ a z.1 ++ cl_X1 cI cJ b z.2)) (u := ((f_1, x_2, x_3, x_4), v)) X hf hP hD hS dX1_copyFrom_42
theorem cpy_all0 {α : Type} (f g : Nat → α) {n : Nat} : ∀ k : Nat, k < n → f k = va_cpy f g 0 0 n k := fun k hk => by
  unfold va_cpy
  rw [if_pos (by omega), show 0 + (k - 0) = k by omega]
def s_X1_copyFrom (u v : zColl) (Q : zColl × zColl → Prop) : Prop := Q (v, v)
theorem st_X1_copyFrom {u v : zColl} {Q : zColl × zColl → Prop} (h : s_X1_copyFrom u v Q) : t_X1_copyFrom u v Q := by
  refine ⟨by decide, v.1, cpy_all0 v.1 u.1, fun x e x2 e2 x3 e3 => ?_⟩
  rw [e, e2, e3]; exact h
theorem c_X1_copyFrom (l : Launch) (dC : Nat → ClassId) (dI : Nat → Nat → Nat) (cI cJ cS : ClassId) (a : Nat → Nat) (b : Nat → Nat) (u : zColl) (v : zColl) (Q : zColl × zColl → Prop) (hf : s_X1_copyFrom u v Q) : ∀ sz : Nat, Met l yX1_copyFrom (Cond.code yX1_copyFrom cX1_copyFrom 2 none :: zT) rm_X1_copyFrom (zPm dC dI cI cJ cS (cl_X1 cI cJ a u ++ cl_X1 cI cJ b v) [.ref (a 0), .ref (b 0)] sz) (va_Qv Q (zB dC dI cI cJ cS (va_A (cl_X1 cI cJ a u ++ cl_X1 cI cJ b v) sz) (fun z => cl_X1 cI cJ a z.1 ++ cl_X1 cI cJ b z.2)) (va_A (cl_X1 cI cJ a u ++ cl_X1 cI cJ b v) sz)) 0 0 (va_A (cl_X1 cI cJ a u ++ cl_X1 cI cJ b v) sz) := L_X1_copyFrom l dC dI cI cJ cS a b u v Q (st_X1_copyFrom hf)

def s_X1_start (u : zColl) (x1 : Int32) (Q : zColl → Prop) : Prop := Q (u.1, x1, (0 : Int32), (0 : Int32))
theorem zc_X1_start : zCalV RX1 yX1_start cX1_start 2 none 1 := ⟨q_im_X1_start, q_se_X1_start, q_in_X1, q_cd_X1_start, ⟨by decide, by decide, by decide +kernel⟩, rfl⟩
abbrev rm_X1_start : Room := { frames := 0, cells := 0, slots := 0, locals := 0 }
set_option maxHeartbeats 4000000 in
set_option maxRecDepth 100000 in
theorem c_X1_start (l : Launch) (dC : Nat → ClassId) (dI : Nat → Nat → Nat) (cI cJ cS : ClassId) (a : Nat → Nat) (u : zColl) (x1 : Int32) (Q : zColl → Prop) (hf : s_X1_start u x1 Q) : ∀ sz : Nat, Met l yX1_start (Cond.code yX1_start cX1_start 2 none :: zT) rm_X1_start (zPm dC dI cI cJ cS (cl_X1 cI cJ a u) [.ref (a 0), .int x1] sz) (va_Qv Q (zB dC dI cI cJ cS (va_A (cl_X1 cI cJ a u) sz) (fun z => cl_X1 cI cJ a z)) (va_A (cl_X1 cI cJ a u) sz)) 0 0 (va_A (cl_X1 cI cJ a u) sz) := by
  intro sz
  refine z_enterM (Qc := fun A => va_Qv Q (zB dC dI cI cJ cS A (fun z => cl_X1 cI cJ a z)) A) (cc := cX1_start) (maxL := 2) (ret := none) (by decide) (Nat.le_of_ble_eq_true rfl) ?_
  intro p e s m below meth c ls A X hP hD hS hA hl
  obtain ⟨⟨hx, hb, hml, hown, hts⟩, hr, hlk, hK⟩ := id X
  have hl : lv_has ls 2 [(0, .ref (a 0)), (1, .int x1)] := hl
  unfold s_X1_start at hf
  refine lv_aload_n hx hb dX1_start_0 rfl (lv_at hl 0 rfl) ?_
  refine lv_iload_n hx hb dX1_start_1 rfl (lv_at hl 1 rfl) ?_
  refine z_put (w' := cl_X1 cI cJ a (u.1, x1, u.2.2.1, u.2.2.2)) (ci := 0) (v := .int x1) (ty := .int) (Cn := RX1) (T := TX1) (N := 4) X inX1 tyX1 tyX1_ok nmX1 hP hD hS 0 rfl rfl 1 (by decide) (hts _ q_fl_X1_15) (fun _ h9 => h9) rfl (tyX1_ok 1 (by decide)) rfl rfl (Nat.le_of_ble_eq_true rfl) rfl dX1_start_2 (fun H locs hP hD hS => ?_)
  refine lv_aload_n hx hb dX1_start_5 rfl (lv_at hl 0 rfl) ?_
  refine lv_iconst (v := 0) hx hb dX1_start_6 (by decide) ?_
  refine z_put (w' := cl_X1 cI cJ a (u.1, x1, (0 : Int32), u.2.2.2)) (ci := 0) (v := .int (0 : Int32)) (ty := .int) (Cn := RX1) (T := TX1) (N := 4) X inX1 tyX1 tyX1_ok nmX1 hP hD hS 0 rfl rfl 2 (by decide) (hts _ q_fl_X1_25) (fun _ h9 => h9) rfl (tyX1_ok 2 (by decide)) rfl rfl (Nat.le_of_ble_eq_true rfl) rfl dX1_start_7 (fun H locs hP hD hS => ?_)
  refine lv_aload_n hx hb dX1_start_10 rfl (lv_at hl 0 rfl) ?_
  refine lv_iconst (v := 0) hx hb dX1_start_11 (by decide) ?_
  refine z_put (w' := cl_X1 cI cJ a (u.1, x1, (0 : Int32), (0 : Int32))) (ci := 0) (v := .int (0 : Int32)) (ty := .int) (Cn := RX1) (T := TX1) (N := 4) X inX1 tyX1 tyX1_ok nmX1 hP hD hS 0 rfl rfl 3 (by decide) (hts _ q_fl_X1_28) (fun _ h9 => h9) rfl (tyX1_ok 3 (by decide)) rfl rfl (Nat.le_of_ble_eq_true rfl) rfl dX1_start_12 (fun H locs hP hD hS => ?_)
  exact z_retMv (Wf := (fun z => cl_X1 cI cJ a z)) (u := (u.1, x1, (0 : Int32), (0 : Int32))) X hf hP hD hS dX1_start_15

def s_X1_stop (u : zColl) (Q : zColl → Prop) : Prop := s_X1_start u (-1 : Int32) (fun (u_2 : zColl) => Q u_2)
theorem zc_X1_stop : zCalV RX1 yX1_stop cX1_stop 1 none 0 := ⟨q_im_X1_stop, q_se_X1_stop, q_in_X1, q_cd_X1_stop, ⟨by decide, by decide, by decide +kernel⟩, rfl⟩
abbrev rm_X1_stop : Room := { frames := 1, cells := 0, slots := 0, locals := 21 }
set_option maxHeartbeats 4000000 in
set_option maxRecDepth 100000 in
theorem c_X1_stop (l : Launch) (dC : Nat → ClassId) (dI : Nat → Nat → Nat) (cI cJ cS : ClassId) (a : Nat → Nat) (u : zColl) (Q : zColl → Prop) (hf : s_X1_stop u Q) : ∀ sz : Nat, Met l yX1_stop (Cond.code yX1_stop cX1_stop 1 none :: zT) rm_X1_stop (zPm dC dI cI cJ cS (cl_X1 cI cJ a u) [.ref (a 0)] sz) (va_Qv Q (zB dC dI cI cJ cS (va_A (cl_X1 cI cJ a u) sz) (fun z => cl_X1 cI cJ a z)) (va_A (cl_X1 cI cJ a u) sz)) 0 0 (va_A (cl_X1 cI cJ a u) sz) := by
  intro sz
  refine z_enterM (Qc := fun A => va_Qv Q (zB dC dI cI cJ cS A (fun z => cl_X1 cI cJ a z)) A) (cc := cX1_stop) (maxL := 1) (ret := none) (by decide) (Nat.le_of_ble_eq_true rfl) ?_
  intro p e s m below meth c ls A X hP hD hS hA hl
  obtain ⟨⟨hx, hb, hml, hown, hts⟩, hr, hlk, hK⟩ := id X
  have hl : lv_has ls 1 [(0, .ref (a 0))] := hl
  unfold s_X1_stop at hf
  refine lv_aload_n hx hb dX1_stop_0 rfl (lv_at hl 0 rfl) ?_
  refine lv_iconst (v := (-1)) hx hb dX1_stop_1 (by decide) ?_
  refine z_mVv (Wn := (fun u_2 => cl_X1 cI cJ a u_2)) (As := [.int (-1 : Int32)]) (rest := []) (wr := []) X (c_X1_start l dC dI cI cJ cS a u (-1 : Int32) _ hf _) zc_X1_start q_ml_X1_31 ⟨rfl, rfl⟩ ⟨Nat.le_of_ble_eq_true rfl, Nat.le_of_ble_eq_true rfl⟩ hP hD hS hA [0, 1] [] rfl (by decide) rfl (by decide) (by decide) [0, 1] (by decide) (fun _ => rfl) 0 rfl rfl hl.1 rfl rfl (Nat.le_of_ble_eq_true rfl) ⟨Nat.zero_le _, Nat.zero_le _⟩ dX1_stop_2 (fun u_2 H locs hf hP hD hS => ?_)
  exact z_retMv (Wf := (fun z => cl_X1 cI cJ a z)) (u := u_2) X hf hP hD hS dX1_stop_5

def s_X1_isOn (u : zColl) (Q : Int32 → Prop) : Prop := ((u.2.1 = (-1 : Int32) → Q (0 : Int32)) ∧ (¬ u.2.1 = (-1 : Int32) → Q (1 : Int32)))
theorem zc_X1_isOn : zCalV RX1 yX1_isOn cX1_isOn 1 (some .boolean) 0 := ⟨q_im_X1_isOn, q_se_X1_isOn, q_in_X1, q_cd_X1_isOn, ⟨by decide, by decide, by decide +kernel⟩, rfl⟩
abbrev rm_X1_isOn : Room := { frames := 0, cells := 0, slots := 0, locals := 0 }
set_option maxHeartbeats 4000000 in
set_option maxRecDepth 100000 in
theorem c_X1_isOn (l : Launch) (dC : Nat → ClassId) (dI : Nat → Nat → Nat) (cI cJ cS : ClassId) (a : Nat → Nat) (u : zColl) (Q : Int32 → Prop) (hf : s_X1_isOn u Q) : Met l yX1_isOn (Cond.code yX1_isOn cX1_isOn 1 (some .boolean) :: zT) rm_X1_isOn (zPp dC dI cI cJ cS (cl_X1 cI cJ a u) [.ref (a 0)]) (vp_Si (fun r => (r = 0 ∨ r = 1) ∧ Q r)) 0 0 (fun _ => False) := by
  refine z_enterP (cc := cX1_isOn) (maxL := 1) (ret := (some .boolean)) (by decide) (Nat.le_of_ble_eq_true rfl) ?_
  intro p e s m below meth c ls X hP hl
  obtain ⟨⟨hx, hb, hml, hown, hts⟩, hr, hlk, hK⟩ := id X
  have hl : lv_has ls 1 [(0, .ref (a 0))] := hl
  unfold s_X1_isOn at hf
  refine lv_aload_n hx hb dX1_isOn_0 rfl (lv_at hl 0 rfl) ?_
  refine va_get (D := (dC, dI)) (ci := 0) (v := .int u.2.1) (C := RX1) (T := TX1) (N := 4) hx hb hts inX1 hown hK hP 0 rfl rfl 1 (by decide) (hts _ q_fl_X1_15) (fun _ h9 => h9) rfl dX1_isOn_1 ?_
  refine lv_iconst (v := (-1)) hx hb dX1_isOn_4 (by decide) ?_
  refine lv_icmp_eq (tgt := 12) hx hb dX1_isOn_5 (by decide) (fun c_1 => ?_) (fun c_1 => ?_)
  · have hf := hf.1 c_1
    refine lv_iconst (v := 0) hx hb dX1_isOn_12 (by decide) ?_
    exact z_retPz X (Or.inl rfl) hf dX1_isOn_13
  · have hf := hf.2 c_1
    refine lv_iconst (v := 1) hx hb dX1_isOn_8 (by decide) ?_
    refine lv_goto (tgt := 13) hx hb dX1_isOn_9 (by decide) ?_
    exact z_retPz X (Or.inr rfl) hf dX1_isOn_13

def t_X1_note (u : zColl) (x1 : Int64) (Q : zColl → Prop) : Prop := ((u.2.2.1 < 0 → Q u) ∧ (¬ u.2.2.1 < 0 → (((50 : Int32) ≤ u.2.2.1 → Q u) ∧ (¬ (50 : Int32) ≤ u.2.2.1 → vp_in u.2.2.1 50 ∧ ∀ f_3 : Nat → Int64, f_3 = vp_updL u.1 u.2.2.1.toNatClampNeg x1 → ∀ x_4 : Int32, x_4 = (u.2.2.1 + (1 : Int32)) → Q (f_3, u.2.1, x_4, u.2.2.2)))))
theorem zc_X1_note : zCalV RX1 yX1_note cX1_note 3 none 1 := ⟨q_im_X1_note, q_se_X1_note, q_in_X1, q_cd_X1_note, ⟨by decide, by decide, by decide +kernel⟩, rfl⟩
abbrev rm_X1_note : Room := { frames := 0, cells := 0, slots := 0, locals := 0 }
set_option maxHeartbeats 4000000 in
set_option maxRecDepth 100000 in
theorem L_X1_note (l : Launch) (dC : Nat → ClassId) (dI : Nat → Nat → Nat) (cI cJ cS : ClassId) (a : Nat → Nat) (u : zColl) (x1 : Int64) (Q : zColl → Prop) (hf : t_X1_note u x1 Q) : ∀ sz : Nat, Met l yX1_note (Cond.code yX1_note cX1_note 3 none :: zT) rm_X1_note (zPm dC dI cI cJ cS (cl_X1 cI cJ a u) [.ref (a 0), .long x1] sz) (va_Qv Q (zB dC dI cI cJ cS (va_A (cl_X1 cI cJ a u) sz) (fun z => cl_X1 cI cJ a z)) (va_A (cl_X1 cI cJ a u) sz)) 0 0 (va_A (cl_X1 cI cJ a u) sz) := by
  intro sz
  refine z_enterM (Qc := fun A => va_Qv Q (zB dC dI cI cJ cS A (fun z => cl_X1 cI cJ a z)) A) (cc := cX1_note) (maxL := 3) (ret := none) (by decide) (Nat.le_of_ble_eq_true rfl) ?_
  intro p e s m below meth c ls A X hP hD hS hA hl
  obtain ⟨⟨hx, hb, hml, hown, hts⟩, hr, hlk, hK⟩ := id X
  have hl : lv_has ls 3 [(0, .ref (a 0)), (1, .long x1)] := hl
  unfold t_X1_note at hf
  refine lv_aload_n hx hb dX1_note_0 rfl (lv_at hl 0 rfl) ?_
  refine va_get (D := (dC, dI)) (ci := 0) (v := .int u.2.2.1) (C := RX1) (T := TX1) (N := 4) hx hb hts inX1 hown hK hP 0 rfl rfl 2 (by decide) (hts _ q_fl_X1_25) (fun _ h9 => h9) rfl dX1_note_1 ?_
  refine lv_if_lt (tgt := 39) hx hb dX1_note_4 (by decide) (fun c_1 => ?_) (fun c_1 => ?_)
  · have hf := hf.1 c_1
    exact z_retMv (Wf := (fun z => cl_X1 cI cJ a z)) (u := u) X hf hP hD hS dX1_note_39
  · have hf := hf.2 c_1
    refine lv_aload_n hx hb dX1_note_7 rfl (lv_at hl 0 rfl) ?_
    refine va_get (D := (dC, dI)) (ci := 0) (v := .int u.2.2.1) (C := RX1) (T := TX1) (N := 4) hx hb hts inX1 hown hK hP 0 rfl rfl 2 (by decide) (hts _ q_fl_X1_25) (fun _ h9 => h9) rfl dX1_note_8 ?_
    refine lv_aload_n hx hb dX1_note_11 rfl (lv_at hl 0 rfl) ?_
    refine va_get (D := (dC, dI)) (ci := 0) (v := .ref (a 1)) (C := RX1) (T := TX1) (N := 4) hx hb hts inX1 hown hK hP 0 rfl rfl 0 (by decide) (hts _ q_fl_X1_9) (fun _ h9 => h9) rfl dX1_note_12 ?_
    refine va_alen (v := 50) hx hb hK hP 1 1 rfl (ty := .long) rfl rfl dX1_note_15 ?_
    refine lv_icmp_ge (tgt := 39) hx hb dX1_note_16 (by decide) (fun c_2 => ?_) (fun c_2 => ?_)
    · have hf := hf.1 c_2
      exact z_retMv (Wf := (fun z => cl_X1 cI cJ a z)) (u := u) X hf hP hD hS dX1_note_39
    · have hf := hf.2 c_2
      refine lv_aload_n hx hb dX1_note_19 rfl (lv_at hl 0 rfl) ?_
      refine va_get (D := (dC, dI)) (ci := 0) (v := .ref (a 1)) (C := RX1) (T := TX1) (N := 4) hx hb hts inX1 hown hK hP 0 rfl rfl 0 (by decide) (hts _ q_fl_X1_9) (fun _ h9 => h9) rfl dX1_note_20 ?_
      refine lv_aload_n hx hb dX1_note_23 rfl (lv_at hl 0 rfl) ?_
      refine va_get (D := (dC, dI)) (ci := 0) (v := .int u.2.2.1) (C := RX1) (T := TX1) (N := 4) hx hb hts inX1 hown hK hP 0 rfl rfl 2 (by decide) (hts _ q_fl_X1_25) (fun _ h9 => h9) rfl dX1_note_24 ?_
      refine lv_lload_n hx hb dX1_note_27 rfl (lv_at hl 1 rfl) ?_
      obtain ⟨hg, hf⟩ := hf
      refine z_last (Wn := fun f_3 => cl_X1 cI cJ a (f_3, u.2.1, u.2.2.1, u.2.2.2)) X hP hD hS 1 1 rfl rfl hg (fun _ => rfl) dX1_note_28 (fun f_3 H locs ef_3 hP hD hS => ?_)
      have hf := hf f_3 ef_3
      refine lv_aload_n hx hb dX1_note_29 rfl (lv_at hl 0 rfl) ?_
      refine lv_dup hx hb dX1_note_30 rfl ?_
      refine va_get (D := (dC, dI)) (ci := 0) (v := .int u.2.2.1) (C := RX1) (T := TX1) (N := 4) hx hb hts inX1 hown hK hP 0 rfl rfl 2 (by decide) (hts _ q_fl_X1_25) (fun _ h9 => h9) rfl dX1_note_31 ?_
      refine lv_iconst (v := 1) hx hb dX1_note_34 (by decide) ?_
      refine lv_iadd hx hb dX1_note_35 ?_
      refine lv_topi (fun x_4 ex_4 => ?_)
      have hf := hf x_4 ex_4
      refine z_put (w' := cl_X1 cI cJ a (f_3, u.2.1, x_4, u.2.2.2)) (ci := 0) (v := .int x_4) (ty := .int) (Cn := RX1) (T := TX1) (N := 4) X inX1 tyX1 tyX1_ok nmX1 hP hD hS 0 rfl rfl 2 (by decide) (hts _ q_fl_X1_25) (fun _ h9 => h9) rfl (tyX1_ok 2 (by decide)) rfl rfl (Nat.le_of_ble_eq_true rfl) rfl dX1_note_36 (fun H locs hP hD hS => ?_)
      exact z_retMv (Wf := (fun z => cl_X1 cI cJ a z)) (u := (f_3, u.2.1, x_4, u.2.2.2)) X hf hP hD hS dX1_note_39
def s_X1_note (u : zColl) (x1 : Int64) (Q : zColl → Prop) : Prop := ∃ w : Nat, w < 50 ∧ u.2.2.1 = nI w ∧ Q (vp_updL u.1 w x1, u.2.1, nI (w + 1), u.2.2.2)
theorem st_X1_note {u : zColl} {x1 : Int64} {Q : zColl → Prop} (h : s_X1_note u x1 Q) : t_X1_note u x1 Q := by
  obtain ⟨w, hw, e, h⟩ := h
  unfold t_X1_note
  rw [e, nI_clamp (by omega)]
  refine ⟨fun c => absurd c (nI_pos (by omega)), fun _ => ⟨fun c => absurd c (ge50 hw), fun _ => ⟨vp_in_nI hw (by decide), fun f e1 x e2 => ?_⟩⟩⟩
  rw [e1, e2, nI_1]; exact h
theorem c_X1_note (l : Launch) (dC : Nat → ClassId) (dI : Nat → Nat → Nat) (cI cJ cS : ClassId) (a : Nat → Nat) (u : zColl) (x1 : Int64) (Q : zColl → Prop) (hf : s_X1_note u x1 Q) : ∀ sz : Nat, Met l yX1_note (Cond.code yX1_note cX1_note 3 none :: zT) rm_X1_note (zPm dC dI cI cJ cS (cl_X1 cI cJ a u) [.ref (a 0), .long x1] sz) (va_Qv Q (zB dC dI cI cJ cS (va_A (cl_X1 cI cJ a u) sz) (fun z => cl_X1 cI cJ a z)) (va_A (cl_X1 cI cJ a u) sz)) 0 0 (va_A (cl_X1 cI cJ a u) sz) := L_X1_note l dC dI cI cJ cS a u x1 Q (st_X1_note hf)

def s_X1_left (u : zColl) (Q : Int32 → Prop) : Prop := Q (u.2.2.1 - u.2.2.2)
theorem zc_X1_left : zCalV RX1 yX1_left cX1_left 1 (some .int) 0 := ⟨q_im_X1_left, q_se_X1_left, q_in_X1, q_cd_X1_left, ⟨by decide, by decide, by decide +kernel⟩, rfl⟩
abbrev rm_X1_left : Room := { frames := 0, cells := 0, slots := 0, locals := 0 }
set_option maxHeartbeats 4000000 in
set_option maxRecDepth 100000 in
theorem c_X1_left (l : Launch) (dC : Nat → ClassId) (dI : Nat → Nat → Nat) (cI cJ cS : ClassId) (a : Nat → Nat) (u : zColl) (Q : Int32 → Prop) (hf : s_X1_left u Q) : Met l yX1_left (Cond.code yX1_left cX1_left 1 (some .int) :: zT) rm_X1_left (zPp dC dI cI cJ cS (cl_X1 cI cJ a u) [.ref (a 0)]) (vp_Si Q) 0 0 (fun _ => False) := by
  refine z_enterP (cc := cX1_left) (maxL := 1) (ret := (some .int)) (by decide) (Nat.le_of_ble_eq_true rfl) ?_
  intro p e s m below meth c ls X hP hl
  obtain ⟨⟨hx, hb, hml, hown, hts⟩, hr, hlk, hK⟩ := id X
  have hl : lv_has ls 1 [(0, .ref (a 0))] := hl
  unfold s_X1_left at hf
  refine lv_aload_n hx hb dX1_left_0 rfl (lv_at hl 0 rfl) ?_
  refine va_get (D := (dC, dI)) (ci := 0) (v := .int u.2.2.1) (C := RX1) (T := TX1) (N := 4) hx hb hts inX1 hown hK hP 0 rfl rfl 2 (by decide) (hts _ q_fl_X1_25) (fun _ h9 => h9) rfl dX1_left_1 ?_
  refine lv_aload_n hx hb dX1_left_4 rfl (lv_at hl 0 rfl) ?_
  refine va_get (D := (dC, dI)) (ci := 0) (v := .int u.2.2.2) (C := RX1) (T := TX1) (N := 4) hx hb hts inX1 hown hK hP 0 rfl rfl 3 (by decide) (hts _ q_fl_X1_28) (fun _ h9 => h9) rfl dX1_left_5 ?_
  refine lv_isub hx hb dX1_left_8 ?_
  exact z_retPi X hf dX1_left_9

def t_X1_ahead (u : zColl) (x1 : Int32) (Q : Int64 → Prop) : Prop := ∀ x_1 : Int32, x_1 = (u.2.2.2 + x1) → ((x_1 < 0 → Q (0 : Int64)) ∧ (¬ x_1 < 0 → ((u.2.2.1 ≤ x_1 → Q (0 : Int64)) ∧ (¬ u.2.2.1 ≤ x_1 → ((x_1 < (50 : Int32) → vp_in x_1 50 ∧ Q (u.1 x_1.toNatClampNeg)) ∧ (¬ x_1 < (50 : Int32) → Q (0 : Int64)))))))
theorem zc_X1_ahead : zCalV RX1 yX1_ahead cX1_ahead 3 (some .long) 1 := ⟨q_im_X1_ahead, q_se_X1_ahead, q_in_X1, q_cd_X1_ahead, ⟨by decide, by decide, by decide +kernel⟩, rfl⟩
abbrev rm_X1_ahead : Room := { frames := 0, cells := 0, slots := 0, locals := 0 }
set_option maxHeartbeats 4000000 in
set_option maxRecDepth 100000 in
theorem L_X1_ahead (l : Launch) (dC : Nat → ClassId) (dI : Nat → Nat → Nat) (cI cJ cS : ClassId) (a : Nat → Nat) (u : zColl) (x1 : Int32) (Q : Int64 → Prop) (hf : t_X1_ahead u x1 Q) : Met l yX1_ahead (Cond.code yX1_ahead cX1_ahead 3 (some .long) :: zT) rm_X1_ahead (zPp dC dI cI cJ cS (cl_X1 cI cJ a u) [.ref (a 0), .int x1]) (vp_Sl Q) 0 0 (fun _ => False) := by
  refine z_enterP (cc := cX1_ahead) (maxL := 3) (ret := (some .long)) (by decide) (Nat.le_of_ble_eq_true rfl) ?_
  intro p e s m below meth c ls X hP hl
  obtain ⟨⟨hx, hb, hml, hown, hts⟩, hr, hlk, hK⟩ := id X
  have hl : lv_has ls 3 [(0, .ref (a 0)), (1, .int x1)] := hl
  unfold t_X1_ahead at hf
  refine lv_aload_n hx hb dX1_ahead_0 rfl (lv_at hl 0 rfl) ?_
  refine va_get (D := (dC, dI)) (ci := 0) (v := .int u.2.2.2) (C := RX1) (T := TX1) (N := 4) hx hb hts inX1 hown hK hP 0 rfl rfl 3 (by decide) (hts _ q_fl_X1_28) (fun _ h9 => h9) rfl dX1_ahead_1 ?_
  refine lv_iload_n hx hb dX1_ahead_4 rfl (lv_at hl 1 rfl) ?_
  refine lv_iadd hx hb dX1_ahead_5 ?_
  refine lv_topi (fun x_1 ex_1 => ?_)
  have hf := hf x_1 ex_1
  refine lv_istore_n (lv' := [(2, .int x_1), (0, .ref (a 0)), (1, .int x1)]) hx hb dX1_ahead_6 rfl hl (by decide) rfl (fun ls hl => ?_)
  refine lv_iload_n hx hb dX1_ahead_7 rfl (lv_at hl 0 rfl) ?_
  refine lv_if_lt (tgt := 28) hx hb dX1_ahead_8 (by decide) (fun c_2 => ?_) (fun c_2 => ?_)
  · have hf := hf.1 c_2
    refine lv_lconst (v := 0) hx hb dX1_ahead_28 (by decide) ?_
    refine lv_goto (tgt := 38) hx hb dX1_ahead_29 (by decide) ?_
    exact z_retPl X hf dX1_ahead_38
  · have hf := hf.2 c_2
    refine lv_iload_n hx hb dX1_ahead_11 rfl (lv_at hl 0 rfl) ?_
    refine lv_aload_n hx hb dX1_ahead_12 rfl (lv_at hl 1 rfl) ?_
    refine va_get (D := (dC, dI)) (ci := 0) (v := .int u.2.2.1) (C := RX1) (T := TX1) (N := 4) hx hb hts inX1 hown hK hP 0 rfl rfl 2 (by decide) (hts _ q_fl_X1_25) (fun _ h9 => h9) rfl dX1_ahead_13 ?_
    refine lv_icmp_ge (tgt := 28) hx hb dX1_ahead_16 (by decide) (fun c_3 => ?_) (fun c_3 => ?_)
    · have hf := hf.1 c_3
      refine lv_lconst (v := 0) hx hb dX1_ahead_28 (by decide) ?_
      refine lv_goto (tgt := 38) hx hb dX1_ahead_29 (by decide) ?_
      exact z_retPl X hf dX1_ahead_38
    · have hf := hf.2 c_3
      refine lv_iload_n hx hb dX1_ahead_19 rfl (lv_at hl 0 rfl) ?_
      refine lv_aload_n hx hb dX1_ahead_20 rfl (lv_at hl 1 rfl) ?_
      refine va_get (D := (dC, dI)) (ci := 0) (v := .ref (a 1)) (C := RX1) (T := TX1) (N := 4) hx hb hts inX1 hown hK hP 0 rfl rfl 0 (by decide) (hts _ q_fl_X1_9) (fun _ h9 => h9) rfl dX1_ahead_21 ?_
      refine va_alen (v := 50) hx hb hK hP 1 1 rfl (ty := .long) rfl rfl dX1_ahead_24 ?_
      refine lv_icmp_lt (tgt := 32) hx hb dX1_ahead_25 (by decide) (fun c_4 => ?_) (fun c_4 => ?_)
      · have hf := hf.1 c_4
        refine lv_aload_n hx hb dX1_ahead_32 rfl (lv_at hl 1 rfl) ?_
        refine va_get (D := (dC, dI)) (ci := 0) (v := .ref (a 1)) (C := RX1) (T := TX1) (N := 4) hx hb hts inX1 hown hK hP 0 rfl rfl 0 (by decide) (hts _ q_fl_X1_9) (fun _ h9 => h9) rfl dX1_ahead_33 ?_
        refine lv_iload_n hx hb dX1_ahead_36 rfl (lv_at hl 0 rfl) ?_
        obtain ⟨hg, hf⟩ := hf
        refine va_lald hx hb hK hP 1 1 rfl rfl hg dX1_ahead_37 ?_
        exact z_retPl X hf dX1_ahead_38
      · have hf := hf.2 c_4
        refine lv_lconst (v := 0) hx hb dX1_ahead_28 (by decide) ?_
        refine lv_goto (tgt := 38) hx hb dX1_ahead_29 (by decide) ?_
        exact z_retPl X hf dX1_ahead_38
def s_X1_ahead (u : zColl) (x1 : Int32) (Q : Int64 → Prop) : Prop := ∃ w x i : Nat, w ≤ 50 ∧ x + i < w ∧ u.2.2.1 = nI w ∧ u.2.2.2 = nI x ∧ x1 = nI i ∧ Q (u.1 (x + i))
theorem st_X1_ahead {u : zColl} {x1 : Int32} {Q : Int64 → Prop} (h : s_X1_ahead u x1 Q) : t_X1_ahead u x1 Q := by
  obtain ⟨w, x, i, hw, hi, ew, ex, rfl, h⟩ := h
  unfold t_X1_ahead
  rw [ew, ex]
  intro y e
  rw [nI_add] at e
  subst e
  refine ⟨fun c => absurd c (nI_pos (by omega)), fun _ => ⟨fun c => absurd c (nI_ge hi (by omega)), fun _ => ⟨fun _ => ⟨vp_in_nI (by omega) (by decide), ?_⟩, fun c => absurd (lt50 (by omega)) c⟩⟩⟩
  rw [nI_clamp (by omega)]; exact h
theorem c_X1_ahead (l : Launch) (dC : Nat → ClassId) (dI : Nat → Nat → Nat) (cI cJ cS : ClassId) (a : Nat → Nat) (u : zColl) (x1 : Int32) (Q : Int64 → Prop) (hf : s_X1_ahead u x1 Q) : Met l yX1_ahead (Cond.code yX1_ahead cX1_ahead 3 (some .long) :: zT) rm_X1_ahead (zPp dC dI cI cJ cS (cl_X1 cI cJ a u) [.ref (a 0), .int x1]) (vp_Sl Q) 0 0 (fun _ => False) := L_X1_ahead l dC dI cI cJ cS a u x1 Q (st_X1_ahead hf)

def t_X2_copyFrom (u : zDiary) (v : zDiary) (Q : zDiary × zDiary → Prop) : Prop := (¬ (0 : Int32) < 0 ∧ ¬ (0 : Int32) < 0 ∧ ¬ (90 : Int32) < 0 ∧ (0 : Int32).toNatClampNeg + (90 : Int32).toNatClampNeg ≤ 90 ∧ (0 : Int32).toNatClampNeg + (90 : Int32).toNatClampNeg ≤ 90) ∧ ∃ f_1 : Nat → Int32, (∀ k : Nat, k < 90 → f_1 k = va_cpy v.1 u.1 (0 : Int32).toNatClampNeg (0 : Int32).toNatClampNeg (90 : Int32).toNatClampNeg k) ∧ ∀ x_2 : Int32, x_2 = v.2 → Q ((f_1, x_2), v)
theorem zc_X2_copyFrom : zCalV RX2 yX2_copyFrom cX2_copyFrom 2 none 1 := ⟨q_im_X2_copyFrom, q_se_X2_copyFrom, q_in_X2, q_cd_X2_copyFrom, ⟨by decide, by decide, by decide +kernel⟩, rfl⟩
abbrev rm_X2_copyFrom : Room := { frames := 1, cells := 0, slots := 0, locals := 48 }
set_option maxHeartbeats 4000000 in
set_option maxRecDepth 100000 in
theorem L_X2_copyFrom (l : Launch) (dC : Nat → ClassId) (dI : Nat → Nat → Nat) (cI cJ cS : ClassId) (a : Nat → Nat) (b : Nat → Nat) (u : zDiary) (v : zDiary) (Q : zDiary × zDiary → Prop) (hf : t_X2_copyFrom u v Q) : ∀ sz : Nat, Met l yX2_copyFrom (Cond.code yX2_copyFrom cX2_copyFrom 2 none :: zT) rm_X2_copyFrom (zPm dC dI cI cJ cS (cl_X2 cI cJ a u ++ cl_X2 cI cJ b v) [.ref (a 0), .ref (b 0)] sz) (va_Qv Q (zB dC dI cI cJ cS (va_A (cl_X2 cI cJ a u ++ cl_X2 cI cJ b v) sz) (fun z => cl_X2 cI cJ a z.1 ++ cl_X2 cI cJ b z.2)) (va_A (cl_X2 cI cJ a u ++ cl_X2 cI cJ b v) sz)) 0 0 (va_A (cl_X2 cI cJ a u ++ cl_X2 cI cJ b v) sz) := by
  intro sz
  refine z_enterM (Qc := fun A => va_Qv Q (zB dC dI cI cJ cS A (fun z => cl_X2 cI cJ a z.1 ++ cl_X2 cI cJ b z.2)) A) (cc := cX2_copyFrom) (maxL := 2) (ret := none) (by decide) (Nat.le_of_ble_eq_true rfl) ?_
  intro p e s m below meth c ls A X hP hD hS hA hl
  obtain ⟨⟨hx, hb, hml, hown, hts⟩, hr, hlk, hK⟩ := id X
  have hl : lv_has ls 2 [(0, .ref (a 0)), (1, .ref (b 0))] := hl
  unfold t_X2_copyFrom at hf
  refine lv_aload_n hx hb dX2_copyFrom_0 rfl (lv_at hl 1 rfl) ?_
  refine va_get (D := (dC, dI)) (ci := 1) (v := .ref (b 1)) (C := RX2) (T := TX2) (N := 2) hx hb hts inX2 hown hK hP 2 rfl rfl 0 (by decide) (hts _ q_fl_X2_11) (fun _ h9 => h9) rfl dX2_copyFrom_1 ?_
  refine lv_iconst (v := 0) hx hb dX2_copyFrom_4 (by decide) ?_
  refine lv_aload_n hx hb dX2_copyFrom_5 rfl (lv_at hl 0 rfl) ?_
  refine va_get (D := (dC, dI)) (ci := 1) (v := .ref (a 1)) (C := RX2) (T := TX2) (N := 2) hx hb hts inX2 hown hK hP 0 rfl rfl 0 (by decide) (hts _ q_fl_X2_11) (fun _ h9 => h9) rfl dX2_copyFrom_6 ?_
  refine lv_iconst (v := 0) hx hb dX2_copyFrom_9 (by decide) ?_
  refine lv_aload_n hx hb dX2_copyFrom_10 rfl (lv_at hl 0 rfl) ?_
  refine va_get (D := (dC, dI)) (ci := 1) (v := .ref (a 1)) (C := RX2) (T := TX2) (N := 2) hx hb hts inX2 hown hK hP 0 rfl rfl 0 (by decide) (hts _ q_fl_X2_11) (fun _ h9 => h9) rfl dX2_copyFrom_11 ?_
  refine va_alen (v := 90) hx hb hK hP 1 0 rfl (ty := .int) rfl rfl dX2_copyFrom_14 ?_
  obtain ⟨⟨g1, g2, g3, g4, g5⟩, f_1, ef_1, hf⟩ := hf
  refine z_copyi (Wn := fun f_1 => cl_X2 cI cJ a (f_1, u.2) ++ cl_X2 cI cJ b v) (idx := 15) X (hts _ q_ml_X2_15) (hts _ q_na_copy) (hts _ q_st_copy) (hts _ q_in_System) hl.1 hP hD hS 3 1 rfl rfl g1 g2 g3 g4 g5 (Nat.le_of_ble_eq_true rfl) (Nat.le_of_ble_eq_true rfl) (fun _ => rfl) f_1 ef_1 dX2_copyFrom_15 (fun H locs hP hD hS => ?_)
  refine lv_aload_n hx hb dX2_copyFrom_18 rfl (lv_at hl 0 rfl) ?_
  refine lv_aload_n hx hb dX2_copyFrom_19 rfl (lv_at hl 1 rfl) ?_
  refine va_get (D := (dC, dI)) (ci := 1) (v := .int v.2) (C := RX2) (T := TX2) (N := 2) hx hb hts inX2 hown hK hP 2 rfl rfl 1 (by decide) (hts _ q_fl_X2_21) (fun _ h9 => h9) rfl dX2_copyFrom_20 ?_
  refine lv_topi (fun x_2 ex_2 => ?_)
  have hf := hf x_2 ex_2
  refine z_put (w' := cl_X2 cI cJ a (f_1, x_2) ++ cl_X2 cI cJ b v) (ci := 1) (v := .int x_2) (ty := .int) (Cn := RX2) (T := TX2) (N := 2) X inX2 tyX2 tyX2_ok nmX2 hP hD hS 0 rfl rfl 1 (by decide) (hts _ q_fl_X2_21) (fun _ h9 => h9) rfl (tyX2_ok 1 (by decide)) rfl rfl (Nat.le_of_ble_eq_true rfl) rfl dX2_copyFrom_23 (fun H locs hP hD hS => ?_)
  exact z_retMv (Wf := (fun z => cl_X2 cI cJ a z.1 ++ cl_X2 cI cJ b z.2)) (u := ((f_1, x_2), v)) X hf hP hD hS dX2_copyFrom_26
def s_X2_copyFrom (u v : zDiary) (Q : zDiary × zDiary → Prop) : Prop := Q (v, v)
theorem st_X2_copyFrom {u v : zDiary} {Q : zDiary × zDiary → Prop} (h : s_X2_copyFrom u v Q) : t_X2_copyFrom u v Q := by
  refine ⟨by decide, v.1, cpy_all0 v.1 u.1, fun x e => ?_⟩
  rw [e]; exact h
theorem c_X2_copyFrom (l : Launch) (dC : Nat → ClassId) (dI : Nat → Nat → Nat) (cI cJ cS : ClassId) (a : Nat → Nat) (b : Nat → Nat) (u : zDiary) (v : zDiary) (Q : zDiary × zDiary → Prop) (hf : s_X2_copyFrom u v Q) : ∀ sz : Nat, Met l yX2_copyFrom (Cond.code yX2_copyFrom cX2_copyFrom 2 none :: zT) rm_X2_copyFrom (zPm dC dI cI cJ cS (cl_X2 cI cJ a u ++ cl_X2 cI cJ b v) [.ref (a 0), .ref (b 0)] sz) (va_Qv Q (zB dC dI cI cJ cS (va_A (cl_X2 cI cJ a u ++ cl_X2 cI cJ b v) sz) (fun z => cl_X2 cI cJ a z.1 ++ cl_X2 cI cJ b z.2)) (va_A (cl_X2 cI cJ a u ++ cl_X2 cI cJ b v) sz)) 0 0 (va_A (cl_X2 cI cJ a u ++ cl_X2 cI cJ b v) sz) := L_X2_copyFrom l dC dI cI cJ cS a b u v Q (st_X2_copyFrom hf)

def s_X2_told (u : zDiary) (x1 : Int32) (x2 : Int32) (Q : Int32 → Prop) : Prop := ((x1 < 0 → Q (-1 : Int32)) ∧ (¬ x1 < 0 → ((u.2 ≤ x1 → Q (-1 : Int32)) ∧ (¬ u.2 ≤ x1 → (((30 : Int32) ≤ x1 → Q (-1 : Int32)) ∧ (¬ (30 : Int32) ≤ x1 → ((x2 < 0 → Q (-1 : Int32)) ∧ (¬ x2 < 0 → ((x2 < (3 : Int32) → vp_in ((x1 * (3 : Int32)) + x2) 90 ∧ Q (u.1 ((x1 * (3 : Int32)) + x2).toNatClampNeg)) ∧ (¬ x2 < (3 : Int32) → Q (-1 : Int32)))))))))))
theorem zc_X2_told : zCalV RX2 yX2_told cX2_told 3 (some .int) 2 := ⟨q_im_X2_told, q_se_X2_told, q_in_X2, q_cd_X2_told, ⟨by decide, by decide, by decide +kernel⟩, rfl⟩
abbrev rm_X2_told : Room := { frames := 0, cells := 0, slots := 0, locals := 0 }
set_option maxHeartbeats 4000000 in
set_option maxRecDepth 100000 in
theorem c_X2_told (l : Launch) (dC : Nat → ClassId) (dI : Nat → Nat → Nat) (cI cJ cS : ClassId) (a : Nat → Nat) (u : zDiary) (x1 : Int32) (x2 : Int32) (Q : Int32 → Prop) (hf : s_X2_told u x1 x2 Q) : Met l yX2_told (Cond.code yX2_told cX2_told 3 (some .int) :: zT) rm_X2_told (zPp dC dI cI cJ cS (cl_X2 cI cJ a u) [.ref (a 0), .int x1, .int x2]) (vp_Si Q) 0 0 (fun _ => False) := by
  refine z_enterP (cc := cX2_told) (maxL := 3) (ret := (some .int)) (by decide) (Nat.le_of_ble_eq_true rfl) ?_
  intro p e s m below meth c ls X hP hl
  obtain ⟨⟨hx, hb, hml, hown, hts⟩, hr, hlk, hK⟩ := id X
  have hl : lv_has ls 3 [(0, .ref (a 0)), (1, .int x1), (2, .int x2)] := hl
  unfold s_X2_told at hf
  refine lv_iload_n hx hb dX2_told_0 rfl (lv_at hl 1 rfl) ?_
  refine lv_if_lt (tgt := 27) hx hb dX2_told_1 (by decide) (fun c_1 => ?_) (fun c_1 => ?_)
  · have hf := hf.1 c_1
    refine lv_iconst (v := (-1)) hx hb dX2_told_27 (by decide) ?_
    exact z_retPi X hf dX2_told_28
  · have hf := hf.2 c_1
    refine lv_iload_n hx hb dX2_told_4 rfl (lv_at hl 1 rfl) ?_
    refine lv_aload_n hx hb dX2_told_5 rfl (lv_at hl 0 rfl) ?_
    refine va_get (D := (dC, dI)) (ci := 1) (v := .int u.2) (C := RX2) (T := TX2) (N := 2) hx hb hts inX2 hown hK hP 0 rfl rfl 1 (by decide) (hts _ q_fl_X2_21) (fun _ h9 => h9) rfl dX2_told_6 ?_
    refine lv_icmp_ge (tgt := 27) hx hb dX2_told_9 (by decide) (fun c_2 => ?_) (fun c_2 => ?_)
    · have hf := hf.1 c_2
      refine lv_iconst (v := (-1)) hx hb dX2_told_27 (by decide) ?_
      exact z_retPi X hf dX2_told_28
    · have hf := hf.2 c_2
      refine lv_iload_n hx hb dX2_told_12 rfl (lv_at hl 1 rfl) ?_
      refine lv_bipush (v := 30) hx hb dX2_told_13 (by decide) ?_
      refine lv_icmp_ge (tgt := 27) hx hb dX2_told_15 (by decide) (fun c_3 => ?_) (fun c_3 => ?_)
      · have hf := hf.1 c_3
        refine lv_iconst (v := (-1)) hx hb dX2_told_27 (by decide) ?_
        exact z_retPi X hf dX2_told_28
      · have hf := hf.2 c_3
        refine lv_iload_n hx hb dX2_told_18 rfl (lv_at hl 2 rfl) ?_
        refine lv_if_lt (tgt := 27) hx hb dX2_told_19 (by decide) (fun c_4 => ?_) (fun c_4 => ?_)
        · have hf := hf.1 c_4
          refine lv_iconst (v := (-1)) hx hb dX2_told_27 (by decide) ?_
          exact z_retPi X hf dX2_told_28
        · have hf := hf.2 c_4
          refine lv_iload_n hx hb dX2_told_22 rfl (lv_at hl 2 rfl) ?_
          refine lv_iconst (v := 3) hx hb dX2_told_23 (by decide) ?_
          refine lv_icmp_lt (tgt := 29) hx hb dX2_told_24 (by decide) (fun c_5 => ?_) (fun c_5 => ?_)
          · have hf := hf.1 c_5
            refine lv_aload_n hx hb dX2_told_29 rfl (lv_at hl 0 rfl) ?_
            refine va_get (D := (dC, dI)) (ci := 1) (v := .ref (a 1)) (C := RX2) (T := TX2) (N := 2) hx hb hts inX2 hown hK hP 0 rfl rfl 0 (by decide) (hts _ q_fl_X2_11) (fun _ h9 => h9) rfl dX2_told_30 ?_
            refine lv_iload_n hx hb dX2_told_33 rfl (lv_at hl 1 rfl) ?_
            refine lv_iconst (v := 3) hx hb dX2_told_34 (by decide) ?_
            refine lv_imul hx hb dX2_told_35 ?_
            refine lv_iload_n hx hb dX2_told_36 rfl (lv_at hl 2 rfl) ?_
            refine lv_iadd hx hb dX2_told_37 ?_
            obtain ⟨hg, hf⟩ := hf
            refine va_iald hx hb hK hP 1 0 rfl rfl hg dX2_told_38 ?_
            exact z_retPi X hf dX2_told_39
          · have hf := hf.2 c_5
            refine lv_iconst (v := (-1)) hx hb dX2_told_27 (by decide) ?_
            exact z_retPi X hf dX2_told_28
