/-! words for a State -/
/-- which segment is open, how many runs, how many records a segment has -/
def oN (u : zState) : Nat := u.2.2.1.2.2.2.2.toNatClampNeg
def rN (u : zState) : Nat := u.2.2.2.1.2.2.toNatClampNeg
def cN (u : zState) (s : Nat) : Nat := (u.2.2.1.2.1 s).toNatClampNeg
/-- what every method of a State may count on -/
def zOk (u : zState) : Prop := (u.2.2.1.2.2.2.2 = nI (oN u) ∧ oN u < 12) ∧ (u.2.2.2.1.2.2 = nI (rN u) ∧ rN u < 6) ∧ ∀ s, s < 12 → u.2.2.1.2.1 s = nI (cN u s) ∧ cN u s ≤ 50
theorem zOk.o {u : zState} (h : zOk u) : u.2.2.1.2.2.2.2 = nI (oN u) := h.1.1
theorem zOk.r {u : zState} (h : zOk u) : u.2.2.2.1.2.2 = nI (rN u) := h.2.1.1
theorem zOk.c {u : zState} (h : zOk u) {s : Nat} (hs : s < 12) : u.2.2.1.2.1 s = nI (cN u s) := (h.2.2 s hs).1
theorem zOk.cl {u : zState} (h : zOk u) {s : Nat} (hs : s < 12) : cN u s ≤ 50 := (h.2.2 s hs).2
/-- a number under a mask is small -/
theorem n_mask (x : Int32) (j : Nat) (hj : j < 31) : ∃ k : Nat, k < 2 ^ j ∧ x &&& nI (2 ^ j - 1) = nI k := by
  obtain ⟨n, rfl⟩ : ∃ n : Nat, x = nI n := ⟨x.toBitVec.toNat, by
    apply Int32.toBitVec_inj.mp
    show x.toBitVec = BitVec.ofNat 32 x.toBitVec.toNat
    simp⟩
  exact ⟨n % 2 ^ j, Nat.mod_lt _ (Nat.two_pow_pos j), fa_mask n j⟩
theorem cKey_lt (c : Int64) : ∃ k : Nat, k < 64 ∧ cKey c = nI k := n_mask _ 6 (by decide)
theorem cLen_lt (c : Int64) : ∃ k : Nat, k < 64 ∧ cLen c = nI k := n_mask _ 6 (by decide)
theorem cSeg_lt (c : Int64) : ∃ k : Nat, k < 16 ∧ cSeg c = nI k := n_mask _ 4 (by decide)
theorem cBeg_lt (c : Int64) : ∃ k : Nat, k < 256 ∧ cBeg c = nI k := n_mask _ 8 (by decide)
theorem cSeed_lt (c : Int64) : ∃ k : Nat, k < 256 ∧ cSeed c = nI k := n_mask _ 8 (by decide)
/-- a card's key as a place -/
def kN (c : Int64) : Nat := (cKey c).toNatClampNeg
theorem kN_lt (c : Int64) : kN c < 64 := by
  obtain ⟨k, hk, e⟩ := cKey_lt c
  unfold kN
  rw [e, nI_clamp (by omega)]; exact hk
theorem kN_eq (c : Int64) : cKey c = nI (kN c) := by
  obtain ⟨k, hk, e⟩ := cKey_lt c
  unfold kN
  rw [e, nI_clamp (by omega)]
/-- the current card of a key -/
def uCur (u : zState) (k : Nat) : Int64 := zCur u.2.2.2.1.1 k (rN u + 1)
/-- a card of a record is live -/
def uLiv (u : zState) (c : Int64) : Bool := decide (u.1.2.1 < cLen c ∧ uCur u (kN c) = c)
/-- the card of the k-th record of a segment -/
abbrev uRec (u : zState) (s k : Nat) : Int64 := u.2.2.1.1 (50 * s + k)
/-- live bytes of a segment -/
def uLive (u : zState) (s : Nat) : Int32 := l_sum (fun k => if uLiv u (uRec u s k) then 4 + cLen (uRec u s k) else 0) (cN u s)
/-- bytes left in the open one; is one free -/
def uLeft (u : zState) : Int32 := u.1.1 - u.2.2.1.2.2.1 (oN u)
def uFree (u : zState) : Nat := fa_cnt (fun s => decide (u.2.2.1.2.2.2.1 s = 0)) 12
def uFst (u : zState) : Nat := fa_first (fun s => decide (u.2.2.1.2.2.2.1 s = 0)) 12
def uFits (u : zState) (x : Int32) : Bool := decide (x ≤ uLeft u ∨ uFst u < 12)
def uSpare (u : zState) : Int32 := uLeft u + nI (uFree u) * u.1.1
def uVal (u : zState) (k : Nat) : Bool := decide (¬ cDrop (uCur u k))

def t_X5_leftOpen (u : zState) (Q : Int32 → Prop) : Prop := s_X4_takenOf u.2.2.1 u.2.2.1.2.2.2.2 (fun r_1 : Int32 => Q (u.1.1 - r_1))
theorem zc_X5_leftOpen : zCalV RX5 yX5_leftOpen cX5_leftOpen 1 (some .int) 0 := ⟨q_im_X5_leftOpen, q_se_X5_leftOpen, q_in_X5, q_cd_X5_leftOpen, ⟨by decide, by decide, by decide +kernel⟩, rfl⟩
abbrev rm_X5_leftOpen : Room := { frames := 1, cells := 0, slots := 0, locals := 21 }
set_option maxHeartbeats 4000000 in
set_option maxRecDepth 100000 in
theorem L_X5_leftOpen (l : Launch) (dC : Nat → ClassId) (dI : Nat → Nat → Nat) (cI cJ cS : ClassId) (a : Nat → Nat) (u : zState) (Q : Int32 → Prop) (hf : t_X5_leftOpen u Q) : Met l yX5_leftOpen (Cond.code yX5_leftOpen cX5_leftOpen 1 (some .int) :: zT) rm_X5_leftOpen (zPp dC dI cI cJ cS (cl_X5 cI cJ a u) [.ref (a 0)]) (vp_Si Q) 0 0 (fun _ => False) := by
  refine z_enterP (cc := cX5_leftOpen) (maxL := 1) (ret := (some .int)) (by decide) (Nat.le_of_ble_eq_true rfl) ?_
  intro p e s m below meth c ls X hP hl
  obtain ⟨⟨hx, hb, hml, hown, hts⟩, hr, hlk, hK⟩ := id X
  have hl : lv_has ls 1 [(0, .ref (a 0))] := hl
  unfold t_X5_leftOpen at hf
  refine lv_aload_n hx hb dX5_leftOpen_0 rfl (lv_at hl 0 rfl) ?_
  refine va_get (D := (dC, dI)) (ci := 4) (v := .ref (a 1)) (C := RX5) (T := TX5) (N := 9) hx hb hts inX5 hown hK hP 0 rfl rfl 0 (by decide) (hts _ q_fl_X5_12) (fun _ h9 => h9) rfl dX5_leftOpen_1 ?_
  refine va_get (D := (dC, dI)) (ci := 6) (v := .int u.1.1) (C := RX7) (T := TX7) (N := 4) hx hb hts inX7 hown hK hP 1 rfl rfl 0 (by decide) (hts _ q_fl_X5_57) (fun _ h9 => h9) rfl dX5_leftOpen_4 ?_
  refine lv_aload_n hx hb dX5_leftOpen_7 rfl (lv_at hl 0 rfl) ?_
  refine va_get (D := (dC, dI)) (ci := 4) (v := .ref (a 3)) (C := RX5) (T := TX5) (N := 9) hx hb hts inX5 hown hK hP 0 rfl rfl 2 (by decide) (hts _ q_fl_X5_28) (fun _ h9 => h9) rfl dX5_leftOpen_8 ?_
  refine lv_aload_n hx hb dX5_leftOpen_11 rfl (lv_at hl 0 rfl) ?_
  refine va_get (D := (dC, dI)) (ci := 4) (v := .ref (a 3)) (C := RX5) (T := TX5) (N := 9) hx hb hts inX5 hown hK hP 0 rfl rfl 2 (by decide) (hts _ q_fl_X5_28) (fun _ h9 => h9) rfl dX5_leftOpen_12 ?_
  refine va_get (D := (dC, dI)) (ci := 3) (v := .int u.2.2.1.2.2.2.2) (C := RX4) (T := TX4) (N := 5) hx hb hts inX4 hown hK hP 3 rfl rfl 4 (by decide) (hts _ q_fl_X5_192) (fun _ h9 => h9) rfl dX5_leftOpen_15 ?_
  refine z_cVi (As := [.int u.2.2.1.2.2.2.2]) (rest := [.int u.1.1]) X (c_X4_takenOf l dC dI cI cJ cS (fun i => a (3 + i)) u.2.2.1 u.2.2.1.2.2.2.2 _ hf) zc_X4_takenOf q_ml_X5_293 ⟨rfl, rfl⟩ ⟨Nat.le_of_ble_eq_true rfl, Nat.le_of_ble_eq_true rfl⟩ hP [3, 4, 5, 6, 7] rfl 3 rfl rfl hl.1 rfl rfl (Nat.le_of_ble_eq_true rfl) ⟨Nat.zero_le _, Nat.zero_le _⟩ dX5_leftOpen_18 (fun r_1 hf => ?_)
  refine lv_isub hx hb dX5_leftOpen_21 ?_
  exact z_retPi X hf dX5_leftOpen_22
def s_X5_leftOpen (u : zState) (Q : Int32 → Prop) : Prop := zOk u ∧ Q (uLeft u)
theorem st_X5_leftOpen {u : zState} {Q : Int32 → Prop} (h : s_X5_leftOpen u Q) : t_X5_leftOpen u Q := ⟨oN u, h.1.1.2, h.1.o, h.2⟩
theorem c_X5_leftOpen (l : Launch) (dC : Nat → ClassId) (dI : Nat → Nat → Nat) (cI cJ cS : ClassId) (a : Nat → Nat) (u : zState) (Q : Int32 → Prop) (hf : s_X5_leftOpen u Q) : Met l yX5_leftOpen (Cond.code yX5_leftOpen cX5_leftOpen 1 (some .int) :: zT) rm_X5_leftOpen (zPp dC dI cI cJ cS (cl_X5 cI cJ a u) [.ref (a 0)]) (vp_Si Q) 0 0 (fun _ => False) := L_X5_leftOpen l dC dI cI cJ cS a u Q (st_X5_leftOpen hf)

def t_X5_fits (u : zState) (x1 : Int32) (Q : Int32 → Prop) : Prop := s_X5_leftOpen u (fun r_1 : Int32 => ((x1 ≤ r_1 → Q (1 : Int32)) ∧ (¬ x1 ≤ r_1 → s_X4_leastFree u.2.2.1 (fun r_3 : Int32 => ((r_3 = (-1 : Int32) → Q (0 : Int32)) ∧ (¬ r_3 = (-1 : Int32) → Q (1 : Int32)))))))
theorem zc_X5_fits : zCalV RX5 yX5_fits cX5_fits 2 (some .boolean) 1 := ⟨q_im_X5_fits, q_se_X5_fits, q_in_X5, q_cd_X5_fits, ⟨by decide, by decide, by decide +kernel⟩, rfl⟩
abbrev rm_X5_fits : Room := { frames := 2, cells := 0, slots := 0, locals := 41 }
set_option maxHeartbeats 4000000 in
set_option maxRecDepth 100000 in
theorem L_X5_fits (l : Launch) (dC : Nat → ClassId) (dI : Nat → Nat → Nat) (cI cJ cS : ClassId) (a : Nat → Nat) (u : zState) (x1 : Int32) (Q : Int32 → Prop) (hf : t_X5_fits u x1 Q) : Met l yX5_fits (Cond.code yX5_fits cX5_fits 2 (some .boolean) :: zT) rm_X5_fits (zPp dC dI cI cJ cS (cl_X5 cI cJ a u) [.ref (a 0), .int x1]) (vp_Si (fun r => (r = 0 ∨ r = 1) ∧ Q r)) 0 0 (fun _ => False) := by
  refine z_enterP (cc := cX5_fits) (maxL := 2) (ret := (some .boolean)) (by decide) (Nat.le_of_ble_eq_true rfl) ?_
  intro p e s m below meth c ls X hP hl
  obtain ⟨⟨hx, hb, hml, hown, hts⟩, hr, hlk, hK⟩ := id X
  have hl : lv_has ls 2 [(0, .ref (a 0)), (1, .int x1)] := hl
  unfold t_X5_fits at hf
  refine lv_aload_n hx hb dX5_fits_0 rfl (lv_at hl 0 rfl) ?_
  refine z_cVi (As := []) (rest := []) X (c_X5_leftOpen l dC dI cI cJ cS a u  _ hf) zc_X5_leftOpen q_ml_X5_189 ⟨rfl, rfl⟩ ⟨Nat.le_of_ble_eq_true rfl, Nat.le_of_ble_eq_true rfl⟩ hP [0, 1, 2, 3, 4, 5, 6, 7, 8, 9, 10, 11, 12, 13, 14] rfl 4 rfl rfl hl.1 rfl rfl (Nat.le_of_ble_eq_true rfl) ⟨Nat.zero_le _, Nat.zero_le _⟩ dX5_fits_1 (fun r_1 hf => ?_)
  refine lv_iload_n hx hb dX5_fits_4 rfl (lv_at hl 1 rfl) ?_
  refine lv_icmp_ge (tgt := 19) hx hb dX5_fits_5 (by decide) (fun c_2 => ?_) (fun c_2 => ?_)
  · have hf := hf.1 c_2
    refine lv_iconst (v := 1) hx hb dX5_fits_19 (by decide) ?_
    refine lv_goto (tgt := 24) hx hb dX5_fits_20 (by decide) ?_
    exact z_retPz X (Or.inr rfl) hf dX5_fits_24
  · have hf := hf.2 c_2
    refine lv_aload_n hx hb dX5_fits_8 rfl (lv_at hl 0 rfl) ?_
    refine va_get (D := (dC, dI)) (ci := 4) (v := .ref (a 3)) (C := RX5) (T := TX5) (N := 9) hx hb hts inX5 hown hK hP 0 rfl rfl 2 (by decide) (hts _ q_fl_X5_28) (fun _ h9 => h9) rfl dX5_fits_9 ?_
    refine z_cVi (As := []) (rest := []) X (c_X4_leastFree l dC dI cI cJ cS (fun i => a (3 + i)) u.2.2.1  _ hf) zc_X4_leastFree q_ml_X5_296 ⟨rfl, rfl⟩ ⟨Nat.le_of_ble_eq_true rfl, Nat.le_of_ble_eq_true rfl⟩ hP [3, 4, 5, 6, 7] rfl 3 rfl rfl hl.1 rfl rfl (Nat.le_of_ble_eq_true rfl) ⟨Nat.zero_le _, Nat.zero_le _⟩ dX5_fits_12 (fun r_3 hf => ?_)
    refine lv_iconst (v := (-1)) hx hb dX5_fits_15 (by decide) ?_
    refine lv_icmp_eq (tgt := 23) hx hb dX5_fits_16 (by decide) (fun c_4 => ?_) (fun c_4 => ?_)
    · have hf := hf.1 c_4
      refine lv_iconst (v := 0) hx hb dX5_fits_23 (by decide) ?_
      exact z_retPz X (Or.inl rfl) hf dX5_fits_24
    · have hf := hf.2 c_4
      refine lv_iconst (v := 1) hx hb dX5_fits_19 (by decide) ?_
      refine lv_goto (tgt := 24) hx hb dX5_fits_20 (by decide) ?_
      exact z_retPz X (Or.inr rfl) hf dX5_fits_24
def s_X5_fits (u : zState) (x1 : Int32) (Q : Int32 → Prop) : Prop := zOk u ∧ (uFits u x1 = true → Q 1) ∧ (uFits u x1 = false → Q 0)
theorem st_X5_fits {u : zState} {x1 : Int32} {Q : Int32 → Prop} (h : s_X5_fits u x1 Q) : t_X5_fits u x1 Q := by
  obtain ⟨ho, h1, h0⟩ := h
  refine ⟨ho, fun c => h1 (decide_eq_true (Or.inl c)), fun c => ?_⟩
  show (_ ∧ _)
  by_cases hf : uFst u < 12
  · have e : zFst (fun s => decide (u.2.2.1.2.2.2.1 s = 0)) 12 = nI (uFst u) := zFst_yes hf
    rw [e]
    exact ⟨fun q => absurd q (n_neg (by omega)), fun _ => h1 (decide_eq_true (Or.inr hf))⟩
  · have e : zFst (fun s => decide (u.2.2.1.2.2.2.1 s = 0)) 12 = -1 := zFst_no hf
    rw [e]
    exact ⟨fun _ => h0 (decide_eq_false (fun q => q.elim c hf)), fun q => absurd rfl q⟩
theorem c_X5_fits (l : Launch) (dC : Nat → ClassId) (dI : Nat → Nat → Nat) (cI cJ cS : ClassId) (a : Nat → Nat) (u : zState) (x1 : Int32) (Q : Int32 → Prop) (hf : s_X5_fits u x1 Q) : Met l yX5_fits (Cond.code yX5_fits cX5_fits 2 (some .boolean) :: zT) rm_X5_fits (zPp dC dI cI cJ cS (cl_X5 cI cJ a u) [.ref (a 0), .int x1]) (vp_Si (fun r => (r = 0 ∨ r = 1) ∧ Q r)) 0 0 (fun _ => False) := L_X5_fits l dC dI cI cJ cS a u x1 Q (st_X5_fits hf)

def t_X5_spare (u : zState) (Q : Int32 → Prop) : Prop := s_X5_leftOpen u (fun r_1 : Int32 => s_X4_freeOnes u.2.2.1 (fun r_2 : Int32 => Q (r_1 + (r_2 * u.1.1))))
theorem zc_X5_spare : zCalV RX5 yX5_spare cX5_spare 1 (some .int) 0 := ⟨q_im_X5_spare, q_se_X5_spare, q_in_X5, q_cd_X5_spare, ⟨by decide, by decide, by decide +kernel⟩, rfl⟩
abbrev rm_X5_spare : Room := { frames := 2, cells := 0, slots := 0, locals := 41 }
set_option maxHeartbeats 4000000 in
set_option maxRecDepth 100000 in
theorem L_X5_spare (l : Launch) (dC : Nat → ClassId) (dI : Nat → Nat → Nat) (cI cJ cS : ClassId) (a : Nat → Nat) (u : zState) (Q : Int32 → Prop) (hf : t_X5_spare u Q) : Met l yX5_spare (Cond.code yX5_spare cX5_spare 1 (some .int) :: zT) rm_X5_spare (zPp dC dI cI cJ cS (cl_X5 cI cJ a u) [.ref (a 0)]) (vp_Si Q) 0 0 (fun _ => False) := by
  refine z_enterP (cc := cX5_spare) (maxL := 1) (ret := (some .int)) (by decide) (Nat.le_of_ble_eq_true rfl) ?_
  intro p e s m below meth c ls X hP hl
  obtain ⟨⟨hx, hb, hml, hown, hts⟩, hr, hlk, hK⟩ := id X
  have hl : lv_has ls 1 [(0, .ref (a 0))] := hl
  unfold t_X5_spare at hf
  refine lv_aload_n hx hb dX5_spare_0 rfl (lv_at hl 0 rfl) ?_
  refine z_cVi (As := []) (rest := []) X (c_X5_leftOpen l dC dI cI cJ cS a u  _ hf) zc_X5_leftOpen q_ml_X5_189 ⟨rfl, rfl⟩ ⟨Nat.le_of_ble_eq_true rfl, Nat.le_of_ble_eq_true rfl⟩ hP [0, 1, 2, 3, 4, 5, 6, 7, 8, 9, 10, 11, 12, 13, 14] rfl 4 rfl rfl hl.1 rfl rfl (Nat.le_of_ble_eq_true rfl) ⟨Nat.zero_le _, Nat.zero_le _⟩ dX5_spare_1 (fun r_1 hf => ?_)
  refine lv_aload_n hx hb dX5_spare_4 rfl (lv_at hl 0 rfl) ?_
  refine va_get (D := (dC, dI)) (ci := 4) (v := .ref (a 3)) (C := RX5) (T := TX5) (N := 9) hx hb hts inX5 hown hK hP 0 rfl rfl 2 (by decide) (hts _ q_fl_X5_28) (fun _ h9 => h9) rfl dX5_spare_5 ?_
  refine z_cVi (As := []) (rest := [.int r_1]) X (c_X4_freeOnes l dC dI cI cJ cS (fun i => a (3 + i)) u.2.2.1  _ hf) zc_X4_freeOnes q_ml_X5_151 ⟨rfl, rfl⟩ ⟨Nat.le_of_ble_eq_true rfl, Nat.le_of_ble_eq_true rfl⟩ hP [3, 4, 5, 6, 7] rfl 3 rfl rfl hl.1 rfl rfl (Nat.le_of_ble_eq_true rfl) ⟨Nat.zero_le _, Nat.zero_le _⟩ dX5_spare_8 (fun r_2 hf => ?_)
  refine lv_aload_n hx hb dX5_spare_11 rfl (lv_at hl 0 rfl) ?_
  refine va_get (D := (dC, dI)) (ci := 4) (v := .ref (a 1)) (C := RX5) (T := TX5) (N := 9) hx hb hts inX5 hown hK hP 0 rfl rfl 0 (by decide) (hts _ q_fl_X5_12) (fun _ h9 => h9) rfl dX5_spare_12 ?_
  refine va_get (D := (dC, dI)) (ci := 6) (v := .int u.1.1) (C := RX7) (T := TX7) (N := 4) hx hb hts inX7 hown hK hP 1 rfl rfl 0 (by decide) (hts _ q_fl_X5_57) (fun _ h9 => h9) rfl dX5_spare_15 ?_
  refine lv_imul hx hb dX5_spare_18 ?_
  refine lv_iadd hx hb dX5_spare_19 ?_
  exact z_retPi X hf dX5_spare_20
def s_X5_spare (u : zState) (Q : Int32 → Prop) : Prop := zOk u ∧ Q (uSpare u)
theorem st_X5_spare {u : zState} {Q : Int32 → Prop} (h : s_X5_spare u Q) : t_X5_spare u Q := ⟨h.1, h.2⟩
theorem c_X5_spare (l : Launch) (dC : Nat → ClassId) (dI : Nat → Nat → Nat) (cI cJ cS : ClassId) (a : Nat → Nat) (u : zState) (Q : Int32 → Prop) (hf : s_X5_spare u Q) : Met l yX5_spare (Cond.code yX5_spare cX5_spare 1 (some .int) :: zT) rm_X5_spare (zPp dC dI cI cJ cS (cl_X5 cI cJ a u) [.ref (a 0)]) (vp_Si Q) 0 0 (fun _ => False) := L_X5_spare l dC dI cI cJ cS a u Q (st_X5_spare hf)

def t_X5_fitting (u : zState) (x1 : Int32) (Q : Int32 → Prop) : Prop := ((0 < x1 → s_X5_leftOpen u (fun r_2 : Int32 => (¬ x1 = 0) ∧ s_X4_freeOnes u.2.2.1 (fun r_3 : Int32 => (¬ x1 = 0) ∧ Q ((r_2 / x1) + (r_3 * (u.1.1 / x1)))))) ∧ (¬ 0 < x1 → Q (0 : Int32)))
theorem zc_X5_fitting : zCalV RX5 yX5_fitting cX5_fitting 2 (some .int) 1 := ⟨q_im_X5_fitting, q_se_X5_fitting, q_in_X5, q_cd_X5_fitting, ⟨by decide, by decide, by decide +kernel⟩, rfl⟩
abbrev rm_X5_fitting : Room := { frames := 2, cells := 0, slots := 0, locals := 41 }
set_option maxHeartbeats 4000000 in
set_option maxRecDepth 100000 in
theorem L_X5_fitting (l : Launch) (dC : Nat → ClassId) (dI : Nat → Nat → Nat) (cI cJ cS : ClassId) (a : Nat → Nat) (u : zState) (x1 : Int32) (Q : Int32 → Prop) (hf : t_X5_fitting u x1 Q) : Met l yX5_fitting (Cond.code yX5_fitting cX5_fitting 2 (some .int) :: zT) rm_X5_fitting (zPp dC dI cI cJ cS (cl_X5 cI cJ a u) [.ref (a 0), .int x1]) (vp_Si Q) 0 0 (fun _ => False) := by
  refine z_enterP (cc := cX5_fitting) (maxL := 2) (ret := (some .int)) (by decide) (Nat.le_of_ble_eq_true rfl) ?_
  intro p e s m below meth c ls X hP hl
  obtain ⟨⟨hx, hb, hml, hown, hts⟩, hr, hlk, hK⟩ := id X
  have hl : lv_has ls 2 [(0, .ref (a 0)), (1, .int x1)] := hl
  unfold t_X5_fitting at hf
  refine lv_iload_n hx hb dX5_fitting_0 rfl (lv_at hl 1 rfl) ?_
  refine lv_if_gt (tgt := 8) hx hb dX5_fitting_1 (by decide) (fun c_1 => ?_) (fun c_1 => ?_)
  · have hf := hf.1 c_1
    refine lv_aload_n hx hb dX5_fitting_8 rfl (lv_at hl 0 rfl) ?_
    refine z_cVi (As := []) (rest := []) X (c_X5_leftOpen l dC dI cI cJ cS a u  _ hf) zc_X5_leftOpen q_ml_X5_189 ⟨rfl, rfl⟩ ⟨Nat.le_of_ble_eq_true rfl, Nat.le_of_ble_eq_true rfl⟩ hP [0, 1, 2, 3, 4, 5, 6, 7, 8, 9, 10, 11, 12, 13, 14] rfl 4 rfl rfl hl.1 rfl rfl (Nat.le_of_ble_eq_true rfl) ⟨Nat.zero_le _, Nat.zero_le _⟩ dX5_fitting_9 (fun r_2 hf => ?_)
    refine lv_iload_n hx hb dX5_fitting_12 rfl (lv_at hl 1 rfl) ?_
    obtain ⟨hg, hf⟩ := hf
    refine lv_idiv hx hb dX5_fitting_13 hg ?_
    refine lv_aload_n hx hb dX5_fitting_14 rfl (lv_at hl 0 rfl) ?_
    refine va_get (D := (dC, dI)) (ci := 4) (v := .ref (a 3)) (C := RX5) (T := TX5) (N := 9) hx hb hts inX5 hown hK hP 0 rfl rfl 2 (by decide) (hts _ q_fl_X5_28) (fun _ h9 => h9) rfl dX5_fitting_15 ?_
    refine z_cVi (As := []) (rest := [.int (r_2 / x1)]) X (c_X4_freeOnes l dC dI cI cJ cS (fun i => a (3 + i)) u.2.2.1  _ hf) zc_X4_freeOnes q_ml_X5_151 ⟨rfl, rfl⟩ ⟨Nat.le_of_ble_eq_true rfl, Nat.le_of_ble_eq_true rfl⟩ hP [3, 4, 5, 6, 7] rfl 3 rfl rfl hl.1 rfl rfl (Nat.le_of_ble_eq_true rfl) ⟨Nat.zero_le _, Nat.zero_le _⟩ dX5_fitting_18 (fun r_3 hf => ?_)
    refine lv_aload_n hx hb dX5_fitting_21 rfl (lv_at hl 0 rfl) ?_
    refine va_get (D := (dC, dI)) (ci := 4) (v := .ref (a 1)) (C := RX5) (T := TX5) (N := 9) hx hb hts inX5 hown hK hP 0 rfl rfl 0 (by decide) (hts _ q_fl_X5_12) (fun _ h9 => h9) rfl dX5_fitting_22 ?_
    refine va_get (D := (dC, dI)) (ci := 6) (v := .int u.1.1) (C := RX7) (T := TX7) (N := 4) hx hb hts inX7 hown hK hP 1 rfl rfl 0 (by decide) (hts _ q_fl_X5_57) (fun _ h9 => h9) rfl dX5_fitting_25 ?_
    refine lv_iload_n hx hb dX5_fitting_28 rfl (lv_at hl 1 rfl) ?_
    obtain ⟨hg, hf⟩ := hf
    refine lv_idiv hx hb dX5_fitting_29 hg ?_
    refine lv_imul hx hb dX5_fitting_30 ?_
    refine lv_iadd hx hb dX5_fitting_31 ?_
    exact z_retPi X hf dX5_fitting_32
  · have hf := hf.2 c_1
    refine lv_iconst (v := 0) hx hb dX5_fitting_4 (by decide) ?_
    refine lv_goto (tgt := 32) hx hb dX5_fitting_5 (by decide) ?_
    exact z_retPi X hf dX5_fitting_32
def s_X5_fitting (u : zState) (x1 : Int32) (Q : Int32 → Prop) : Prop := zOk u ∧ 0 < x1 ∧ Q (uLeft u / x1 + nI (uFree u) * (u.1.1 / x1))
theorem st_X5_fitting {u : zState} {x1 : Int32} {Q : Int32 → Prop} (h : s_X5_fitting u x1 Q) : t_X5_fitting u x1 Q := by
  obtain ⟨ho, hx, h⟩ := h
  have hne : ¬ x1 = 0 := fun q => by rw [q] at hx; exact absurd hx (by decide)
  exact ⟨fun _ => ⟨ho, hne, hne, h⟩, fun q => absurd hx q⟩
theorem c_X5_fitting (l : Launch) (dC : Nat → ClassId) (dI : Nat → Nat → Nat) (cI cJ cS : ClassId) (a : Nat → Nat) (u : zState) (x1 : Int32) (Q : Int32 → Prop) (hf : s_X5_fitting u x1 Q) : Met l yX5_fitting (Cond.code yX5_fitting cX5_fitting 2 (some .int) :: zT) rm_X5_fitting (zPp dC dI cI cJ cS (cl_X5 cI cJ a u) [.ref (a 0), .int x1]) (vp_Si Q) 0 0 (fun _ => False) := L_X5_fitting l dC dI cI cJ cS a u x1 Q (st_X5_fitting hf)

def t_X5_isLive (u : zState) (x1 : Int64) (Q : Int32 → Prop) : Prop := s_X0_lengthOf x1 (fun r_1 : Int32 => ((r_1 ≤ u.1.2.1 → Q (0 : Int32)) ∧ (¬ r_1 ≤ u.1.2.1 → s_X0_keyOf x1 (fun r_3 : Int32 => s_X9_currentOf u.2.2.2.1 r_3 (fun r_4 : Int64 => ((¬ (lg_cmp r_4 x1) = 0 → Q (0 : Int32)) ∧ ((lg_cmp r_4 x1) = 0 → Q (1 : Int32))))))))
theorem zc_X5_isLive : zCalV RX5 yX5_isLive cX5_isLive 3 (some .boolean) 1 := ⟨q_im_X5_isLive, q_se_X5_isLive, q_in_X5, q_cd_X5_isLive, ⟨by decide, by decide, by decide +kernel⟩, rfl⟩
abbrev rm_X5_isLive : Room := { frames := 2, cells := 0, slots := 0, locals := 44 }
set_option maxHeartbeats 4000000 in
set_option maxRecDepth 100000 in
theorem L_X5_isLive (l : Launch) (dC : Nat → ClassId) (dI : Nat → Nat → Nat) (cI cJ cS : ClassId) (a : Nat → Nat) (u : zState) (x1 : Int64) (Q : Int32 → Prop) (hf : t_X5_isLive u x1 Q) : Met l yX5_isLive (Cond.code yX5_isLive cX5_isLive 3 (some .boolean) :: zT) rm_X5_isLive (zPp dC dI cI cJ cS (cl_X5 cI cJ a u) [.ref (a 0), .long x1]) (vp_Si (fun r => (r = 0 ∨ r = 1) ∧ Q r)) 0 0 (fun _ => False) := by
  refine z_enterP (cc := cX5_isLive) (maxL := 3) (ret := (some .boolean)) (by decide) (Nat.le_of_ble_eq_true rfl) ?_
  intro p e s m below meth c ls X hP hl
  obtain ⟨⟨hx, hb, hml, hown, hts⟩, hr, hlk, hK⟩ := id X
  have hl : lv_has ls 3 [(0, .ref (a 0)), (1, .long x1)] := hl
  unfold t_X5_isLive at hf
  refine lv_lload_n hx hb dX5_isLive_0 rfl (lv_at hl 1 rfl) ?_
  refine z_cSi (As := [.long x1]) (rest := []) X (c_X0_lengthOf l dC dI cI cJ cS   x1 _ hf) zc_X0_lengthOf q_ml_X5_272 ⟨rfl, rfl⟩ ⟨Nat.le_of_ble_eq_true rfl, Nat.le_of_ble_eq_true rfl⟩ hP [] rfl hl.1 rfl rfl (Nat.le_of_ble_eq_true rfl) ⟨Nat.zero_le _, Nat.zero_le _⟩ dX5_isLive_1 (fun r_1 hf => ?_)
  refine lv_aload_n hx hb dX5_isLive_4 rfl (lv_at hl 0 rfl) ?_
  refine va_get (D := (dC, dI)) (ci := 4) (v := .ref (a 1)) (C := RX5) (T := TX5) (N := 9) hx hb hts inX5 hown hK hP 0 rfl rfl 0 (by decide) (hts _ q_fl_X5_12) (fun _ h9 => h9) rfl dX5_isLive_5 ?_
  refine va_get (D := (dC, dI)) (ci := 6) (v := .int u.1.2.1) (C := RX7) (T := TX7) (N := 4) hx hb hts inX7 hown hK hP 1 rfl rfl 1 (by decide) (hts _ q_fl_X5_61) (fun _ h9 => h9) rfl dX5_isLive_8 ?_
  refine lv_icmp_le (tgt := 34) hx hb dX5_isLive_11 (by decide) (fun c_2 => ?_) (fun c_2 => ?_)
  · have hf := hf.1 c_2
    refine lv_iconst (v := 0) hx hb dX5_isLive_34 (by decide) ?_
    exact z_retPz X (Or.inl rfl) hf dX5_isLive_35
  · have hf := hf.2 c_2
    refine lv_aload_n hx hb dX5_isLive_14 rfl (lv_at hl 0 rfl) ?_
    refine va_get (D := (dC, dI)) (ci := 4) (v := .ref (a 8)) (C := RX5) (T := TX5) (N := 9) hx hb hts inX5 hown hK hP 0 rfl rfl 3 (by decide) (hts _ q_fl_X5_35) (fun _ h9 => h9) rfl dX5_isLive_15 ?_
    refine lv_lload_n hx hb dX5_isLive_18 rfl (lv_at hl 1 rfl) ?_
    refine z_cSi (As := [.long x1]) (rest := [.ref (a 8)]) X (c_X0_keyOf l dC dI cI cJ cS   x1 _ hf) zc_X0_keyOf q_ml_X5_253 ⟨rfl, rfl⟩ ⟨Nat.le_of_ble_eq_true rfl, Nat.le_of_ble_eq_true rfl⟩ hP [] rfl hl.1 rfl rfl (Nat.le_of_ble_eq_true rfl) ⟨Nat.zero_le _, Nat.zero_le _⟩ dX5_isLive_19 (fun r_3 hf => ?_)
    refine z_cVl (As := [.int r_3]) (rest := []) X (c_X9_currentOf l dC dI cI cJ cS (fun i => a (8 + i)) u.2.2.2.1 r_3 _ hf) zc_X9_currentOf q_ml_X5_299 ⟨rfl, rfl⟩ ⟨Nat.le_of_ble_eq_true rfl, Nat.le_of_ble_eq_true rfl⟩ hP [8, 9, 10] rfl 8 rfl rfl hl.1 rfl rfl (Nat.le_of_ble_eq_true rfl) ⟨Nat.zero_le _, Nat.zero_le _⟩ dX5_isLive_22 (fun r_4 hf => ?_)
    refine lv_lload_n hx hb dX5_isLive_25 rfl (lv_at hl 1 rfl) ?_
    refine W.lcmp hx hb dX5_isLive_26 ?_
    refine lv_if_ne (tgt := 34) hx hb dX5_isLive_27 (by decide) (fun c_5 => ?_) (fun c_5 => ?_)
    · have hf := hf.1 c_5
      refine lv_iconst (v := 0) hx hb dX5_isLive_34 (by decide) ?_
      exact z_retPz X (Or.inl rfl) hf dX5_isLive_35
    · have hf := hf.2 c_5
      refine lv_iconst (v := 1) hx hb dX5_isLive_30 (by decide) ?_
      refine lv_goto (tgt := 35) hx hb dX5_isLive_31 (by decide) ?_
      exact z_retPz X (Or.inr rfl) hf dX5_isLive_35
def s_X5_isLive (u : zState) (x1 : Int64) (Q : Int32 → Prop) : Prop := zOk u ∧ (uLiv u x1 = true → Q 1) ∧ (uLiv u x1 = false → Q 0)
theorem n_nle {a b : Int32} (h : ¬ a ≤ b) : b < a := fa_of_nle h
theorem n_nlt {a b : Int32} (h : b < a) : ¬ a ≤ b := (fa_of_lt h).2.1
theorem st_X5_isLive {u : zState} {x1 : Int64} {Q : Int32 → Prop} (h : s_X5_isLive u x1 Q) : t_X5_isLive u x1 Q := by
  obtain ⟨ho, h1, h0⟩ := h
  refine ⟨fun c => h0 (decide_eq_false (fun q => n_nlt q.1 c)), fun c => ⟨kN x1, rN u, kN_lt x1, ho.2.1.2, kN_eq x1, ho.r, ?_⟩⟩
  refine ⟨fun d => h0 (decide_eq_false (fun q => d ((lc_eq _ _).mpr q.2))), fun d => h1 (decide_eq_true ⟨n_nle c, (lc_eq _ _).mp d⟩)⟩
theorem c_X5_isLive (l : Launch) (dC : Nat → ClassId) (dI : Nat → Nat → Nat) (cI cJ cS : ClassId) (a : Nat → Nat) (u : zState) (x1 : Int64) (Q : Int32 → Prop) (hf : s_X5_isLive u x1 Q) : Met l yX5_isLive (Cond.code yX5_isLive cX5_isLive 3 (some .boolean) :: zT) rm_X5_isLive (zPp dC dI cI cJ cS (cl_X5 cI cJ a u) [.ref (a 0), .long x1]) (vp_Si (fun r => (r = 0 ∨ r = 1) ∧ Q r)) 0 0 (fun _ => False) := L_X5_isLive l dC dI cI cJ cS a u x1 Q (st_X5_isLive hf)

def t_X5_liveOf_e (u : zState) (x1 : Int32) (K4 : Int32 → Int32 → Prop) (Q : Int32 → Prop) : Prop := K4 (0 : Int32) (0 : Int32)
def t_X5_liveOf_4 (u : zState) (x1 : Int32) (y2 : Int32) (y3 : Int32) (K4 : Int32 → Int32 → Prop) (Q : Int32 → Prop) : Prop := s_X4_countOf u.2.2.1 x1 (fun r_2 : Int32 => ((r_2 ≤ y3 → Q y2) ∧ (¬ r_2 ≤ y3 → s_X4_cardAt u.2.2.1 x1 y3 (fun r_4 : Int64 => s_X5_isLive u r_4 (fun r_5 : Int32 => ((r_5 = 0 → ∀ x_7 : Int32, x_7 = (y2 + (0 : Int32)) → ∀ x_8 : Int32, x_8 = y3 + (1 : Int32) → K4 x_7 x_8) ∧ (¬ r_5 = 0 → s_X0_sizeOf r_4 (fun r_10 : Int32 => ∀ x_11 : Int32, x_11 = (y2 + r_10) → ∀ x_12 : Int32, x_12 = y3 + (1 : Int32) → K4 x_11 x_12))))))))
theorem zc_X5_liveOf : zCalV RX5 yX5_liveOf cX5_liveOf 6 (some .int) 1 := ⟨q_im_X5_liveOf, q_se_X5_liveOf, q_in_X5, q_cd_X5_liveOf, ⟨by decide, by decide, by decide +kernel⟩, rfl⟩
abbrev rm_X5_liveOf : Room := { frames := 3, cells := 0, slots := 0, locals := 66 }
def v_X5_liveOf (u : zState) (x1 : Int32) (Q : Int32 → Prop) : Prop := ∃ I4 : Nat → Int32 → Int32 → Prop, (∀ (n : Nat) (y2 : Int32) (y3 : Int32), I4 n y2 y3 → t_X5_liveOf_4 u x1 y2 y3 (fun q0 q1 => ∃ k : Nat, k < n ∧ I4 k q0 q1) Q) ∧ t_X5_liveOf_e u x1 (fun q0 q1 => ∃ k : Nat, I4 k q0 q1) Q
set_option maxHeartbeats 4000000 in
set_option maxRecDepth 100000 in
theorem L_X5_liveOf (l : Launch) (dC : Nat → ClassId) (dI : Nat → Nat → Nat) (cI cJ cS : ClassId) (a : Nat → Nat) (u : zState) (x1 : Int32) (Q : Int32 → Prop) (I4 : Nat → Int32 → Int32 → Prop) (h4 : ∀ (n : Nat) (y2 : Int32) (y3 : Int32), I4 n y2 y3 → t_X5_liveOf_4 u x1 y2 y3 (fun q0 q1 => ∃ k : Nat, k < n ∧ I4 k q0 q1) Q) (hf : t_X5_liveOf_e u x1 (fun q0 q1 => ∃ k : Nat, I4 k q0 q1) Q) : Met l yX5_liveOf (Cond.code yX5_liveOf cX5_liveOf 6 (some .int) :: zT) rm_X5_liveOf (zPp dC dI cI cJ cS (cl_X5 cI cJ a u) [.ref (a 0), .int x1]) (vp_Si Q) 0 0 (fun _ => False) := by
  refine z_enterP (cc := cX5_liveOf) (maxL := 6) (ret := (some .int)) (by decide) (Nat.le_of_ble_eq_true rfl) ?_
  intro p e s m below meth c ls X hP hl
  obtain ⟨⟨hx, hb, hml, hown, hts⟩, hr, hlk, hK⟩ := id X
  have hl : lv_has ls 6 [(0, .ref (a 0)), (1, .int x1)] := hl
  have LP : ∀ n : Nat, (∀ (y2 : Int32) (y3 : Int32) (ls : Array Slot), I4 n y2 y3 → lv_has ls 6 [(0, .ref (a 0)), (1, .int x1), (2, .int y2), (3, .int y3)] → W p l e rm_X5_liveOf s m [.ref (a 0), .int x1].toArray below meth c s.heap [] 0 0 (MQ below (vp_Si Q) [.ref (a 0), .int x1].toArray s 0 0 (fun _ => False)) (F0 m 4 ls [])) := by
    intro n
    induction n using Nat.strongRecOn with
    | _ n ih =>
      intro y2 y3 ls hI hl
      have hf := h4 n y2 y3 hI
      unfold t_X5_liveOf_4 at hf
      refine lv_iload_n hx hb dX5_liveOf_4 rfl (lv_at hl 3 rfl) ?_
      refine lv_aload_n hx hb dX5_liveOf_5 rfl (lv_at hl 0 rfl) ?_
      refine va_get (D := (dC, dI)) (ci := 4) (v := .ref (a 3)) (C := RX5) (T := TX5) (N := 9) hx hb hts inX5 hown hK hP 0 rfl rfl 2 (by decide) (hts _ q_fl_X5_28) (fun _ h9 => h9) rfl dX5_liveOf_6 ?_
      refine lv_iload_n hx hb dX5_liveOf_9 rfl (lv_at hl 1 rfl) ?_
      refine z_cVi (As := [.int x1]) (rest := [.int y3]) X (c_X4_countOf l dC dI cI cJ cS (fun i => a (3 + i)) u.2.2.1 x1 _ hf) zc_X4_countOf q_ml_X5_246 ⟨rfl, rfl⟩ ⟨Nat.le_of_ble_eq_true rfl, Nat.le_of_ble_eq_true rfl⟩ hP [3, 4, 5, 6, 7] rfl 3 rfl rfl hl.1 rfl rfl (Nat.le_of_ble_eq_true rfl) ⟨Nat.zero_le _, Nat.zero_le _⟩ dX5_liveOf_10 (fun r_2 hf => ?_)
      refine lv_icmp_ge (tgt := 54) hx hb dX5_liveOf_13 (by decide) (fun c_3 => ?_) (fun c_3 => ?_)
      · have hf := hf.1 c_3
        refine lv_iload_n hx hb dX5_liveOf_54 rfl (lv_at hl 2 rfl) ?_
        exact z_retPi X hf dX5_liveOf_55
      · have hf := hf.2 c_3
        refine lv_aload_n hx hb dX5_liveOf_16 rfl (lv_at hl 0 rfl) ?_
        refine va_get (D := (dC, dI)) (ci := 4) (v := .ref (a 3)) (C := RX5) (T := TX5) (N := 9) hx hb hts inX5 hown hK hP 0 rfl rfl 2 (by decide) (hts _ q_fl_X5_28) (fun _ h9 => h9) rfl dX5_liveOf_17 ?_
        refine lv_iload_n hx hb dX5_liveOf_20 rfl (lv_at hl 1 rfl) ?_
        refine lv_iload_n hx hb dX5_liveOf_21 rfl (lv_at hl 3 rfl) ?_
        refine z_cVl (As := [.int x1, .int y3]) (rest := []) X (c_X4_cardAt l dC dI cI cJ cS (fun i => a (3 + i)) u.2.2.1 x1 y3 _ hf) zc_X4_cardAt q_ml_X5_249 ⟨rfl, rfl⟩ ⟨Nat.le_of_ble_eq_true rfl, Nat.le_of_ble_eq_true rfl⟩ hP [3, 4, 5, 6, 7] rfl 3 rfl rfl hl.1 rfl rfl (Nat.le_of_ble_eq_true rfl) ⟨Nat.zero_le _, Nat.zero_le _⟩ dX5_liveOf_22 (fun r_4 hf => ?_)
        refine lv_lstore (lv' := [(4, .long r_4), (0, .ref (a 0)), (1, .int x1), (2, .int y2), (3, .int y3)]) hx hb dX5_liveOf_25 hl (by decide) rfl (fun ls hl => ?_)
        refine lv_iload_n hx hb dX5_liveOf_27 rfl (lv_at hl 3 rfl) ?_
        refine lv_aload_n hx hb dX5_liveOf_28 rfl (lv_at hl 1 rfl) ?_
        refine lv_lload hx hb dX5_liveOf_29 (lv_at hl 0 rfl) ?_
        refine z_cVi (As := [.long r_4]) (rest := [.int y2]) X (c_X5_isLive l dC dI cI cJ cS a u r_4 _ hf) zc_X5_isLive q_ml_X5_141 ⟨rfl, rfl⟩ ⟨Nat.le_of_ble_eq_true rfl, Nat.le_of_ble_eq_true rfl⟩ hP [0, 1, 2, 3, 4, 5, 6, 7, 8, 9, 10, 11, 12, 13, 14] rfl 4 rfl rfl hl.1 rfl rfl (Nat.le_of_ble_eq_true rfl) ⟨Nat.zero_le _, Nat.zero_le _⟩ dX5_liveOf_31 (fun r_5 hf => ?_)
        obtain ⟨hbr_5, hf⟩ := hf
        refine lv_if_eq (tgt := 45) hx hb dX5_liveOf_34 (by decide) (fun c_6 => ?_) (fun c_6 => ?_)
        · have hf := hf.1 c_6
          refine lv_iconst (v := 0) hx hb dX5_liveOf_45 (by decide) ?_
          refine lv_iadd hx hb dX5_liveOf_46 ?_
          refine lv_topi (fun x_7 ex_7 => ?_)
          have hf := hf x_7 ex_7
          refine lv_istore_n (lv' := [(2, .int x_7), (4, .long r_4), (0, .ref (a 0)), (1, .int x1), (3, .int y3)]) hx hb dX5_liveOf_47 rfl hl (by decide) rfl (fun ls hl => ?_)
          obtain ⟨x_8, ex_8⟩ : ∃ y : Int32, y = y3 + (1 : Int32) := ⟨_, rfl⟩
          have hf := hf x_8 ex_8
          refine lv_iinc (v := x_8) (lv' := [(3, .int x_8), (2, .int x_7), (4, .long r_4), (0, .ref (a 0)), (1, .int x1)]) hx hb dX5_liveOf_48 hl (k := 4) rfl (by rw [ex_8]; rfl) (by decide) rfl (fun ls hl => ?_)
          refine lv_goto (tgt := 4) hx hb dX5_liveOf_51 (by decide) ?_
          obtain ⟨k_9, hk_9, hf⟩ := hf
          exact (ih k_9 hk_9) _ _ ls hf (lv_sub hl [3, 4, 1, 0] rfl)
        · have hf := hf.2 c_6
          refine lv_lload hx hb dX5_liveOf_37 (lv_at hl 0 rfl) ?_
          refine z_cSi (As := [.long r_4]) (rest := [.int y2]) X (c_X0_sizeOf l dC dI cI cJ cS   r_4 _ hf) zc_X0_sizeOf q_ml_X5_145 ⟨rfl, rfl⟩ ⟨Nat.le_of_ble_eq_true rfl, Nat.le_of_ble_eq_true rfl⟩ hP [] rfl hl.1 rfl rfl (Nat.le_of_ble_eq_true rfl) ⟨Nat.zero_le _, Nat.zero_le _⟩ dX5_liveOf_39 (fun r_10 hf => ?_)
          refine lv_goto (tgt := 46) hx hb dX5_liveOf_42 (by decide) ?_
          refine lv_iadd hx hb dX5_liveOf_46 ?_
          refine lv_topi (fun x_11 ex_11 => ?_)
          have hf := hf x_11 ex_11
          refine lv_istore_n (lv' := [(2, .int x_11), (4, .long r_4), (0, .ref (a 0)), (1, .int x1), (3, .int y3)]) hx hb dX5_liveOf_47 rfl hl (by decide) rfl (fun ls hl => ?_)
          obtain ⟨x_12, ex_12⟩ : ∃ y : Int32, y = y3 + (1 : Int32) := ⟨_, rfl⟩
          have hf := hf x_12 ex_12
          refine lv_iinc (v := x_12) (lv' := [(3, .int x_12), (2, .int x_11), (4, .long r_4), (0, .ref (a 0)), (1, .int x1)]) hx hb dX5_liveOf_48 hl (k := 4) rfl (by rw [ex_12]; rfl) (by decide) rfl (fun ls hl => ?_)
          refine lv_goto (tgt := 4) hx hb dX5_liveOf_51 (by decide) ?_
          obtain ⟨k_13, hk_13, hf⟩ := hf
          exact (ih k_13 hk_13) _ _ ls hf (lv_sub hl [3, 4, 1, 0] rfl)
  unfold t_X5_liveOf_e at hf
  refine lv_iconst (v := 0) hx hb dX5_liveOf_0 (by decide) ?_
  refine lv_istore_n (lv' := [(2, .int (0 : Int32)), (0, .ref (a 0)), (1, .int x1)]) hx hb dX5_liveOf_1 rfl hl (by decide) rfl (fun ls hl => ?_)
  refine lv_iconst (v := 0) hx hb dX5_liveOf_2 (by decide) ?_
  refine lv_istore_n (lv' := [(3, .int (0 : Int32)), (2, .int (0 : Int32)), (0, .ref (a 0)), (1, .int x1)]) hx hb dX5_liveOf_3 rfl hl (by decide) rfl (fun ls hl => ?_)
  obtain ⟨k_1, hf⟩ := hf
  exact (LP k_1) _ _ ls hf (lv_sub hl [2, 3, 1, 0] rfl)
def s_X5_liveOf (u : zState) (x1 : Int32) (Q : Int32 → Prop) : Prop := zOk u ∧ ∃ s : Nat, s < 12 ∧ x1 = nI s ∧ Q (uLive u s)
theorem st_X5_liveOf {u : zState} {x1 : Int32} {Q : Int32 → Prop} (h : s_X5_liveOf u x1 Q) : v_X5_liveOf u x1 Q := by
  obtain ⟨ho, s, hs, rfl, h⟩ := h
  have hc := ho.cl hs
  refine zlp2 (T := fun y y' K => t_X5_liveOf_4 u (nI s) y y' K Q) (E := fun K => t_X5_liveOf_e u (nI s) K Q) (cN u s) (fun i => l_sum (fun k => if uLiv u (uRec u s k) then 4 + cLen (uRec u s k) else 0) i) (fun i => nI i) (fun K hK => hK) ?_ ?_
  · intro i hi K hK
    refine ⟨s, hs, rfl, ?_⟩
    rw [ho.c hs]
    refine ⟨fun c => absurd c (nI_ge hi (by omega)), fun _ => ⟨s, cN u s, hs, hc, rfl, ho.c hs, Or.inl ⟨i, hi, rfl, ho, fun hl => ⟨fun q => absurd q (by decide), fun _ x e x' e' => ?_⟩, fun hl => ⟨fun _ x e x' e' => ?_, fun q => absurd rfl q⟩⟩⟩⟩
    · rw [e, e', nI_1]
      have : l_sum (fun k => if uLiv u (uRec u s k) then 4 + cLen (uRec u s k) else 0) (i + 1) = l_sum (fun k => if uLiv u (uRec u s k) then 4 + cLen (uRec u s k) else 0) i + (4 + cLen (uRec u s i)) := by
        show _ + (if uLiv u (uRec u s i) then _ else _) = _
        rw [if_pos hl]
      rw [this] at hK; exact hK
    · rw [e, e', nI_1]
      have : l_sum (fun k => if uLiv u (uRec u s k) then 4 + cLen (uRec u s k) else 0) (i + 1) = l_sum (fun k => if uLiv u (uRec u s k) then 4 + cLen (uRec u s k) else 0) i + 0 := by
        show _ + (if uLiv u (uRec u s i) then _ else _) = _
        rw [if_neg (by rw [hl]; decide)]
      rw [this] at hK; exact hK
  · intro K
    refine ⟨s, hs, rfl, ?_⟩
    rw [ho.c hs]
    exact ⟨fun _ => h, fun c => absurd (nI_le (Nat.le_refl _) (by omega)) c⟩
theorem c_X5_liveOf (l : Launch) (dC : Nat → ClassId) (dI : Nat → Nat → Nat) (cI cJ cS : ClassId) (a : Nat → Nat) (u : zState) (x1 : Int32) (Q : Int32 → Prop) (hf : s_X5_liveOf u x1 Q) : Met l yX5_liveOf (Cond.code yX5_liveOf cX5_liveOf 6 (some .int) :: zT) rm_X5_liveOf (zPp dC dI cI cJ cS (cl_X5 cI cJ a u) [.ref (a 0), .int x1]) (vp_Si Q) 0 0 (fun _ => False) := by
  obtain ⟨I4, h4, hf⟩ := st_X5_liveOf hf
  exact L_X5_liveOf l dC dI cI cJ cS a u x1 Q I4 h4 hf

def t_X5_deadOf (u : zState) (x1 : Int32) (Q : Int32 → Prop) : Prop := s_X4_takenOf u.2.2.1 x1 (fun r_1 : Int32 => s_X5_liveOf u x1 (fun r_2 : Int32 => Q (r_1 - r_2)))
theorem zc_X5_deadOf : zCalV RX5 yX5_deadOf cX5_deadOf 2 (some .int) 1 := ⟨q_im_X5_deadOf, q_se_X5_deadOf, q_in_X5, q_cd_X5_deadOf, ⟨by decide, by decide, by decide +kernel⟩, rfl⟩
abbrev rm_X5_deadOf : Room := { frames := 4, cells := 0, slots := 0, locals := 91 }
set_option maxHeartbeats 4000000 in
set_option maxRecDepth 100000 in
theorem L_X5_deadOf (l : Launch) (dC : Nat → ClassId) (dI : Nat → Nat → Nat) (cI cJ cS : ClassId) (a : Nat → Nat) (u : zState) (x1 : Int32) (Q : Int32 → Prop) (hf : t_X5_deadOf u x1 Q) : Met l yX5_deadOf (Cond.code yX5_deadOf cX5_deadOf 2 (some .int) :: zT) rm_X5_deadOf (zPp dC dI cI cJ cS (cl_X5 cI cJ a u) [.ref (a 0), .int x1]) (vp_Si Q) 0 0 (fun _ => False) := by
  refine z_enterP (cc := cX5_deadOf) (maxL := 2) (ret := (some .int)) (by decide) (Nat.le_of_ble_eq_true rfl) ?_
  intro p e s m below meth c ls X hP hl
  obtain ⟨⟨hx, hb, hml, hown, hts⟩, hr, hlk, hK⟩ := id X
  have hl : lv_has ls 2 [(0, .ref (a 0)), (1, .int x1)] := hl
  unfold t_X5_deadOf at hf
  refine lv_aload_n hx hb dX5_deadOf_0 rfl (lv_at hl 0 rfl) ?_
  refine va_get (D := (dC, dI)) (ci := 4) (v := .ref (a 3)) (C := RX5) (T := TX5) (N := 9) hx hb hts inX5 hown hK hP 0 rfl rfl 2 (by decide) (hts _ q_fl_X5_28) (fun _ h9 => h9) rfl dX5_deadOf_1 ?_
  refine lv_iload_n hx hb dX5_deadOf_4 rfl (lv_at hl 1 rfl) ?_
  refine z_cVi (As := [.int x1]) (rest := []) X (c_X4_takenOf l dC dI cI cJ cS (fun i => a (3 + i)) u.2.2.1 x1 _ hf) zc_X4_takenOf q_ml_X5_293 ⟨rfl, rfl⟩ ⟨Nat.le_of_ble_eq_true rfl, Nat.le_of_ble_eq_true rfl⟩ hP [3, 4, 5, 6, 7] rfl 3 rfl rfl hl.1 rfl rfl (Nat.le_of_ble_eq_true rfl) ⟨Nat.zero_le _, Nat.zero_le _⟩ dX5_deadOf_5 (fun r_1 hf => ?_)
  refine lv_aload_n hx hb dX5_deadOf_8 rfl (lv_at hl 0 rfl) ?_
  refine lv_iload_n hx hb dX5_deadOf_9 rfl (lv_at hl 1 rfl) ?_
  refine z_cVi (As := [.int x1]) (rest := [.int r_1]) X (c_X5_liveOf l dC dI cI cJ cS a u x1 _ hf) zc_X5_liveOf q_ml_X5_302 ⟨rfl, rfl⟩ ⟨Nat.le_of_ble_eq_true rfl, Nat.le_of_ble_eq_true rfl⟩ hP [0, 1, 2, 3, 4, 5, 6, 7, 8, 9, 10, 11, 12, 13, 14] rfl 4 rfl rfl hl.1 rfl rfl (Nat.le_of_ble_eq_true rfl) ⟨Nat.zero_le _, Nat.zero_le _⟩ dX5_deadOf_10 (fun r_2 hf => ?_)
  refine lv_isub hx hb dX5_deadOf_13 ?_
  exact z_retPi X hf dX5_deadOf_14
def s_X5_deadOf (u : zState) (x1 : Int32) (Q : Int32 → Prop) : Prop := zOk u ∧ ∃ s : Nat, s < 12 ∧ x1 = nI s ∧ Q (u.2.2.1.2.2.1 s - uLive u s)
theorem st_X5_deadOf {u : zState} {x1 : Int32} {Q : Int32 → Prop} (h : s_X5_deadOf u x1 Q) : t_X5_deadOf u x1 Q := by
  obtain ⟨ho, s, hs, rfl, h⟩ := h
  exact ⟨s, hs, rfl, ho, s, hs, rfl, h⟩
theorem c_X5_deadOf (l : Launch) (dC : Nat → ClassId) (dI : Nat → Nat → Nat) (cI cJ cS : ClassId) (a : Nat → Nat) (u : zState) (x1 : Int32) (Q : Int32 → Prop) (hf : s_X5_deadOf u x1 Q) : Met l yX5_deadOf (Cond.code yX5_deadOf cX5_deadOf 2 (some .int) :: zT) rm_X5_deadOf (zPp dC dI cI cJ cS (cl_X5 cI cJ a u) [.ref (a 0), .int x1]) (vp_Si Q) 0 0 (fun _ => False) := L_X5_deadOf l dC dI cI cJ cS a u x1 Q (st_X5_deadOf hf)

def t_X5_liveOfAll_e (u : zState) (K4 : Int32 → Int32 → Prop) (Q : Int32 → Prop) : Prop := K4 (0 : Int32) (0 : Int32)
def t_X5_liveOfAll_4 (u : zState) (y1 : Int32) (y2 : Int32) (K4 : Int32 → Int32 → Prop) (Q : Int32 → Prop) : Prop := (((12 : Int32) ≤ y2 → Q y1) ∧ (¬ (12 : Int32) ≤ y2 → s_X5_liveOf u y2 (fun r_3 : Int32 => ∀ x_4 : Int32, x_4 = (y1 + r_3) → ∀ x_5 : Int32, x_5 = y2 + (1 : Int32) → K4 x_4 x_5)))
theorem zc_X5_liveOfAll : zCalV RX5 yX5_liveOfAll cX5_liveOfAll 3 (some .int) 0 := ⟨q_im_X5_liveOfAll, q_se_X5_liveOfAll, q_in_X5, q_cd_X5_liveOfAll, ⟨by decide, by decide, by decide +kernel⟩, rfl⟩
abbrev rm_X5_liveOfAll : Room := { frames := 4, cells := 0, slots := 0, locals := 91 }
def v_X5_liveOfAll (u : zState) (Q : Int32 → Prop) : Prop := ∃ I4 : Nat → Int32 → Int32 → Prop, (∀ (n : Nat) (y1 : Int32) (y2 : Int32), I4 n y1 y2 → t_X5_liveOfAll_4 u y1 y2 (fun q0 q1 => ∃ k : Nat, k < n ∧ I4 k q0 q1) Q) ∧ t_X5_liveOfAll_e u (fun q0 q1 => ∃ k : Nat, I4 k q0 q1) Q
set_option maxHeartbeats 4000000 in
set_option maxRecDepth 100000 in
theorem L_X5_liveOfAll (l : Launch) (dC : Nat → ClassId) (dI : Nat → Nat → Nat) (cI cJ cS : ClassId) (a : Nat → Nat) (u : zState) (Q : Int32 → Prop) (I4 : Nat → Int32 → Int32 → Prop) (h4 : ∀ (n : Nat) (y1 : Int32) (y2 : Int32), I4 n y1 y2 → t_X5_liveOfAll_4 u y1 y2 (fun q0 q1 => ∃ k : Nat, k < n ∧ I4 k q0 q1) Q) (hf : t_X5_liveOfAll_e u (fun q0 q1 => ∃ k : Nat, I4 k q0 q1) Q) : Met l yX5_liveOfAll (Cond.code yX5_liveOfAll cX5_liveOfAll 3 (some .int) :: zT) rm_X5_liveOfAll (zPp dC dI cI cJ cS (cl_X5 cI cJ a u) [.ref (a 0)]) (vp_Si Q) 0 0 (fun _ => False) := by
  refine z_enterP (cc := cX5_liveOfAll) (maxL := 3) (ret := (some .int)) (by decide) (Nat.le_of_ble_eq_true rfl) ?_
  intro p e s m below meth c ls X hP hl
  obtain ⟨⟨hx, hb, hml, hown, hts⟩, hr, hlk, hK⟩ := id X
  have hl : lv_has ls 3 [(0, .ref (a 0))] := hl
  have LP : ∀ n : Nat, (∀ (y1 : Int32) (y2 : Int32) (ls : Array Slot), I4 n y1 y2 → lv_has ls 3 [(0, .ref (a 0)), (1, .int y1), (2, .int y2)] → W p l e rm_X5_liveOfAll s m [.ref (a 0)].toArray below meth c s.heap [] 0 0 (MQ below (vp_Si Q) [.ref (a 0)].toArray s 0 0 (fun _ => False)) (F0 m 4 ls [])) := by
    intro n
    induction n using Nat.strongRecOn with
    | _ n ih =>
      intro y1 y2 ls hI hl
      have hf := h4 n y1 y2 hI
      unfold t_X5_liveOfAll_4 at hf
      refine lv_iload_n hx hb dX5_liveOfAll_4 rfl (lv_at hl 2 rfl) ?_
      refine lv_bipush (v := 12) hx hb dX5_liveOfAll_5 (by decide) ?_
      refine lv_icmp_ge (tgt := 24) hx hb dX5_liveOfAll_7 (by decide) (fun c_2 => ?_) (fun c_2 => ?_)
      · have hf := hf.1 c_2
        refine lv_iload_n hx hb dX5_liveOfAll_24 rfl (lv_at hl 1 rfl) ?_
        exact z_retPi X hf dX5_liveOfAll_25
      · have hf := hf.2 c_2
        refine lv_iload_n hx hb dX5_liveOfAll_10 rfl (lv_at hl 1 rfl) ?_
        refine lv_aload_n hx hb dX5_liveOfAll_11 rfl (lv_at hl 0 rfl) ?_
        refine lv_iload_n hx hb dX5_liveOfAll_12 rfl (lv_at hl 2 rfl) ?_
        refine z_cVi (As := [.int y2]) (rest := [.int y1]) X (c_X5_liveOf l dC dI cI cJ cS a u y2 _ hf) zc_X5_liveOf q_ml_X5_302 ⟨rfl, rfl⟩ ⟨Nat.le_of_ble_eq_true rfl, Nat.le_of_ble_eq_true rfl⟩ hP [0, 1, 2, 3, 4, 5, 6, 7, 8, 9, 10, 11, 12, 13, 14] rfl 4 rfl rfl hl.1 rfl rfl (Nat.le_of_ble_eq_true rfl) ⟨Nat.zero_le _, Nat.zero_le _⟩ dX5_liveOfAll_13 (fun r_3 hf => ?_)
        refine lv_iadd hx hb dX5_liveOfAll_16 ?_
        refine lv_topi (fun x_4 ex_4 => ?_)
        have hf := hf x_4 ex_4
        refine lv_istore_n (lv' := [(1, .int x_4), (0, .ref (a 0)), (2, .int y2)]) hx hb dX5_liveOfAll_17 rfl hl (by decide) rfl (fun ls hl => ?_)
        obtain ⟨x_5, ex_5⟩ : ∃ y : Int32, y = y2 + (1 : Int32) := ⟨_, rfl⟩
        have hf := hf x_5 ex_5
        refine lv_iinc (v := x_5) (lv' := [(2, .int x_5), (1, .int x_4), (0, .ref (a 0))]) hx hb dX5_liveOfAll_18 hl (k := 2) rfl (by rw [ex_5]; rfl) (by decide) rfl (fun ls hl => ?_)
        refine lv_goto (tgt := 4) hx hb dX5_liveOfAll_21 (by decide) ?_
        obtain ⟨k_6, hk_6, hf⟩ := hf
        exact (ih k_6 hk_6) _ _ ls hf (lv_sub hl [2, 1, 0] rfl)
  unfold t_X5_liveOfAll_e at hf
  refine lv_iconst (v := 0) hx hb dX5_liveOfAll_0 (by decide) ?_
  refine lv_istore_n (lv' := [(1, .int (0 : Int32)), (0, .ref (a 0))]) hx hb dX5_liveOfAll_1 rfl hl (by decide) rfl (fun ls hl => ?_)
  refine lv_iconst (v := 0) hx hb dX5_liveOfAll_2 (by decide) ?_
  refine lv_istore_n (lv' := [(2, .int (0 : Int32)), (1, .int (0 : Int32)), (0, .ref (a 0))]) hx hb dX5_liveOfAll_3 rfl hl (by decide) rfl (fun ls hl => ?_)
  obtain ⟨k_1, hf⟩ := hf
  exact (LP k_1) _ _ ls hf (lv_sub hl [2, 1, 0] rfl)
def s_X5_liveOfAll (u : zState) (Q : Int32 → Prop) : Prop := zOk u ∧ Q (l_sum (uLive u) 12)
theorem st_X5_liveOfAll {u : zState} {Q : Int32 → Prop} (h : s_X5_liveOfAll u Q) : v_X5_liveOfAll u Q := by
  obtain ⟨ho, h⟩ := h
  refine zlp2 (T := fun y y' K => t_X5_liveOfAll_4 u y y' K Q) (E := fun K => t_X5_liveOfAll_e u K Q) 12 (fun i => l_sum (uLive u) i) (fun i => nI i) (fun K hK => hK) ?_ ?_
  · intro i hi K hK
    refine ⟨fun c => absurd c (ge12 hi), fun _ => ⟨ho, i, hi, rfl, fun x e x' e' => ?_⟩⟩
    rw [e, e', nI_1]; exact hK
  · intro K
    exact ⟨fun _ => h, fun c => absurd (le12 (Nat.le_refl _) (by decide)) c⟩
theorem c_X5_liveOfAll (l : Launch) (dC : Nat → ClassId) (dI : Nat → Nat → Nat) (cI cJ cS : ClassId) (a : Nat → Nat) (u : zState) (Q : Int32 → Prop) (hf : s_X5_liveOfAll u Q) : Met l yX5_liveOfAll (Cond.code yX5_liveOfAll cX5_liveOfAll 3 (some .int) :: zT) rm_X5_liveOfAll (zPp dC dI cI cJ cS (cl_X5 cI cJ a u) [.ref (a 0)]) (vp_Si Q) 0 0 (fun _ => False) := by
  obtain ⟨I4, h4, hf⟩ := st_X5_liveOfAll hf
  exact L_X5_liveOfAll l dC dI cI cJ cS a u Q I4 h4 hf

def t_X5_liveInHundredths (u : zState) (Q : Int32 → Prop) : Prop := s_X5_spare u (fun r_1 : Int32 => s_X4_takenOfAll u.2.2.1 (fun r_2 : Int32 => ∀ x_3 : Int32, x_3 = (r_1 + r_2) → ((0 < x_3 → s_X5_liveOfAll u (fun r_5 : Int32 => (¬ x_3 = 0) ∧ Q (((100 : Int32) * r_5) / x_3))) ∧ (¬ 0 < x_3 → Q (0 : Int32)))))
theorem zc_X5_liveInHundredths : zCalV RX5 yX5_liveInHundredths cX5_liveInHundredths 2 (some .int) 0 := ⟨q_im_X5_liveInHundredths, q_se_X5_liveInHundredths, q_in_X5, q_cd_X5_liveInHundredths, ⟨by decide, by decide, by decide +kernel⟩, rfl⟩
abbrev rm_X5_liveInHundredths : Room := { frames := 5, cells := 0, slots := 0, locals := 113 }
set_option maxHeartbeats 4000000 in
set_option maxRecDepth 100000 in
theorem L_X5_liveInHundredths (l : Launch) (dC : Nat → ClassId) (dI : Nat → Nat → Nat) (cI cJ cS : ClassId) (a : Nat → Nat) (u : zState) (Q : Int32 → Prop) (hf : t_X5_liveInHundredths u Q) : Met l yX5_liveInHundredths (Cond.code yX5_liveInHundredths cX5_liveInHundredths 2 (some .int) :: zT) rm_X5_liveInHundredths (zPp dC dI cI cJ cS (cl_X5 cI cJ a u) [.ref (a 0)]) (vp_Si Q) 0 0 (fun _ => False) := by
  refine z_enterP (cc := cX5_liveInHundredths) (maxL := 2) (ret := (some .int)) (by decide) (Nat.le_of_ble_eq_true rfl) ?_
  intro p e s m below meth c ls X hP hl
  obtain ⟨⟨hx, hb, hml, hown, hts⟩, hr, hlk, hK⟩ := id X
  have hl : lv_has ls 2 [(0, .ref (a 0))] := hl
  unfold t_X5_liveInHundredths at hf
  refine lv_aload_n hx hb dX5_liveInHundredths_0 rfl (lv_at hl 0 rfl) ?_
  refine z_cVi (As := []) (rest := []) X (c_X5_spare l dC dI cI cJ cS a u  _ hf) zc_X5_spare q_ml_X5_305 ⟨rfl, rfl⟩ ⟨Nat.le_of_ble_eq_true rfl, Nat.le_of_ble_eq_true rfl⟩ hP [0, 1, 2, 3, 4, 5, 6, 7, 8, 9, 10, 11, 12, 13, 14] rfl 4 rfl rfl hl.1 rfl rfl (Nat.le_of_ble_eq_true rfl) ⟨Nat.zero_le _, Nat.zero_le _⟩ dX5_liveInHundredths_1 (fun r_1 hf => ?_)
  refine lv_aload_n hx hb dX5_liveInHundredths_4 rfl (lv_at hl 0 rfl) ?_
  refine va_get (D := (dC, dI)) (ci := 4) (v := .ref (a 3)) (C := RX5) (T := TX5) (N := 9) hx hb hts inX5 hown hK hP 0 rfl rfl 2 (by decide) (hts _ q_fl_X5_28) (fun _ h9 => h9) rfl dX5_liveInHundredths_5 ?_
  refine z_cVi (As := []) (rest := [.int r_1]) X (c_X4_takenOfAll l dC dI cI cJ cS (fun i => a (3 + i)) u.2.2.1  _ hf) zc_X4_takenOfAll q_ml_X5_308 ⟨rfl, rfl⟩ ⟨Nat.le_of_ble_eq_true rfl, Nat.le_of_ble_eq_true rfl⟩ hP [3, 4, 5, 6, 7] rfl 3 rfl rfl hl.1 rfl rfl (Nat.le_of_ble_eq_true rfl) ⟨Nat.zero_le _, Nat.zero_le _⟩ dX5_liveInHundredths_8 (fun r_2 hf => ?_)
  refine lv_iadd hx hb dX5_liveInHundredths_11 ?_
  refine lv_topi (fun x_3 ex_3 => ?_)
  have hf := hf x_3 ex_3
  refine lv_istore_n (lv' := [(1, .int x_3), (0, .ref (a 0))]) hx hb dX5_liveInHundredths_12 rfl hl (by decide) rfl (fun ls hl => ?_)
  refine lv_iload_n hx hb dX5_liveInHundredths_13 rfl (lv_at hl 0 rfl) ?_
  refine lv_if_gt (tgt := 21) hx hb dX5_liveInHundredths_14 (by decide) (fun c_4 => ?_) (fun c_4 => ?_)
  · have hf := hf.1 c_4
    refine lv_bipush (v := 100) hx hb dX5_liveInHundredths_21 (by decide) ?_
    refine lv_aload_n hx hb dX5_liveInHundredths_23 rfl (lv_at hl 1 rfl) ?_
    refine z_cVi (As := []) (rest := [.int (100 : Int32)]) X (c_X5_liveOfAll l dC dI cI cJ cS a u  _ hf) zc_X5_liveOfAll q_ml_X5_311 ⟨rfl, rfl⟩ ⟨Nat.le_of_ble_eq_true rfl, Nat.le_of_ble_eq_true rfl⟩ hP [0, 1, 2, 3, 4, 5, 6, 7, 8, 9, 10, 11, 12, 13, 14] rfl 4 rfl rfl hl.1 rfl rfl (Nat.le_of_ble_eq_true rfl) ⟨Nat.zero_le _, Nat.zero_le _⟩ dX5_liveInHundredths_24 (fun r_5 hf => ?_)
    refine lv_imul hx hb dX5_liveInHundredths_27 ?_
    refine lv_iload_n hx hb dX5_liveInHundredths_28 rfl (lv_at hl 0 rfl) ?_
    obtain ⟨hg, hf⟩ := hf
    refine lv_idiv hx hb dX5_liveInHundredths_29 hg ?_
    exact z_retPi X hf dX5_liveInHundredths_30
  · have hf := hf.2 c_4
    refine lv_iconst (v := 0) hx hb dX5_liveInHundredths_17 (by decide) ?_
    refine lv_goto (tgt := 30) hx hb dX5_liveInHundredths_18 (by decide) ?_
    exact z_retPi X hf dX5_liveInHundredths_30
def s_X5_liveInHundredths (u : zState) (Q : Int32 → Prop) : Prop := zOk u ∧ 0 < uSpare u + l_sum u.2.2.1.2.2.1 12 ∧ Q (100 * l_sum (uLive u) 12 / (uSpare u + l_sum u.2.2.1.2.2.1 12))
theorem st_X5_liveInHundredths {u : zState} {Q : Int32 → Prop} (h : s_X5_liveInHundredths u Q) : t_X5_liveInHundredths u Q := by
  obtain ⟨ho, hx, h⟩ := h
  refine ⟨ho, fun x e => ?_⟩
  subst e
  exact ⟨fun _ => ⟨ho, fun q => by rw [q] at hx; exact absurd hx (by decide), h⟩, fun q => absurd hx q⟩
theorem c_X5_liveInHundredths (l : Launch) (dC : Nat → ClassId) (dI : Nat → Nat → Nat) (cI cJ cS : ClassId) (a : Nat → Nat) (u : zState) (Q : Int32 → Prop) (hf : s_X5_liveInHundredths u Q) : Met l yX5_liveInHundredths (Cond.code yX5_liveInHundredths cX5_liveInHundredths 2 (some .int) :: zT) rm_X5_liveInHundredths (zPp dC dI cI cJ cS (cl_X5 cI cJ a u) [.ref (a 0)]) (vp_Si Q) 0 0 (fun _ => False) := L_X5_liveInHundredths l dC dI cI cJ cS a u Q (st_X5_liveInHundredths hf)

def t_X5_poorest_e (u : zState) (K6 : Int32 → Int32 → Int32 → Prop) (Q : Int32 → Prop) : Prop := K6 (-1 : Int32) (0 : Int32) (0 : Int32)
def t_X5_poorest_6 (u : zState) (y1 : Int32) (y2 : Int32) (y3 : Int32) (K6 : Int32 → Int32 → Int32 → Prop) (Q : Int32 → Prop) : Prop := (((12 : Int32) ≤ y3 → Q y1) ∧ (¬ (12 : Int32) ≤ y3 → s_X4_kindOf u.2.2.1 y3 (fun r_3 : Int32 => ((¬ r_3 = (2 : Int32) → ∀ x_5 : Int32, x_5 = y3 + (1 : Int32) → K6 y1 y2 x_5) ∧ (r_3 = (2 : Int32) → s_X5_liveOf u y3 (fun r_7 : Int32 => ((y1 = (-1 : Int32) → ∀ x_9 : Int32, x_9 = y3 + (1 : Int32) → K6 y3 r_7 x_9) ∧ (¬ y1 = (-1 : Int32) → ((y2 ≤ r_7 → ∀ x_12 : Int32, x_12 = y3 + (1 : Int32) → K6 y1 y2 x_12) ∧ (¬ y2 ≤ r_7 → ∀ x_14 : Int32, x_14 = y3 + (1 : Int32) → K6 y3 r_7 x_14))))))))))
theorem zc_X5_poorest : zCalV RX5 yX5_poorest cX5_poorest 5 (some .int) 0 := ⟨q_im_X5_poorest, q_se_X5_poorest, q_in_X5, q_cd_X5_poorest, ⟨by decide, by decide, by decide +kernel⟩, rfl⟩
abbrev rm_X5_poorest : Room := { frames := 4, cells := 0, slots := 0, locals := 91 }
def v_X5_poorest (u : zState) (Q : Int32 → Prop) : Prop := ∃ I6 : Nat → Int32 → Int32 → Int32 → Prop, (∀ (n : Nat) (y1 : Int32) (y2 : Int32) (y3 : Int32), I6 n y1 y2 y3 → t_X5_poorest_6 u y1 y2 y3 (fun q0 q1 q2 => ∃ k : Nat, k < n ∧ I6 k q0 q1 q2) Q) ∧ t_X5_poorest_e u (fun q0 q1 q2 => ∃ k : Nat, I6 k q0 q1 q2) Q
set_option maxHeartbeats 4000000 in
set_option maxRecDepth 100000 in
theorem L_X5_poorest (l : Launch) (dC : Nat → ClassId) (dI : Nat → Nat → Nat) (cI cJ cS : ClassId) (a : Nat → Nat) (u : zState) (Q : Int32 → Prop) (I6 : Nat → Int32 → Int32 → Int32 → Prop) (h6 : ∀ (n : Nat) (y1 : Int32) (y2 : Int32) (y3 : Int32), I6 n y1 y2 y3 → t_X5_poorest_6 u y1 y2 y3 (fun q0 q1 q2 => ∃ k : Nat, k < n ∧ I6 k q0 q1 q2) Q) (hf : t_X5_poorest_e u (fun q0 q1 q2 => ∃ k : Nat, I6 k q0 q1 q2) Q) : Met l yX5_poorest (Cond.code yX5_poorest cX5_poorest 5 (some .int) :: zT) rm_X5_poorest (zPp dC dI cI cJ cS (cl_X5 cI cJ a u) [.ref (a 0)]) (vp_Si Q) 0 0 (fun _ => False) := by
  refine z_enterP (cc := cX5_poorest) (maxL := 5) (ret := (some .int)) (by decide) (Nat.le_of_ble_eq_true rfl) ?_
  intro p e s m below meth c ls X hP hl
  obtain ⟨⟨hx, hb, hml, hown, hts⟩, hr, hlk, hK⟩ := id X
  have hl : lv_has ls 5 [(0, .ref (a 0))] := hl
  have LP : ∀ n : Nat, (∀ (y1 : Int32) (y2 : Int32) (y3 : Int32) (ls : Array Slot), I6 n y1 y2 y3 → lv_has ls 5 [(0, .ref (a 0)), (1, .int y1), (2, .int y2), (3, .int y3)] → W p l e rm_X5_poorest s m [.ref (a 0)].toArray below meth c s.heap [] 0 0 (MQ below (vp_Si Q) [.ref (a 0)].toArray s 0 0 (fun _ => False)) (F0 m 6 ls [])) := by
    intro n
    induction n using Nat.strongRecOn with
    | _ n ih =>
      intro y1 y2 y3 ls hI hl
      have hf := h6 n y1 y2 y3 hI
      unfold t_X5_poorest_6 at hf
      refine lv_iload_n hx hb dX5_poorest_6 rfl (lv_at hl 3 rfl) ?_
      refine lv_bipush (v := 12) hx hb dX5_poorest_7 (by decide) ?_
      refine lv_icmp_ge (tgt := 53) hx hb dX5_poorest_9 (by decide) (fun c_2 => ?_) (fun c_2 => ?_)
      · have hf := hf.1 c_2
        refine lv_iload_n hx hb dX5_poorest_53 rfl (lv_at hl 1 rfl) ?_
        exact z_retPi X hf dX5_poorest_54
      · have hf := hf.2 c_2
        refine lv_aload_n hx hb dX5_poorest_12 rfl (lv_at hl 0 rfl) ?_
        refine va_get (D := (dC, dI)) (ci := 4) (v := .ref (a 3)) (C := RX5) (T := TX5) (N := 9) hx hb hts inX5 hown hK hP 0 rfl rfl 2 (by decide) (hts _ q_fl_X5_28) (fun _ h9 => h9) rfl dX5_poorest_13 ?_
        refine lv_iload_n hx hb dX5_poorest_16 rfl (lv_at hl 3 rfl) ?_
        refine z_cVi (As := [.int y3]) (rest := []) X (c_X4_kindOf l dC dI cI cJ cS (fun i => a (3 + i)) u.2.2.1 y3 _ hf) zc_X4_kindOf q_ml_X5_131 ⟨rfl, rfl⟩ ⟨Nat.le_of_ble_eq_true rfl, Nat.le_of_ble_eq_true rfl⟩ hP [3, 4, 5, 6, 7] rfl 3 rfl rfl hl.1 rfl rfl (Nat.le_of_ble_eq_true rfl) ⟨Nat.zero_le _, Nat.zero_le _⟩ dX5_poorest_17 (fun r_3 hf => ?_)
        refine lv_iconst (v := 2) hx hb dX5_poorest_20 (by decide) ?_
        refine lv_icmp_ne (tgt := 47) hx hb dX5_poorest_21 (by decide) (fun c_4 => ?_) (fun c_4 => ?_)
        · have hf := hf.1 c_4
          obtain ⟨x_5, ex_5⟩ : ∃ y : Int32, y = y3 + (1 : Int32) := ⟨_, rfl⟩
          have hf := hf x_5 ex_5
          refine lv_iinc (v := x_5) (lv' := [(3, .int x_5), (0, .ref (a 0)), (1, .int y1), (2, .int y2)]) hx hb dX5_poorest_47 hl (k := 3) rfl (by rw [ex_5]; rfl) (by decide) rfl (fun ls hl => ?_)
          refine lv_goto (tgt := 6) hx hb dX5_poorest_50 (by decide) ?_
          obtain ⟨k_6, hk_6, hf⟩ := hf
          exact (ih k_6 hk_6) _ _ _ ls hf (lv_sub hl [1, 2, 3, 0] rfl)
        · have hf := hf.2 c_4
          refine lv_aload_n hx hb dX5_poorest_24 rfl (lv_at hl 0 rfl) ?_
          refine lv_iload_n hx hb dX5_poorest_25 rfl (lv_at hl 3 rfl) ?_
          refine z_cVi (As := [.int y3]) (rest := []) X (c_X5_liveOf l dC dI cI cJ cS a u y3 _ hf) zc_X5_liveOf q_ml_X5_302 ⟨rfl, rfl⟩ ⟨Nat.le_of_ble_eq_true rfl, Nat.le_of_ble_eq_true rfl⟩ hP [0, 1, 2, 3, 4, 5, 6, 7, 8, 9, 10, 11, 12, 13, 14] rfl 4 rfl rfl hl.1 rfl rfl (Nat.le_of_ble_eq_true rfl) ⟨Nat.zero_le _, Nat.zero_le _⟩ dX5_poorest_26 (fun r_7 hf => ?_)
          refine lv_istore (lv' := [(4, .int r_7), (0, .ref (a 0)), (1, .int y1), (2, .int y2), (3, .int y3)]) hx hb dX5_poorest_29 hl (by decide) rfl (fun ls hl => ?_)
          refine lv_iload_n hx hb dX5_poorest_31 rfl (lv_at hl 2 rfl) ?_
          refine lv_iconst (v := (-1)) hx hb dX5_poorest_32 (by decide) ?_
          refine lv_icmp_eq (tgt := 42) hx hb dX5_poorest_33 (by decide) (fun c_8 => ?_) (fun c_8 => ?_)
          · have hf := hf.1 c_8
            refine lv_iload_n hx hb dX5_poorest_42 rfl (lv_at hl 4 rfl) ?_
            refine lv_istore_n (lv' := [(1, .int y3), (4, .int r_7), (0, .ref (a 0)), (2, .int y2), (3, .int y3)]) hx hb dX5_poorest_43 rfl hl (by decide) rfl (fun ls hl => ?_)
            refine lv_iload hx hb dX5_poorest_44 (lv_at hl 1 rfl) ?_
            refine lv_istore_n (lv' := [(2, .int r_7), (1, .int y3), (4, .int r_7), (0, .ref (a 0)), (3, .int y3)]) hx hb dX5_poorest_46 rfl hl (by decide) rfl (fun ls hl => ?_)
            obtain ⟨x_9, ex_9⟩ : ∃ y : Int32, y = y3 + (1 : Int32) := ⟨_, rfl⟩
            have hf := hf x_9 ex_9
            refine lv_iinc (v := x_9) (lv' := [(3, .int x_9), (2, .int r_7), (1, .int y3), (4, .int r_7), (0, .ref (a 0))]) hx hb dX5_poorest_47 hl (k := 4) rfl (by rw [ex_9]; rfl) (by decide) rfl (fun ls hl => ?_)
            refine lv_goto (tgt := 6) hx hb dX5_poorest_50 (by decide) ?_
            obtain ⟨k_10, hk_10, hf⟩ := hf
            exact (ih k_10 hk_10) _ _ _ ls hf (lv_sub hl [4, 2, 1, 0] rfl)
          · have hf := hf.2 c_8
            refine lv_iload hx hb dX5_poorest_36 (lv_at hl 0 rfl) ?_
            refine lv_iload_n hx hb dX5_poorest_38 rfl (lv_at hl 3 rfl) ?_
            refine lv_icmp_ge (tgt := 47) hx hb dX5_poorest_39 (by decide) (fun c_11 => ?_) (fun c_11 => ?_)
            · have hf := hf.1 c_11
              obtain ⟨x_12, ex_12⟩ : ∃ y : Int32, y = y3 + (1 : Int32) := ⟨_, rfl⟩
              have hf := hf x_12 ex_12
              refine lv_iinc (v := x_12) (lv' := [(3, .int x_12), (4, .int r_7), (0, .ref (a 0)), (1, .int y1), (2, .int y2)]) hx hb dX5_poorest_47 hl (k := 4) rfl (by rw [ex_12]; rfl) (by decide) rfl (fun ls hl => ?_)
              refine lv_goto (tgt := 6) hx hb dX5_poorest_50 (by decide) ?_
              obtain ⟨k_13, hk_13, hf⟩ := hf
              exact (ih k_13 hk_13) _ _ _ ls hf (lv_sub hl [2, 3, 4, 0] rfl)
            · have hf := hf.2 c_11
              refine lv_iload_n hx hb dX5_poorest_42 rfl (lv_at hl 4 rfl) ?_
              refine lv_istore_n (lv' := [(1, .int y3), (4, .int r_7), (0, .ref (a 0)), (2, .int y2), (3, .int y3)]) hx hb dX5_poorest_43 rfl hl (by decide) rfl (fun ls hl => ?_)
              refine lv_iload hx hb dX5_poorest_44 (lv_at hl 1 rfl) ?_
              refine lv_istore_n (lv' := [(2, .int r_7), (1, .int y3), (4, .int r_7), (0, .ref (a 0)), (3, .int y3)]) hx hb dX5_poorest_46 rfl hl (by decide) rfl (fun ls hl => ?_)
              obtain ⟨x_14, ex_14⟩ : ∃ y : Int32, y = y3 + (1 : Int32) := ⟨_, rfl⟩
              have hf := hf x_14 ex_14
              refine lv_iinc (v := x_14) (lv' := [(3, .int x_14), (2, .int r_7), (1, .int y3), (4, .int r_7), (0, .ref (a 0))]) hx hb dX5_poorest_47 hl (k := 4) rfl (by rw [ex_14]; rfl) (by decide) rfl (fun ls hl => ?_)
              refine lv_goto (tgt := 6) hx hb dX5_poorest_50 (by decide) ?_
              obtain ⟨k_15, hk_15, hf⟩ := hf
              exact (ih k_15 hk_15) _ _ _ ls hf (lv_sub hl [4, 2, 1, 0] rfl)
  unfold t_X5_poorest_e at hf
  refine lv_iconst (v := (-1)) hx hb dX5_poorest_0 (by decide) ?_
  refine lv_istore_n (lv' := [(1, .int (-1 : Int32)), (0, .ref (a 0))]) hx hb dX5_poorest_1 rfl hl (by decide) rfl (fun ls hl => ?_)
  refine lv_iconst (v := 0) hx hb dX5_poorest_2 (by decide) ?_
  refine lv_istore_n (lv' := [(2, .int (0 : Int32)), (1, .int (-1 : Int32)), (0, .ref (a 0))]) hx hb dX5_poorest_3 rfl hl (by decide) rfl (fun ls hl => ?_)
  refine lv_iconst (v := 0) hx hb dX5_poorest_4 (by decide) ?_
  refine lv_istore_n (lv' := [(3, .int (0 : Int32)), (2, .int (0 : Int32)), (1, .int (-1 : Int32)), (0, .ref (a 0))]) hx hb dX5_poorest_5 rfl hl (by decide) rfl (fun ls hl => ?_)
  obtain ⟨k_1, hf⟩ := hf
  exact (LP k_1) _ _ _ ls hf (lv_sub hl [3, 2, 1, 0] rfl)
/-- the poorest sealed one of the first n: which, and its live bytes -/
def uPoor (u : zState) : Nat → Int32 × Int32
  | 0 => (-1, 0)
  | n + 1 => if u.2.2.1.2.2.2.1 n = 2 then (if (uPoor u n).1 = -1 then (nI n, uLive u n) else if (uPoor u n).2 ≤ uLive u n then uPoor u n else (nI n, uLive u n)) else uPoor u n
def s_X5_poorest (u : zState) (Q : Int32 → Prop) : Prop := zOk u ∧ Q (uPoor u 12).1
theorem st_X5_poorest {u : zState} {Q : Int32 → Prop} (h : s_X5_poorest u Q) : v_X5_poorest u Q := by
  obtain ⟨ho, h⟩ := h
  refine zlp3 (T := fun y y' y'' K => t_X5_poorest_6 u y y' y'' K Q) (E := fun K => t_X5_poorest_e u K Q) 12 (fun i => (uPoor u i).1) (fun i => (uPoor u i).2) (fun i => nI i) (fun K hK => hK) ?_ ?_
  · intro i hi K hK
    have hu : uPoor u (i + 1) = if u.2.2.1.2.2.2.1 i = 2 then (if (uPoor u i).1 = -1 then (nI i, uLive u i) else if (uPoor u i).2 ≤ uLive u i then uPoor u i else (nI i, uLive u i)) else uPoor u i := rfl
    have hK : K (uPoor u (i + 1)).1 (uPoor u (i + 1)).2 (nI (i + 1)) := hK
    rw [hu] at hK
    refine ⟨fun c => absurd c (ge12 hi), fun _ => Or.inl ⟨i, hi, rfl, fun c x e => ?_, fun c => ⟨ho, i, hi, rfl, fun c2 x e => ?_, fun c2 => ⟨fun c3 x e => ?_, fun c3 x e => ?_⟩⟩⟩⟩
    · rw [if_neg c] at hK; rw [e, nI_1]; exact hK
    · rw [if_pos c, if_pos c2] at hK; rw [e, nI_1]; exact hK
    · rw [if_pos c, if_neg c2, if_pos c3] at hK; rw [e, nI_1]; exact hK
    · rw [if_pos c, if_neg c2, if_neg c3] at hK; rw [e, nI_1]; exact hK
  · intro K
    exact ⟨fun _ => h, fun c => absurd (le12 (Nat.le_refl _) (by decide)) c⟩
theorem c_X5_poorest (l : Launch) (dC : Nat → ClassId) (dI : Nat → Nat → Nat) (cI cJ cS : ClassId) (a : Nat → Nat) (u : zState) (Q : Int32 → Prop) (hf : s_X5_poorest u Q) : Met l yX5_poorest (Cond.code yX5_poorest cX5_poorest 5 (some .int) :: zT) rm_X5_poorest (zPp dC dI cI cJ cS (cl_X5 cI cJ a u) [.ref (a 0)]) (vp_Si Q) 0 0 (fun _ => False) := by
  obtain ⟨I6, h6, hf⟩ := st_X5_poorest hf
  exact L_X5_poorest l dC dI cI cJ cS a u Q I6 h6 hf

def t_X5_kindOf (u : zState) (x1 : Int64) (Q : Int32 → Prop) : Prop := ((¬ (lg_cmp x1 (0 : Int64)) = 0 → s_X0_isDrop x1 (fun r_2 : Int32 => ((r_2 = 0 → s_X0_lengthOf x1 (fun r_4 : Int32 => ((u.1.2.1 < r_4 → Q (3 : Int32)) ∧ (¬ u.1.2.1 < r_4 → Q (2 : Int32))))) ∧ (¬ r_2 = 0 → Q (1 : Int32))))) ∧ ((lg_cmp x1 (0 : Int64)) = 0 → Q (0 : Int32)))
theorem zc_X5_kindOf : zCalV RX5 yX5_kindOf cX5_kindOf 3 (some .int) 1 := ⟨q_im_X5_kindOf, q_se_X5_kindOf, q_in_X5, q_cd_X5_kindOf, ⟨by decide, by decide, by decide +kernel⟩, rfl⟩
abbrev rm_X5_kindOf : Room := { frames := 1, cells := 0, slots := 0, locals := 21 }
set_option maxHeartbeats 4000000 in
set_option maxRecDepth 100000 in
theorem L_X5_kindOf (l : Launch) (dC : Nat → ClassId) (dI : Nat → Nat → Nat) (cI cJ cS : ClassId) (a : Nat → Nat) (u : zState) (x1 : Int64) (Q : Int32 → Prop) (hf : t_X5_kindOf u x1 Q) : Met l yX5_kindOf (Cond.code yX5_kindOf cX5_kindOf 3 (some .int) :: zT) rm_X5_kindOf (zPp dC dI cI cJ cS (cl_X5 cI cJ a u) [.ref (a 0), .long x1]) (vp_Si Q) 0 0 (fun _ => False) := by
  refine z_enterP (cc := cX5_kindOf) (maxL := 3) (ret := (some .int)) (by decide) (Nat.le_of_ble_eq_true rfl) ?_
  intro p e s m below meth c ls X hP hl
  obtain ⟨⟨hx, hb, hml, hown, hts⟩, hr, hlk, hK⟩ := id X
  have hl : lv_has ls 3 [(0, .ref (a 0)), (1, .long x1)] := hl
  unfold t_X5_kindOf at hf
  refine lv_lload_n hx hb dX5_kindOf_0 rfl (lv_at hl 1 rfl) ?_
  refine lv_lconst (v := 0) hx hb dX5_kindOf_1 (by decide) ?_
  refine W.lcmp hx hb dX5_kindOf_2 ?_
  refine lv_if_ne (tgt := 8) hx hb dX5_kindOf_3 (by decide) (fun c_1 => ?_) (fun c_1 => ?_)
  · have hf := hf.1 c_1
    refine lv_lload_n hx hb dX5_kindOf_8 rfl (lv_at hl 1 rfl) ?_
    refine z_cSi (As := [.long x1]) (rest := []) X (c_X0_isDrop l dC dI cI cJ cS   x1 _ hf) zc_X0_isDrop q_ml_X5_314 ⟨rfl, rfl⟩ ⟨Nat.le_of_ble_eq_true rfl, Nat.le_of_ble_eq_true rfl⟩ hP [] rfl hl.1 rfl rfl (Nat.le_of_ble_eq_true rfl) ⟨Nat.zero_le _, Nat.zero_le _⟩ dX5_kindOf_9 (fun r_2 hf => ?_)
    obtain ⟨hbr_2, hf⟩ := hf
    refine lv_if_eq (tgt := 17) hx hb dX5_kindOf_12 (by decide) (fun c_3 => ?_) (fun c_3 => ?_)
    · have hf := hf.1 c_3
      refine lv_lload_n hx hb dX5_kindOf_17 rfl (lv_at hl 1 rfl) ?_
      refine z_cSi (As := [.long x1]) (rest := []) X (c_X0_lengthOf l dC dI cI cJ cS   x1 _ hf) zc_X0_lengthOf q_ml_X5_272 ⟨rfl, rfl⟩ ⟨Nat.le_of_ble_eq_true rfl, Nat.le_of_ble_eq_true rfl⟩ hP [] rfl hl.1 rfl rfl (Nat.le_of_ble_eq_true rfl) ⟨Nat.zero_le _, Nat.zero_le _⟩ dX5_kindOf_18 (fun r_4 hf => ?_)
      refine lv_aload_n hx hb dX5_kindOf_21 rfl (lv_at hl 0 rfl) ?_
      refine va_get (D := (dC, dI)) (ci := 4) (v := .ref (a 1)) (C := RX5) (T := TX5) (N := 9) hx hb hts inX5 hown hK hP 0 rfl rfl 0 (by decide) (hts _ q_fl_X5_12) (fun _ h9 => h9) rfl dX5_kindOf_22 ?_
      refine va_get (D := (dC, dI)) (ci := 6) (v := .int u.1.2.1) (C := RX7) (T := TX7) (N := 4) hx hb hts inX7 hown hK hP 1 rfl rfl 1 (by decide) (hts _ q_fl_X5_61) (fun _ h9 => h9) rfl dX5_kindOf_25 ?_
      refine lv_icmp_gt (tgt := 35) hx hb dX5_kindOf_28 (by decide) (fun c_5 => ?_) (fun c_5 => ?_)
      · have hf := hf.1 c_5
        refine lv_iconst (v := 3) hx hb dX5_kindOf_35 (by decide) ?_
        exact z_retPi X hf dX5_kindOf_36
      · have hf := hf.2 c_5
        refine lv_iconst (v := 2) hx hb dX5_kindOf_31 (by decide) ?_
        refine lv_goto (tgt := 36) hx hb dX5_kindOf_32 (by decide) ?_
        exact z_retPi X hf dX5_kindOf_36
    · have hf := hf.2 c_3
      refine lv_iconst (v := 1) hx hb dX5_kindOf_15 (by decide) ?_
      exact z_retPi X hf dX5_kindOf_16
  · have hf := hf.2 c_1
    refine lv_iconst (v := 0) hx hb dX5_kindOf_6 (by decide) ?_
    exact z_retPi X hf dX5_kindOf_7
/-- what kind of entry a card is: 0 none, 1 dropped, 2 short, 3 long -/
def uKind (b : Int32) (c : Int64) : Int32 := if c = 0 then 0 else if c &&& 16128 = 0 then 1 else if b < cLen c then 3 else 2
def s_X5_kindOf (u : zState) (x1 : Int64) (Q : Int32 → Prop) : Prop := Q (uKind u.1.2.1 x1)
theorem st_X5_kindOf {u : zState} {x1 : Int64} {Q : Int32 → Prop} (h : s_X5_kindOf u x1 Q) : t_X5_kindOf u x1 Q := by
  unfold s_X5_kindOf uKind at h
  refine ⟨fun c => ?_, fun c => ?_⟩
  · rw [if_neg (fun q => c ((lc_eq _ _).mpr q))] at h
    refine ⟨fun d => ⟨fun q => absurd q (by decide), fun _ => ?_⟩, fun d => ⟨fun _ => ⟨fun q => ?_, fun q => ?_⟩, fun q => absurd rfl q⟩⟩
    · rw [if_pos d] at h; exact h
    · rw [if_neg d, if_pos q] at h; exact h
    · rw [if_neg d, if_neg q] at h; exact h
  · rw [if_pos ((lc_eq _ _).mp c)] at h; exact h
theorem c_X5_kindOf (l : Launch) (dC : Nat → ClassId) (dI : Nat → Nat → Nat) (cI cJ cS : ClassId) (a : Nat → Nat) (u : zState) (x1 : Int64) (Q : Int32 → Prop) (hf : s_X5_kindOf u x1 Q) : Met l yX5_kindOf (Cond.code yX5_kindOf cX5_kindOf 3 (some .int) :: zT) rm_X5_kindOf (zPp dC dI cI cJ cS (cl_X5 cI cJ a u) [.ref (a 0), .long x1]) (vp_Si Q) 0 0 (fun _ => False) := L_X5_kindOf l dC dI cI cJ cS a u x1 Q (st_X5_kindOf hf)

def t_X5_hasValue (u : zState) (x1 : Int32) (Q : Int32 → Prop) : Prop := s_X9_currentOf u.2.2.2.1 x1 (fun r_1 : Int64 => s_X0_isDrop r_1 (fun r_2 : Int32 => ((¬ r_2 = 0 → Q (0 : Int32)) ∧ (r_2 = 0 → Q (1 : Int32)))))
theorem zc_X5_hasValue : zCalV RX5 yX5_hasValue cX5_hasValue 2 (some .boolean) 1 := ⟨q_im_X5_hasValue, q_se_X5_hasValue, q_in_X5, q_cd_X5_hasValue, ⟨by decide, by decide, by decide +kernel⟩, rfl⟩
abbrev rm_X5_hasValue : Room := { frames := 2, cells := 0, slots := 0, locals := 44 }
set_option maxHeartbeats 4000000 in
set_option maxRecDepth 100000 in
theorem L_X5_hasValue (l : Launch) (dC : Nat → ClassId) (dI : Nat → Nat → Nat) (cI cJ cS : ClassId) (a : Nat → Nat) (u : zState) (x1 : Int32) (Q : Int32 → Prop) (hf : t_X5_hasValue u x1 Q) : Met l yX5_hasValue (Cond.code yX5_hasValue cX5_hasValue 2 (some .boolean) :: zT) rm_X5_hasValue (zPp dC dI cI cJ cS (cl_X5 cI cJ a u) [.ref (a 0), .int x1]) (vp_Si (fun r => (r = 0 ∨ r = 1) ∧ Q r)) 0 0 (fun _ => False) := by
  refine z_enterP (cc := cX5_hasValue) (maxL := 2) (ret := (some .boolean)) (by decide) (Nat.le_of_ble_eq_true rfl) ?_
  intro p e s m below meth c ls X hP hl
  obtain ⟨⟨hx, hb, hml, hown, hts⟩, hr, hlk, hK⟩ := id X
  have hl : lv_has ls 2 [(0, .ref (a 0)), (1, .int x1)] := hl
  unfold t_X5_hasValue at hf
  refine lv_aload_n hx hb dX5_hasValue_0 rfl (lv_at hl 0 rfl) ?_
  refine va_get (D := (dC, dI)) (ci := 4) (v := .ref (a 8)) (C := RX5) (T := TX5) (N := 9) hx hb hts inX5 hown hK hP 0 rfl rfl 3 (by decide) (hts _ q_fl_X5_35) (fun _ h9 => h9) rfl dX5_hasValue_1 ?_
  refine lv_iload_n hx hb dX5_hasValue_4 rfl (lv_at hl 1 rfl) ?_
  refine z_cVl (As := [.int x1]) (rest := []) X (c_X9_currentOf l dC dI cI cJ cS (fun i => a (8 + i)) u.2.2.2.1 x1 _ hf) zc_X9_currentOf q_ml_X5_299 ⟨rfl, rfl⟩ ⟨Nat.le_of_ble_eq_true rfl, Nat.le_of_ble_eq_true rfl⟩ hP [8, 9, 10] rfl 8 rfl rfl hl.1 rfl rfl (Nat.le_of_ble_eq_true rfl) ⟨Nat.zero_le _, Nat.zero_le _⟩ dX5_hasValue_5 (fun r_1 hf => ?_)
  refine z_cSi (As := [.long r_1]) (rest := []) X (c_X0_isDrop l dC dI cI cJ cS   r_1 _ hf) zc_X0_isDrop q_ml_X5_314 ⟨rfl, rfl⟩ ⟨Nat.le_of_ble_eq_true rfl, Nat.le_of_ble_eq_true rfl⟩ hP [] rfl hl.1 rfl rfl (Nat.le_of_ble_eq_true rfl) ⟨Nat.zero_le _, Nat.zero_le _⟩ dX5_hasValue_8 (fun r_2 hf => ?_)
  obtain ⟨hbr_2, hf⟩ := hf
  refine lv_if_ne (tgt := 18) hx hb dX5_hasValue_11 (by decide) (fun c_3 => ?_) (fun c_3 => ?_)
  · have hf := hf.1 c_3
    refine lv_iconst (v := 0) hx hb dX5_hasValue_18 (by decide) ?_
    exact z_retPz X (Or.inl rfl) hf dX5_hasValue_19
  · have hf := hf.2 c_3
    refine lv_iconst (v := 1) hx hb dX5_hasValue_14 (by decide) ?_
    refine lv_goto (tgt := 19) hx hb dX5_hasValue_15 (by decide) ?_
    exact z_retPz X (Or.inr rfl) hf dX5_hasValue_19
def s_X5_hasValue (u : zState) (x1 : Int32) (Q : Int32 → Prop) : Prop := zOk u ∧ ∃ k : Nat, k < 64 ∧ x1 = nI k ∧ (uVal u k = true → Q 1) ∧ (uVal u k = false → Q 0)
theorem st_X5_hasValue {u : zState} {x1 : Int32} {Q : Int32 → Prop} (h : s_X5_hasValue u x1 Q) : t_X5_hasValue u x1 Q := by
  obtain ⟨ho, k, hk, rfl, h1, h0⟩ := h
  refine ⟨k, rN u, hk, ho.2.1.2, rfl, ho.r, fun d => ⟨fun _ => h0 (decide_eq_false (fun q => q d)), fun q => absurd q (by decide)⟩, fun d => ⟨fun q => absurd rfl q, fun _ => h1 (decide_eq_true d)⟩⟩
theorem c_X5_hasValue (l : Launch) (dC : Nat → ClassId) (dI : Nat → Nat → Nat) (cI cJ cS : ClassId) (a : Nat → Nat) (u : zState) (x1 : Int32) (Q : Int32 → Prop) (hf : s_X5_hasValue u x1 Q) : Met l yX5_hasValue (Cond.code yX5_hasValue cX5_hasValue 2 (some .boolean) :: zT) rm_X5_hasValue (zPp dC dI cI cJ cS (cl_X5 cI cJ a u) [.ref (a 0), .int x1]) (vp_Si (fun r => (r = 0 ∨ r = 1) ∧ Q r)) 0 0 (fun _ => False) := L_X5_hasValue l dC dI cI cJ cS a u x1 Q (st_X5_hasValue hf)

def t_X5_valueOf (u : zState) (x1 : Int32) (Q : Int32 → Prop) : Prop := s_X9_currentOf u.2.2.2.1 x1 (fun r_1 : Int64 => s_X0_isDrop r_1 (fun r_2 : Int32 => ((r_2 = 0 → s_X0_seedOf r_1 (fun r_4 : Int32 => s_X0_lengthOf r_1 (fun r_5 : Int32 => Q ((r_4 <<< ((6 : Int32) &&& 31)) ||| r_5)))) ∧ (¬ r_2 = 0 → Q (-1 : Int32)))))
theorem zc_X5_valueOf : zCalV RX5 yX5_valueOf cX5_valueOf 4 (some .int) 1 := ⟨q_im_X5_valueOf, q_se_X5_valueOf, q_in_X5, q_cd_X5_valueOf, ⟨by decide, by decide, by decide +kernel⟩, rfl⟩
abbrev rm_X5_valueOf : Room := { frames := 2, cells := 0, slots := 0, locals := 44 }
set_option maxHeartbeats 4000000 in
set_option maxRecDepth 100000 in
theorem L_X5_valueOf (l : Launch) (dC : Nat → ClassId) (dI : Nat → Nat → Nat) (cI cJ cS : ClassId) (a : Nat → Nat) (u : zState) (x1 : Int32) (Q : Int32 → Prop) (hf : t_X5_valueOf u x1 Q) : Met l yX5_valueOf (Cond.code yX5_valueOf cX5_valueOf 4 (some .int) :: zT) rm_X5_valueOf (zPp dC dI cI cJ cS (cl_X5 cI cJ a u) [.ref (a 0), .int x1]) (vp_Si Q) 0 0 (fun _ => False) := by
  refine z_enterP (cc := cX5_valueOf) (maxL := 4) (ret := (some .int)) (by decide) (Nat.le_of_ble_eq_true rfl) ?_
  intro p e s m below meth c ls X hP hl
  obtain ⟨⟨hx, hb, hml, hown, hts⟩, hr, hlk, hK⟩ := id X
  have hl : lv_has ls 4 [(0, .ref (a 0)), (1, .int x1)] := hl
  unfold t_X5_valueOf at hf
  refine lv_aload_n hx hb dX5_valueOf_0 rfl (lv_at hl 0 rfl) ?_
  refine va_get (D := (dC, dI)) (ci := 4) (v := .ref (a 8)) (C := RX5) (T := TX5) (N := 9) hx hb hts inX5 hown hK hP 0 rfl rfl 3 (by decide) (hts _ q_fl_X5_35) (fun _ h9 => h9) rfl dX5_valueOf_1 ?_
  refine lv_iload_n hx hb dX5_valueOf_4 rfl (lv_at hl 1 rfl) ?_
  refine z_cVl (As := [.int x1]) (rest := []) X (c_X9_currentOf l dC dI cI cJ cS (fun i => a (8 + i)) u.2.2.2.1 x1 _ hf) zc_X9_currentOf q_ml_X5_299 ⟨rfl, rfl⟩ ⟨Nat.le_of_ble_eq_true rfl, Nat.le_of_ble_eq_true rfl⟩ hP [8, 9, 10] rfl 8 rfl rfl hl.1 rfl rfl (Nat.le_of_ble_eq_true rfl) ⟨Nat.zero_le _, Nat.zero_le _⟩ dX5_valueOf_5 (fun r_1 hf => ?_)
  refine lv_lstore_n (lv' := [(2, .long r_1), (0, .ref (a 0)), (1, .int x1)]) hx hb dX5_valueOf_8 rfl hl (by decide) rfl (fun ls hl => ?_)
  refine lv_lload_n hx hb dX5_valueOf_9 rfl (lv_at hl 0 rfl) ?_
  refine z_cSi (As := [.long r_1]) (rest := []) X (c_X0_isDrop l dC dI cI cJ cS   r_1 _ hf) zc_X0_isDrop q_ml_X5_314 ⟨rfl, rfl⟩ ⟨Nat.le_of_ble_eq_true rfl, Nat.le_of_ble_eq_true rfl⟩ hP [] rfl hl.1 rfl rfl (Nat.le_of_ble_eq_true rfl) ⟨Nat.zero_le _, Nat.zero_le _⟩ dX5_valueOf_10 (fun r_2 hf => ?_)
  obtain ⟨hbr_2, hf⟩ := hf
  refine lv_if_eq (tgt := 20) hx hb dX5_valueOf_13 (by decide) (fun c_3 => ?_) (fun c_3 => ?_)
  · have hf := hf.1 c_3
    refine lv_lload_n hx hb dX5_valueOf_20 rfl (lv_at hl 0 rfl) ?_
    refine z_cSi (As := [.long r_1]) (rest := []) X (c_X0_seedOf l dC dI cI cJ cS   r_1 _ hf) zc_X0_seedOf q_ml_X5_275 ⟨rfl, rfl⟩ ⟨Nat.le_of_ble_eq_true rfl, Nat.le_of_ble_eq_true rfl⟩ hP [] rfl hl.1 rfl rfl (Nat.le_of_ble_eq_true rfl) ⟨Nat.zero_le _, Nat.zero_le _⟩ dX5_valueOf_21 (fun r_4 hf => ?_)
    refine lv_bipush (v := 6) hx hb dX5_valueOf_24 (by decide) ?_
    refine lv_ishl hx hb dX5_valueOf_26 ?_
    refine lv_lload_n hx hb dX5_valueOf_27 rfl (lv_at hl 0 rfl) ?_
    refine z_cSi (As := [.long r_1]) (rest := [.int (r_4 <<< ((6 : Int32) &&& 31))]) X (c_X0_lengthOf l dC dI cI cJ cS   r_1 _ hf) zc_X0_lengthOf q_ml_X5_272 ⟨rfl, rfl⟩ ⟨Nat.le_of_ble_eq_true rfl, Nat.le_of_ble_eq_true rfl⟩ hP [] rfl hl.1 rfl rfl (Nat.le_of_ble_eq_true rfl) ⟨Nat.zero_le _, Nat.zero_le _⟩ dX5_valueOf_28 (fun r_5 hf => ?_)
    refine lv_ior hx hb dX5_valueOf_31 ?_
    exact z_retPi X hf dX5_valueOf_32
  · have hf := hf.2 c_3
    refine lv_iconst (v := (-1)) hx hb dX5_valueOf_16 (by decide) ?_
    refine lv_goto (tgt := 32) hx hb dX5_valueOf_17 (by decide) ?_
    exact z_retPi X hf dX5_valueOf_32
/-- how a key's value stands among others; -1 without one -/
def uVof (u : zState) (k : Nat) : Int32 := if uVal u k then (cSeed (uCur u k) <<< ((6 : Int32) &&& 31)) ||| cLen (uCur u k) else -1
def s_X5_valueOf (u : zState) (x1 : Int32) (Q : Int32 → Prop) : Prop := zOk u ∧ ∃ k : Nat, k < 64 ∧ x1 = nI k ∧ Q (uVof u k)
theorem st_X5_valueOf {u : zState} {x1 : Int32} {Q : Int32 → Prop} (h : s_X5_valueOf u x1 Q) : t_X5_valueOf u x1 Q := by
  obtain ⟨ho, k, hk, rfl, h⟩ := h
  unfold uVof at h
  refine ⟨k, rN u, hk, ho.2.1.2, rfl, ho.r, fun d => ⟨fun q => absurd q (by decide), fun _ => ?_⟩, fun d => ⟨fun _ => ?_, fun q => absurd rfl q⟩⟩
  · rw [if_neg (by rw [show uVal u k = false from decide_eq_false (fun q => q d)]; decide)] at h; exact h
  · rw [if_pos (show uVal u k = true from decide_eq_true d)] at h; exact h
theorem c_X5_valueOf (l : Launch) (dC : Nat → ClassId) (dI : Nat → Nat → Nat) (cI cJ cS : ClassId) (a : Nat → Nat) (u : zState) (x1 : Int32) (Q : Int32 → Prop) (hf : s_X5_valueOf u x1 Q) : Met l yX5_valueOf (Cond.code yX5_valueOf cX5_valueOf 4 (some .int) :: zT) rm_X5_valueOf (zPp dC dI cI cJ cS (cl_X5 cI cJ a u) [.ref (a 0), .int x1]) (vp_Si Q) 0 0 (fun _ => False) := L_X5_valueOf l dC dI cI cJ cS a u x1 Q (st_X5_valueOf hf)

def t_X5_costOf (u : zState) (x1 : Int32) (Q : Int32 → Prop) : Prop := s_X9_levelOf u.2.2.2.1 x1 (fun r_1 : Int32 => ((¬ r_1 = (-1 : Int32) → s_X9_at u.2.2.2.1 r_1 x1 (fun r_3 : Int64 => s_X5_kindOf u r_3 (fun r_4 : Int32 => ((¬ r_4 = (3 : Int32) → Q (((1 : Int32) + r_1) + (0 : Int32))) ∧ (r_4 = (3 : Int32) → Q (((1 : Int32) + r_1) + (1 : Int32))))))) ∧ (r_1 = (-1 : Int32) → Q ((1 : Int32) + u.2.2.2.1.2.2))))
theorem zc_X5_costOf : zCalV RX5 yX5_costOf cX5_costOf 3 (some .int) 1 := ⟨q_im_X5_costOf, q_se_X5_costOf, q_in_X5, q_cd_X5_costOf, ⟨by decide, by decide, by decide +kernel⟩, rfl⟩
abbrev rm_X5_costOf : Room := { frames := 2, cells := 0, slots := 0, locals := 44 }
set_option maxHeartbeats 4000000 in
set_option maxRecDepth 100000 in
theorem L_X5_costOf (l : Launch) (dC : Nat → ClassId) (dI : Nat → Nat → Nat) (cI cJ cS : ClassId) (a : Nat → Nat) (u : zState) (x1 : Int32) (Q : Int32 → Prop) (hf : t_X5_costOf u x1 Q) : Met l yX5_costOf (Cond.code yX5_costOf cX5_costOf 3 (some .int) :: zT) rm_X5_costOf (zPp dC dI cI cJ cS (cl_X5 cI cJ a u) [.ref (a 0), .int x1]) (vp_Si Q) 0 0 (fun _ => False) := by
  refine z_enterP (cc := cX5_costOf) (maxL := 3) (ret := (some .int)) (by decide) (Nat.le_of_ble_eq_true rfl) ?_
  intro p e s m below meth c ls X hP hl
  obtain ⟨⟨hx, hb, hml, hown, hts⟩, hr, hlk, hK⟩ := id X
  have hl : lv_has ls 3 [(0, .ref (a 0)), (1, .int x1)] := hl
  unfold t_X5_costOf at hf
  refine lv_aload_n hx hb dX5_costOf_0 rfl (lv_at hl 0 rfl) ?_
  refine va_get (D := (dC, dI)) (ci := 4) (v := .ref (a 8)) (C := RX5) (T := TX5) (N := 9) hx hb hts inX5 hown hK hP 0 rfl rfl 3 (by decide) (hts _ q_fl_X5_35) (fun _ h9 => h9) rfl dX5_costOf_1 ?_
  refine lv_iload_n hx hb dX5_costOf_4 rfl (lv_at hl 1 rfl) ?_
  refine z_cVi (As := [.int x1]) (rest := []) X (c_X9_levelOf l dC dI cI cJ cS (fun i => a (8 + i)) u.2.2.2.1 x1 _ hf) zc_X9_levelOf q_ml_X5_317 ⟨rfl, rfl⟩ ⟨Nat.le_of_ble_eq_true rfl, Nat.le_of_ble_eq_true rfl⟩ hP [8, 9, 10] rfl 8 rfl rfl hl.1 rfl rfl (Nat.le_of_ble_eq_true rfl) ⟨Nat.zero_le _, Nat.zero_le _⟩ dX5_costOf_5 (fun r_1 hf => ?_)
  refine lv_istore_n (lv' := [(2, .int r_1), (0, .ref (a 0)), (1, .int x1)]) hx hb dX5_costOf_8 rfl hl (by decide) rfl (fun ls hl => ?_)
  refine lv_iload_n hx hb dX5_costOf_9 rfl (lv_at hl 0 rfl) ?_
  refine lv_iconst (v := (-1)) hx hb dX5_costOf_10 (by decide) ?_
  refine lv_icmp_ne (tgt := 24) hx hb dX5_costOf_11 (by decide) (fun c_2 => ?_) (fun c_2 => ?_)
  · have hf := hf.1 c_2
    refine lv_iconst (v := 1) hx hb dX5_costOf_24 (by decide) ?_
    refine lv_iload_n hx hb dX5_costOf_25 rfl (lv_at hl 0 rfl) ?_
    refine lv_iadd hx hb dX5_costOf_26 ?_
    refine lv_aload_n hx hb dX5_costOf_27 rfl (lv_at hl 1 rfl) ?_
    refine lv_aload_n hx hb dX5_costOf_28 rfl (lv_at hl 1 rfl) ?_
    refine va_get (D := (dC, dI)) (ci := 4) (v := .ref (a 8)) (C := RX5) (T := TX5) (N := 9) hx hb hts inX5 hown hK hP 0 rfl rfl 3 (by decide) (hts _ q_fl_X5_35) (fun _ h9 => h9) rfl dX5_costOf_29 ?_
    refine lv_iload_n hx hb dX5_costOf_32 rfl (lv_at hl 0 rfl) ?_
    refine lv_iload_n hx hb dX5_costOf_33 rfl (lv_at hl 2 rfl) ?_
    refine z_cVl (As := [.int r_1, .int x1]) (rest := [.ref (a 0), .int ((1 : Int32) + r_1)]) X (c_X9_at l dC dI cI cJ cS (fun i => a (8 + i)) u.2.2.2.1 r_1 x1 _ hf) zc_X9_at q_ml_X5_256 ⟨rfl, rfl⟩ ⟨Nat.le_of_ble_eq_true rfl, Nat.le_of_ble_eq_true rfl⟩ hP [8, 9, 10] rfl 8 rfl rfl hl.1 rfl rfl (Nat.le_of_ble_eq_true rfl) ⟨Nat.zero_le _, Nat.zero_le _⟩ dX5_costOf_34 (fun r_3 hf => ?_)
    refine z_cVi (As := [.long r_3]) (rest := [.int ((1 : Int32) + r_1)]) X (c_X5_kindOf l dC dI cI cJ cS a u r_3 _ hf) zc_X5_kindOf q_ml_X5_320 ⟨rfl, rfl⟩ ⟨Nat.le_of_ble_eq_true rfl, Nat.le_of_ble_eq_true rfl⟩ hP [0, 1, 2, 3, 4, 5, 6, 7, 8, 9, 10, 11, 12, 13, 14] rfl 4 rfl rfl hl.1 rfl rfl (Nat.le_of_ble_eq_true rfl) ⟨Nat.zero_le _, Nat.zero_le _⟩ dX5_costOf_37 (fun r_4 hf => ?_)
    refine lv_iconst (v := 3) hx hb dX5_costOf_40 (by decide) ?_
    refine lv_icmp_ne (tgt := 48) hx hb dX5_costOf_41 (by decide) (fun c_5 => ?_) (fun c_5 => ?_)
    · have hf := hf.1 c_5
      refine lv_iconst (v := 0) hx hb dX5_costOf_48 (by decide) ?_
      refine lv_iadd hx hb dX5_costOf_49 ?_
      exact z_retPi X hf dX5_costOf_50
    · have hf := hf.2 c_5
      refine lv_iconst (v := 1) hx hb dX5_costOf_44 (by decide) ?_
      refine lv_goto (tgt := 49) hx hb dX5_costOf_45 (by decide) ?_
      refine lv_iadd hx hb dX5_costOf_49 ?_
      exact z_retPi X hf dX5_costOf_50
  · have hf := hf.2 c_2
    refine lv_iconst (v := 1) hx hb dX5_costOf_14 (by decide) ?_
    refine lv_aload_n hx hb dX5_costOf_15 rfl (lv_at hl 1 rfl) ?_
    refine va_get (D := (dC, dI)) (ci := 4) (v := .ref (a 8)) (C := RX5) (T := TX5) (N := 9) hx hb hts inX5 hown hK hP 0 rfl rfl 3 (by decide) (hts _ q_fl_X5_35) (fun _ h9 => h9) rfl dX5_costOf_16 ?_
    refine va_get (D := (dC, dI)) (ci := 8) (v := .int u.2.2.2.1.2.2) (C := RX9) (T := TX9) (N := 3) hx hb hts inX9 hown hK hP 8 rfl rfl 2 (by decide) (hts _ q_fl_X5_167) (fun _ h9 => h9) rfl dX5_costOf_19 ?_
    refine lv_iadd hx hb dX5_costOf_22 ?_
    exact z_retPi X hf dX5_costOf_23
/-- the level where a key is found, as an int -/
def uLvl (u : zState) (k : Nat) : Int32 := zFst (fun l => zHas u.2.2.2.1.1 l k) (rN u + 1)
def uCost (u : zState) (k : Nat) : Int32 := if uLvl u k = -1 then 1 + u.2.2.2.1.2.2 else if uKind u.1.2.1 (uCur u k) = 3 then 1 + uLvl u k + 1 else 1 + uLvl u k + 0
def s_X5_costOf (u : zState) (x1 : Int32) (Q : Int32 → Prop) : Prop := zOk u ∧ ∃ k : Nat, k < 64 ∧ x1 = nI k ∧ Q (uCost u k)
theorem st_X5_costOf {u : zState} {x1 : Int32} {Q : Int32 → Prop} (h : s_X5_costOf u x1 Q) : t_X5_costOf u x1 Q := by
  obtain ⟨ho, k, hk, rfl, h⟩ := h
  have hr := ho.2.1.2
  refine ⟨k, rN u, hk, hr, rfl, ho.r, fun c => ?_, fun c => ?_⟩
  · unfold uCost at h
    rw [if_neg (show ¬ uLvl u k = -1 from c)] at h
    have hf : fa_first (fun l => zHas u.2.2.2.1.1 l k) (rN u + 1) < rN u + 1 := by
      by_cases q : fa_first (fun l => zHas u.2.2.2.1.1 l k) (rN u + 1) < rN u + 1
      · exact q
      · exact absurd (zFst_no q) c
    have e : uLvl u k = nI (fa_first (fun l => zHas u.2.2.2.1.1 l k) (rN u + 1)) := zFst_yes hf
    have e2 : uCur u k = u.2.2.2.1.1 (64 * fa_first (fun l => zHas u.2.2.2.1.1 l k) (rN u + 1) + k) := if_pos hf
    refine ⟨_, k, by omega, hk, e, rfl, ?_⟩
    rw [e2] at h
    refine ⟨fun d => ?_, fun d => ?_⟩
    · rw [if_neg d] at h; exact h
    · rw [if_pos d] at h; exact h
  · unfold uCost at h
    rw [if_pos (show uLvl u k = -1 from c)] at h; exact h
theorem c_X5_costOf (l : Launch) (dC : Nat → ClassId) (dI : Nat → Nat → Nat) (cI cJ cS : ClassId) (a : Nat → Nat) (u : zState) (x1 : Int32) (Q : Int32 → Prop) (hf : s_X5_costOf u x1 Q) : Met l yX5_costOf (Cond.code yX5_costOf cX5_costOf 3 (some .int) :: zT) rm_X5_costOf (zPp dC dI cI cJ cS (cl_X5 cI cJ a u) [.ref (a 0), .int x1]) (vp_Si Q) 0 0 (fun _ => False) := L_X5_costOf l dC dI cI cJ cS a u x1 Q (st_X5_costOf hf)

def t_X5_valuesBelow_e (u : zState) (x1 : Int32) (K4 : Int32 → Int32 → Prop) (Q : Int32 → Prop) : Prop := K4 (0 : Int32) (0 : Int32)
def t_X5_valuesBelow_4 (u : zState) (x1 : Int32) (y2 : Int32) (y3 : Int32) (K4 : Int32 → Int32 → Prop) (Q : Int32 → Prop) : Prop := ((x1 ≤ y3 → Q y2) ∧ (¬ x1 ≤ y3 → s_X5_hasValue u y3 (fun r_3 : Int32 => ((r_3 = 0 → ∀ x_5 : Int32, x_5 = (y2 + (0 : Int32)) → ∀ x_6 : Int32, x_6 = y3 + (1 : Int32) → K4 x_5 x_6) ∧ (¬ r_3 = 0 → ∀ x_8 : Int32, x_8 = (y2 + (1 : Int32)) → ∀ x_9 : Int32, x_9 = y3 + (1 : Int32) → K4 x_8 x_9)))))
theorem zc_X5_valuesBelow : zCalV RX5 yX5_valuesBelow cX5_valuesBelow 4 (some .int) 1 := ⟨q_im_X5_valuesBelow, q_se_X5_valuesBelow, q_in_X5, q_cd_X5_valuesBelow, ⟨by decide, by decide, by decide +kernel⟩, rfl⟩
abbrev rm_X5_valuesBelow : Room := { frames := 3, cells := 0, slots := 0, locals := 65 }
def v_X5_valuesBelow (u : zState) (x1 : Int32) (Q : Int32 → Prop) : Prop := ∃ I4 : Nat → Int32 → Int32 → Prop, (∀ (n : Nat) (y2 : Int32) (y3 : Int32), I4 n y2 y3 → t_X5_valuesBelow_4 u x1 y2 y3 (fun q0 q1 => ∃ k : Nat, k < n ∧ I4 k q0 q1) Q) ∧ t_X5_valuesBelow_e u x1 (fun q0 q1 => ∃ k : Nat, I4 k q0 q1) Q
set_option maxHeartbeats 4000000 in
set_option maxRecDepth 100000 in
theorem L_X5_valuesBelow (l : Launch) (dC : Nat → ClassId) (dI : Nat → Nat → Nat) (cI cJ cS : ClassId) (a : Nat → Nat) (u : zState) (x1 : Int32) (Q : Int32 → Prop) (I4 : Nat → Int32 → Int32 → Prop) (h4 : ∀ (n : Nat) (y2 : Int32) (y3 : Int32), I4 n y2 y3 → t_X5_valuesBelow_4 u x1 y2 y3 (fun q0 q1 => ∃ k : Nat, k < n ∧ I4 k q0 q1) Q) (hf : t_X5_valuesBelow_e u x1 (fun q0 q1 => ∃ k : Nat, I4 k q0 q1) Q) : Met l yX5_valuesBelow (Cond.code yX5_valuesBelow cX5_valuesBelow 4 (some .int) :: zT) rm_X5_valuesBelow (zPp dC dI cI cJ cS (cl_X5 cI cJ a u) [.ref (a 0), .int x1]) (vp_Si Q) 0 0 (fun _ => False) := by
  refine z_enterP (cc := cX5_valuesBelow) (maxL := 4) (ret := (some .int)) (by decide) (Nat.le_of_ble_eq_true rfl) ?_
  intro p e s m below meth c ls X hP hl
  obtain ⟨⟨hx, hb, hml, hown, hts⟩, hr, hlk, hK⟩ := id X
  have hl : lv_has ls 4 [(0, .ref (a 0)), (1, .int x1)] := hl
  have LP : ∀ n : Nat, (∀ (y2 : Int32) (y3 : Int32) (ls : Array Slot), I4 n y2 y3 → lv_has ls 4 [(0, .ref (a 0)), (1, .int x1), (2, .int y2), (3, .int y3)] → W p l e rm_X5_valuesBelow s m [.ref (a 0), .int x1].toArray below meth c s.heap [] 0 0 (MQ below (vp_Si Q) [.ref (a 0), .int x1].toArray s 0 0 (fun _ => False)) (F0 m 4 ls [])) := by
    intro n
    induction n using Nat.strongRecOn with
    | _ n ih =>
      intro y2 y3 ls hI hl
      have hf := h4 n y2 y3 hI
      unfold t_X5_valuesBelow_4 at hf
      refine lv_iload_n hx hb dX5_valuesBelow_4 rfl (lv_at hl 3 rfl) ?_
      refine lv_iload_n hx hb dX5_valuesBelow_5 rfl (lv_at hl 1 rfl) ?_
      refine lv_icmp_ge (tgt := 31) hx hb dX5_valuesBelow_6 (by decide) (fun c_2 => ?_) (fun c_2 => ?_)
      · have hf := hf.1 c_2
        refine lv_iload_n hx hb dX5_valuesBelow_31 rfl (lv_at hl 2 rfl) ?_
        exact z_retPi X hf dX5_valuesBelow_32
      · have hf := hf.2 c_2
        refine lv_iload_n hx hb dX5_valuesBelow_9 rfl (lv_at hl 2 rfl) ?_
        refine lv_aload_n hx hb dX5_valuesBelow_10 rfl (lv_at hl 0 rfl) ?_
        refine lv_iload_n hx hb dX5_valuesBelow_11 rfl (lv_at hl 3 rfl) ?_
        refine z_cVi (As := [.int y3]) (rest := [.int y2]) X (c_X5_hasValue l dC dI cI cJ cS a u y3 _ hf) zc_X5_hasValue q_ml_X5_113 ⟨rfl, rfl⟩ ⟨Nat.le_of_ble_eq_true rfl, Nat.le_of_ble_eq_true rfl⟩ hP [0, 1, 2, 3, 4, 5, 6, 7, 8, 9, 10, 11, 12, 13, 14] rfl 4 rfl rfl hl.1 rfl rfl (Nat.le_of_ble_eq_true rfl) ⟨Nat.zero_le _, Nat.zero_le _⟩ dX5_valuesBelow_12 (fun r_3 hf => ?_)
        obtain ⟨hbr_3, hf⟩ := hf
        refine lv_if_eq (tgt := 22) hx hb dX5_valuesBelow_15 (by decide) (fun c_4 => ?_) (fun c_4 => ?_)
        · have hf := hf.1 c_4
          refine lv_iconst (v := 0) hx hb dX5_valuesBelow_22 (by decide) ?_
          refine lv_iadd hx hb dX5_valuesBelow_23 ?_
          refine lv_topi (fun x_5 ex_5 => ?_)
          have hf := hf x_5 ex_5
          refine lv_istore_n (lv' := [(2, .int x_5), (0, .ref (a 0)), (1, .int x1), (3, .int y3)]) hx hb dX5_valuesBelow_24 rfl hl (by decide) rfl (fun ls hl => ?_)
          obtain ⟨x_6, ex_6⟩ : ∃ y : Int32, y = y3 + (1 : Int32) := ⟨_, rfl⟩
          have hf := hf x_6 ex_6
          refine lv_iinc (v := x_6) (lv' := [(3, .int x_6), (2, .int x_5), (0, .ref (a 0)), (1, .int x1)]) hx hb dX5_valuesBelow_25 hl (k := 3) rfl (by rw [ex_6]; rfl) (by decide) rfl (fun ls hl => ?_)
          refine lv_goto (tgt := 4) hx hb dX5_valuesBelow_28 (by decide) ?_
          obtain ⟨k_7, hk_7, hf⟩ := hf
          exact (ih k_7 hk_7) _ _ ls hf (lv_sub hl [2, 3, 1, 0] rfl)
        · have hf := hf.2 c_4
          refine lv_iconst (v := 1) hx hb dX5_valuesBelow_18 (by decide) ?_
          refine lv_goto (tgt := 23) hx hb dX5_valuesBelow_19 (by decide) ?_
          refine lv_iadd hx hb dX5_valuesBelow_23 ?_
          refine lv_topi (fun x_8 ex_8 => ?_)
          have hf := hf x_8 ex_8
          refine lv_istore_n (lv' := [(2, .int x_8), (0, .ref (a 0)), (1, .int x1), (3, .int y3)]) hx hb dX5_valuesBelow_24 rfl hl (by decide) rfl (fun ls hl => ?_)
          obtain ⟨x_9, ex_9⟩ : ∃ y : Int32, y = y3 + (1 : Int32) := ⟨_, rfl⟩
          have hf := hf x_9 ex_9
          refine lv_iinc (v := x_9) (lv' := [(3, .int x_9), (2, .int x_8), (0, .ref (a 0)), (1, .int x1)]) hx hb dX5_valuesBelow_25 hl (k := 3) rfl (by rw [ex_9]; rfl) (by decide) rfl (fun ls hl => ?_)
          refine lv_goto (tgt := 4) hx hb dX5_valuesBelow_28 (by decide) ?_
          obtain ⟨k_10, hk_10, hf⟩ := hf
          exact (ih k_10 hk_10) _ _ ls hf (lv_sub hl [2, 3, 1, 0] rfl)
  unfold t_X5_valuesBelow_e at hf
  refine lv_iconst (v := 0) hx hb dX5_valuesBelow_0 (by decide) ?_
  refine lv_istore_n (lv' := [(2, .int (0 : Int32)), (0, .ref (a 0)), (1, .int x1)]) hx hb dX5_valuesBelow_1 rfl hl (by decide) rfl (fun ls hl => ?_)
  refine lv_iconst (v := 0) hx hb dX5_valuesBelow_2 (by decide) ?_
  refine lv_istore_n (lv' := [(3, .int (0 : Int32)), (2, .int (0 : Int32)), (0, .ref (a 0)), (1, .int x1)]) hx hb dX5_valuesBelow_3 rfl hl (by decide) rfl (fun ls hl => ?_)
  obtain ⟨k_1, hf⟩ := hf
  exact (LP k_1) _ _ ls hf (lv_sub hl [2, 3, 1, 0] rfl)
def s_X5_valuesBelow (u : zState) (x1 : Int32) (Q : Int32 → Prop) : Prop := zOk u ∧ ∃ k : Nat, k ≤ 64 ∧ x1 = nI k ∧ Q (nI (fa_cnt (uVal u) k))
theorem st_X5_valuesBelow {u : zState} {x1 : Int32} {Q : Int32 → Prop} (h : s_X5_valuesBelow u x1 Q) : v_X5_valuesBelow u x1 Q := by
  obtain ⟨ho, k, hk, rfl, h⟩ := h
  refine zlp2 (T := fun y y' K => t_X5_valuesBelow_4 u (nI k) y y' K Q) (E := fun K => t_X5_valuesBelow_e u (nI k) K Q) k (fun i => nI (fa_cnt (uVal u) i)) (fun i => nI i) (fun K hK => hK) ?_ ?_
  · intro i hi K hK
    refine ⟨fun c => absurd c (nI_ge hi (by omega)), fun _ => ⟨ho, i, by omega, rfl, fun d => ⟨fun q => absurd q (by decide), fun _ x e x' e' => ?_⟩, fun d => ⟨fun _ x e x' e' => ?_, fun q => absurd rfl q⟩⟩⟩
    · rw [e, e', nI_1, nI_1]
      rw [fa_cnt_yes (p := uVal u) d] at hK; exact hK
    · rw [e, e', nI_1, Int32.add_zero]
      rw [fa_cnt_no (p := uVal u) d] at hK; exact hK
  · intro K
    exact ⟨fun _ => h, fun c => absurd (nI_le (Nat.le_refl _) (by omega)) c⟩
theorem c_X5_valuesBelow (l : Launch) (dC : Nat → ClassId) (dI : Nat → Nat → Nat) (cI cJ cS : ClassId) (a : Nat → Nat) (u : zState) (x1 : Int32) (Q : Int32 → Prop) (hf : s_X5_valuesBelow u x1 Q) : Met l yX5_valuesBelow (Cond.code yX5_valuesBelow cX5_valuesBelow 4 (some .int) :: zT) rm_X5_valuesBelow (zPp dC dI cI cJ cS (cl_X5 cI cJ a u) [.ref (a 0), .int x1]) (vp_Si Q) 0 0 (fun _ => False) := by
  obtain ⟨I4, h4, hf⟩ := st_X5_valuesBelow hf
  exact L_X5_valuesBelow l dC dI cI cJ cS a u x1 Q I4 h4 hf

def t_X5_heaviest_e (u : zState) (K6 : Int32 → Int32 → Int32 → Prop) (Q : Int32 → Prop) : Prop := K6 (-1 : Int32) (0 : Int32) (0 : Int32)
def t_X5_heaviest_6 (u : zState) (y1 : Int32) (y2 : Int32) (y3 : Int32) (K6 : Int32 → Int32 → Int32 → Prop) (Q : Int32 → Prop) : Prop := (((64 : Int32) ≤ y3 → Q y1) ∧ (¬ (64 : Int32) ≤ y3 → s_X9_currentOf u.2.2.2.1 y3 (fun r_3 : Int64 => s_X0_lengthOf r_3 (fun r_4 : Int32 => ((r_4 ≤ y2 → ∀ x_6 : Int32, x_6 = y3 + (1 : Int32) → K6 y1 y2 x_6) ∧ (¬ r_4 ≤ y2 → ∀ x_8 : Int32, x_8 = y3 + (1 : Int32) → K6 y3 r_4 x_8))))))
theorem zc_X5_heaviest : zCalV RX5 yX5_heaviest cX5_heaviest 5 (some .int) 0 := ⟨q_im_X5_heaviest, q_se_X5_heaviest, q_in_X5, q_cd_X5_heaviest, ⟨by decide, by decide, by decide +kernel⟩, rfl⟩
abbrev rm_X5_heaviest : Room := { frames := 2, cells := 0, slots := 0, locals := 44 }
def v_X5_heaviest (u : zState) (Q : Int32 → Prop) : Prop := ∃ I6 : Nat → Int32 → Int32 → Int32 → Prop, (∀ (n : Nat) (y1 : Int32) (y2 : Int32) (y3 : Int32), I6 n y1 y2 y3 → t_X5_heaviest_6 u y1 y2 y3 (fun q0 q1 q2 => ∃ k : Nat, k < n ∧ I6 k q0 q1 q2) Q) ∧ t_X5_heaviest_e u (fun q0 q1 q2 => ∃ k : Nat, I6 k q0 q1 q2) Q
set_option maxHeartbeats 4000000 in
set_option maxRecDepth 100000 in
theorem L_X5_heaviest (l : Launch) (dC : Nat → ClassId) (dI : Nat → Nat → Nat) (cI cJ cS : ClassId) (a : Nat → Nat) (u : zState) (Q : Int32 → Prop) (I6 : Nat → Int32 → Int32 → Int32 → Prop) (h6 : ∀ (n : Nat) (y1 : Int32) (y2 : Int32) (y3 : Int32), I6 n y1 y2 y3 → t_X5_heaviest_6 u y1 y2 y3 (fun q0 q1 q2 => ∃ k : Nat, k < n ∧ I6 k q0 q1 q2) Q) (hf : t_X5_heaviest_e u (fun q0 q1 q2 => ∃ k : Nat, I6 k q0 q1 q2) Q) : Met l yX5_heaviest (Cond.code yX5_heaviest cX5_heaviest 5 (some .int) :: zT) rm_X5_heaviest (zPp dC dI cI cJ cS (cl_X5 cI cJ a u) [.ref (a 0)]) (vp_Si Q) 0 0 (fun _ => False) := by
  refine z_enterP (cc := cX5_heaviest) (maxL := 5) (ret := (some .int)) (by decide) (Nat.le_of_ble_eq_true rfl) ?_
  intro p e s m below meth c ls X hP hl
  obtain ⟨⟨hx, hb, hml, hown, hts⟩, hr, hlk, hK⟩ := id X
  have hl : lv_has ls 5 [(0, .ref (a 0))] := hl
  have LP : ∀ n : Nat, (∀ (y1 : Int32) (y2 : Int32) (y3 : Int32) (ls : Array Slot), I6 n y1 y2 y3 → lv_has ls 5 [(0, .ref (a 0)), (1, .int y1), (2, .int y2), (3, .int y3)] → W p l e rm_X5_heaviest s m [.ref (a 0)].toArray below meth c s.heap [] 0 0 (MQ below (vp_Si Q) [.ref (a 0)].toArray s 0 0 (fun _ => False)) (F0 m 6 ls [])) := by
    intro n
    induction n using Nat.strongRecOn with
    | _ n ih =>
      intro y1 y2 y3 ls hI hl
      have hf := h6 n y1 y2 y3 hI
      unfold t_X5_heaviest_6 at hf
      refine lv_iload_n hx hb dX5_heaviest_6 rfl (lv_at hl 3 rfl) ?_
      refine lv_bipush (v := 64) hx hb dX5_heaviest_7 (by decide) ?_
      refine lv_icmp_ge (tgt := 42) hx hb dX5_heaviest_9 (by decide) (fun c_2 => ?_) (fun c_2 => ?_)
      · have hf := hf.1 c_2
        refine lv_iload_n hx hb dX5_heaviest_42 rfl (lv_at hl 1 rfl) ?_
        exact z_retPi X hf dX5_heaviest_43
      · have hf := hf.2 c_2
        refine lv_aload_n hx hb dX5_heaviest_12 rfl (lv_at hl 0 rfl) ?_
        refine va_get (D := (dC, dI)) (ci := 4) (v := .ref (a 8)) (C := RX5) (T := TX5) (N := 9) hx hb hts inX5 hown hK hP 0 rfl rfl 3 (by decide) (hts _ q_fl_X5_35) (fun _ h9 => h9) rfl dX5_heaviest_13 ?_
        refine lv_iload_n hx hb dX5_heaviest_16 rfl (lv_at hl 3 rfl) ?_
        refine z_cVl (As := [.int y3]) (rest := []) X (c_X9_currentOf l dC dI cI cJ cS (fun i => a (8 + i)) u.2.2.2.1 y3 _ hf) zc_X9_currentOf q_ml_X5_299 ⟨rfl, rfl⟩ ⟨Nat.le_of_ble_eq_true rfl, Nat.le_of_ble_eq_true rfl⟩ hP [8, 9, 10] rfl 8 rfl rfl hl.1 rfl rfl (Nat.le_of_ble_eq_true rfl) ⟨Nat.zero_le _, Nat.zero_le _⟩ dX5_heaviest_17 (fun r_3 hf => ?_)
        refine z_cSi (As := [.long r_3]) (rest := []) X (c_X0_lengthOf l dC dI cI cJ cS   r_3 _ hf) zc_X0_lengthOf q_ml_X5_272 ⟨rfl, rfl⟩ ⟨Nat.le_of_ble_eq_true rfl, Nat.le_of_ble_eq_true rfl⟩ hP [] rfl hl.1 rfl rfl (Nat.le_of_ble_eq_true rfl) ⟨Nat.zero_le _, Nat.zero_le _⟩ dX5_heaviest_20 (fun r_4 hf => ?_)
        refine lv_istore (lv' := [(4, .int r_4), (0, .ref (a 0)), (1, .int y1), (2, .int y2), (3, .int y3)]) hx hb dX5_heaviest_23 hl (by decide) rfl (fun ls hl => ?_)
        refine lv_iload hx hb dX5_heaviest_25 (lv_at hl 0 rfl) ?_
        refine lv_iload_n hx hb dX5_heaviest_27 rfl (lv_at hl 3 rfl) ?_
        refine lv_icmp_le (tgt := 36) hx hb dX5_heaviest_28 (by decide) (fun c_5 => ?_) (fun c_5 => ?_)
        · have hf := hf.1 c_5
          obtain ⟨x_6, ex_6⟩ : ∃ y : Int32, y = y3 + (1 : Int32) := ⟨_, rfl⟩
          have hf := hf x_6 ex_6
          refine lv_iinc (v := x_6) (lv' := [(3, .int x_6), (4, .int r_4), (0, .ref (a 0)), (1, .int y1), (2, .int y2)]) hx hb dX5_heaviest_36 hl (k := 4) rfl (by rw [ex_6]; rfl) (by decide) rfl (fun ls hl => ?_)
          refine lv_goto (tgt := 6) hx hb dX5_heaviest_39 (by decide) ?_
          obtain ⟨k_7, hk_7, hf⟩ := hf
          exact (ih k_7 hk_7) _ _ _ ls hf (lv_sub hl [2, 3, 4, 0] rfl)
        · have hf := hf.2 c_5
          refine lv_iload_n hx hb dX5_heaviest_31 rfl (lv_at hl 4 rfl) ?_
          refine lv_istore_n (lv' := [(1, .int y3), (4, .int r_4), (0, .ref (a 0)), (2, .int y2), (3, .int y3)]) hx hb dX5_heaviest_32 rfl hl (by decide) rfl (fun ls hl => ?_)
          refine lv_iload hx hb dX5_heaviest_33 (lv_at hl 1 rfl) ?_
          refine lv_istore_n (lv' := [(2, .int r_4), (1, .int y3), (4, .int r_4), (0, .ref (a 0)), (3, .int y3)]) hx hb dX5_heaviest_35 rfl hl (by decide) rfl (fun ls hl => ?_)
          obtain ⟨x_8, ex_8⟩ : ∃ y : Int32, y = y3 + (1 : Int32) := ⟨_, rfl⟩
          have hf := hf x_8 ex_8
          refine lv_iinc (v := x_8) (lv' := [(3, .int x_8), (2, .int r_4), (1, .int y3), (4, .int r_4), (0, .ref (a 0))]) hx hb dX5_heaviest_36 hl (k := 4) rfl (by rw [ex_8]; rfl) (by decide) rfl (fun ls hl => ?_)
          refine lv_goto (tgt := 6) hx hb dX5_heaviest_39 (by decide) ?_
          obtain ⟨k_9, hk_9, hf⟩ := hf
          exact (ih k_9 hk_9) _ _ _ ls hf (lv_sub hl [4, 2, 1, 0] rfl)
  unfold t_X5_heaviest_e at hf
  refine lv_iconst (v := (-1)) hx hb dX5_heaviest_0 (by decide) ?_
  refine lv_istore_n (lv' := [(1, .int (-1 : Int32)), (0, .ref (a 0))]) hx hb dX5_heaviest_1 rfl hl (by decide) rfl (fun ls hl => ?_)
  refine lv_iconst (v := 0) hx hb dX5_heaviest_2 (by decide) ?_
  refine lv_istore_n (lv' := [(2, .int (0 : Int32)), (1, .int (-1 : Int32)), (0, .ref (a 0))]) hx hb dX5_heaviest_3 rfl hl (by decide) rfl (fun ls hl => ?_)
  refine lv_iconst (v := 0) hx hb dX5_heaviest_4 (by decide) ?_
  refine lv_istore_n (lv' := [(3, .int (0 : Int32)), (2, .int (0 : Int32)), (1, .int (-1 : Int32)), (0, .ref (a 0))]) hx hb dX5_heaviest_5 rfl hl (by decide) rfl (fun ls hl => ?_)
  obtain ⟨k_1, hf⟩ := hf
  exact (LP k_1) _ _ _ ls hf (lv_sub hl [3, 2, 1, 0] rfl)
/-- the key of the longest value of the first n, and that length -/
def uHvy (u : zState) : Nat → Int32 × Int32
  | 0 => (-1, 0)
  | n + 1 => if cLen (uCur u n) ≤ (uHvy u n).2 then uHvy u n else (nI n, cLen (uCur u n))
def s_X5_heaviest (u : zState) (Q : Int32 → Prop) : Prop := zOk u ∧ Q (uHvy u 64).1
theorem st_X5_heaviest {u : zState} {Q : Int32 → Prop} (h : s_X5_heaviest u Q) : v_X5_heaviest u Q := by
  obtain ⟨ho, h⟩ := h
  refine zlp3 (T := fun y y' y'' K => t_X5_heaviest_6 u y y' y'' K Q) (E := fun K => t_X5_heaviest_e u K Q) 64 (fun i => (uHvy u i).1) (fun i => (uHvy u i).2) (fun i => nI i) (fun K hK => hK) ?_ ?_
  · intro i hi K hK
    have hu : uHvy u (i + 1) = if cLen (uCur u i) ≤ (uHvy u i).2 then uHvy u i else (nI i, cLen (uCur u i)) := rfl
    have hK : K (uHvy u (i + 1)).1 (uHvy u (i + 1)).2 (nI (i + 1)) := hK
    rw [hu] at hK
    refine ⟨fun c => absurd c (ge64 hi), fun _ => ⟨i, rN u, hi, ho.2.1.2, rfl, ho.r, fun c x e => ?_, fun c x e => ?_⟩⟩
    · rw [if_pos (show cLen (uCur u i) ≤ (uHvy u i).2 from c)] at hK; rw [e, nI_1]; exact hK
    · rw [if_neg (show ¬ cLen (uCur u i) ≤ (uHvy u i).2 from c)] at hK; rw [e, nI_1]; exact hK
  · intro K
    exact ⟨fun _ => h, fun c => absurd (le64 (Nat.le_refl _) (by decide)) c⟩
theorem c_X5_heaviest (l : Launch) (dC : Nat → ClassId) (dI : Nat → Nat → Nat) (cI cJ cS : ClassId) (a : Nat → Nat) (u : zState) (Q : Int32 → Prop) (hf : s_X5_heaviest u Q) : Met l yX5_heaviest (Cond.code yX5_heaviest cX5_heaviest 5 (some .int) :: zT) rm_X5_heaviest (zPp dC dI cI cJ cS (cl_X5 cI cJ a u) [.ref (a 0)]) (vp_Si Q) 0 0 (fun _ => False) := by
  obtain ⟨I6, h6, hf⟩ := st_X5_heaviest hf
  exact L_X5_heaviest l dC dI cI cJ cS a u Q I6 h6 hf

def t_X5_rankOf_e (u : zState) (x1 : Int32) (K11 : Int32 → Int32 → Int32 → Prop) (Q : Int32 → Prop) : Prop := s_X5_valueOf u x1 (fun r_1 : Int32 => K11 r_1 (0 : Int32) (0 : Int32))
def t_X5_rankOf_11 (u : zState) (x1 : Int32) (y2 : Int32) (y3 : Int32) (y4 : Int32) (K11 : Int32 → Int32 → Int32 → Prop) (Q : Int32 → Prop) : Prop := (((64 : Int32) ≤ y4 → Q y3) ∧ (¬ (64 : Int32) ≤ y4 → s_X5_hasValue u y4 (fun r_4 : Int32 => ((r_4 = 0 → ∀ x_6 : Int32, x_6 = (y3 + (0 : Int32)) → ∀ x_7 : Int32, x_7 = y4 + (1 : Int32) → K11 y2 x_6 x_7) ∧ (¬ r_4 = 0 → s_X5_valueOf u y4 (fun r_9 : Int32 => ((y2 ≤ r_9 → ∀ x_11 : Int32, x_11 = (y3 + (0 : Int32)) → ∀ x_12 : Int32, x_12 = y4 + (1 : Int32) → K11 y2 x_11 x_12) ∧ (¬ y2 ≤ r_9 → ∀ x_14 : Int32, x_14 = (y3 + (1 : Int32)) → ∀ x_15 : Int32, x_15 = y4 + (1 : Int32) → K11 y2 x_14 x_15))))))))
theorem zc_X5_rankOf : zCalV RX5 yX5_rankOf cX5_rankOf 5 (some .int) 1 := ⟨q_im_X5_rankOf, q_se_X5_rankOf, q_in_X5, q_cd_X5_rankOf, ⟨by decide, by decide, by decide +kernel⟩, rfl⟩
abbrev rm_X5_rankOf : Room := { frames := 3, cells := 0, slots := 0, locals := 67 }
def v_X5_rankOf (u : zState) (x1 : Int32) (Q : Int32 → Prop) : Prop := ∃ I11 : Nat → Int32 → Int32 → Int32 → Prop, (∀ (n : Nat) (y2 : Int32) (y3 : Int32) (y4 : Int32), I11 n y2 y3 y4 → t_X5_rankOf_11 u x1 y2 y3 y4 (fun q0 q1 q2 => ∃ k : Nat, k < n ∧ I11 k q0 q1 q2) Q) ∧ t_X5_rankOf_e u x1 (fun q0 q1 q2 => ∃ k : Nat, I11 k q0 q1 q2) Q
set_option maxHeartbeats 4000000 in
set_option maxRecDepth 100000 in
theorem L_X5_rankOf (l : Launch) (dC : Nat → ClassId) (dI : Nat → Nat → Nat) (cI cJ cS : ClassId) (a : Nat → Nat) (u : zState) (x1 : Int32) (Q : Int32 → Prop) (I11 : Nat → Int32 → Int32 → Int32 → Prop) (h11 : ∀ (n : Nat) (y2 : Int32) (y3 : Int32) (y4 : Int32), I11 n y2 y3 y4 → t_X5_rankOf_11 u x1 y2 y3 y4 (fun q0 q1 q2 => ∃ k : Nat, k < n ∧ I11 k q0 q1 q2) Q) (hf : t_X5_rankOf_e u x1 (fun q0 q1 q2 => ∃ k : Nat, I11 k q0 q1 q2) Q) : Met l yX5_rankOf (Cond.code yX5_rankOf cX5_rankOf 5 (some .int) :: zT) rm_X5_rankOf (zPp dC dI cI cJ cS (cl_X5 cI cJ a u) [.ref (a 0), .int x1]) (vp_Si Q) 0 0 (fun _ => False) := by
  refine z_enterP (cc := cX5_rankOf) (maxL := 5) (ret := (some .int)) (by decide) (Nat.le_of_ble_eq_true rfl) ?_
  intro p e s m below meth c ls X hP hl
  obtain ⟨⟨hx, hb, hml, hown, hts⟩, hr, hlk, hK⟩ := id X
  have hl : lv_has ls 5 [(0, .ref (a 0)), (1, .int x1)] := hl
  have LP : ∀ n : Nat, (∀ (y2 : Int32) (y3 : Int32) (y4 : Int32) (ls : Array Slot), I11 n y2 y3 y4 → lv_has ls 5 [(0, .ref (a 0)), (1, .int x1), (2, .int y2), (3, .int y3), (4, .int y4)] → W p l e rm_X5_rankOf s m [.ref (a 0), .int x1].toArray below meth c s.heap [] 0 0 (MQ below (vp_Si Q) [.ref (a 0), .int x1].toArray s 0 0 (fun _ => False)) (F0 m 11 ls [])) := by
    intro n
    induction n using Nat.strongRecOn with
    | _ n ih =>
      intro y2 y3 y4 ls hI hl
      have hf := h11 n y2 y3 y4 hI
      unfold t_X5_rankOf_11 at hf
      refine lv_iload hx hb dX5_rankOf_11 (lv_at hl 4 rfl) ?_
      refine lv_bipush (v := 64) hx hb dX5_rankOf_13 (by decide) ?_
      refine lv_icmp_ge (tgt := 51) hx hb dX5_rankOf_15 (by decide) (fun c_3 => ?_) (fun c_3 => ?_)
      · have hf := hf.1 c_3
        refine lv_iload_n hx hb dX5_rankOf_51 rfl (lv_at hl 3 rfl) ?_
        exact z_retPi X hf dX5_rankOf_52
      · have hf := hf.2 c_3
        refine lv_iload_n hx hb dX5_rankOf_18 rfl (lv_at hl 3 rfl) ?_
        refine lv_aload_n hx hb dX5_rankOf_19 rfl (lv_at hl 0 rfl) ?_
        refine lv_iload hx hb dX5_rankOf_20 (lv_at hl 4 rfl) ?_
        refine z_cVi (As := [.int y4]) (rest := [.int y3]) X (c_X5_hasValue l dC dI cI cJ cS a u y4 _ hf) zc_X5_hasValue q_ml_X5_113 ⟨rfl, rfl⟩ ⟨Nat.le_of_ble_eq_true rfl, Nat.le_of_ble_eq_true rfl⟩ hP [0, 1, 2, 3, 4, 5, 6, 7, 8, 9, 10, 11, 12, 13, 14] rfl 4 rfl rfl hl.1 rfl rfl (Nat.le_of_ble_eq_true rfl) ⟨Nat.zero_le _, Nat.zero_le _⟩ dX5_rankOf_22 (fun r_4 hf => ?_)
        obtain ⟨hbr_4, hf⟩ := hf
        refine lv_if_eq (tgt := 42) hx hb dX5_rankOf_25 (by decide) (fun c_5 => ?_) (fun c_5 => ?_)
        · have hf := hf.1 c_5
          refine lv_iconst (v := 0) hx hb dX5_rankOf_42 (by decide) ?_
          refine lv_iadd hx hb dX5_rankOf_43 ?_
          refine lv_topi (fun x_6 ex_6 => ?_)
          have hf := hf x_6 ex_6
          refine lv_istore_n (lv' := [(3, .int x_6), (0, .ref (a 0)), (1, .int x1), (2, .int y2), (4, .int y4)]) hx hb dX5_rankOf_44 rfl hl (by decide) rfl (fun ls hl => ?_)
          obtain ⟨x_7, ex_7⟩ : ∃ y : Int32, y = y4 + (1 : Int32) := ⟨_, rfl⟩
          have hf := hf x_7 ex_7
          refine lv_iinc (v := x_7) (lv' := [(4, .int x_7), (3, .int x_6), (0, .ref (a 0)), (1, .int x1), (2, .int y2)]) hx hb dX5_rankOf_45 hl (k := 4) rfl (by rw [ex_7]; rfl) (by decide) rfl (fun ls hl => ?_)
          refine lv_goto (tgt := 11) hx hb dX5_rankOf_48 (by decide) ?_
          obtain ⟨k_8, hk_8, hf⟩ := hf
          exact (ih k_8 hk_8) _ _ _ ls hf (lv_sub hl [2, 3, 4, 1, 0] rfl)
        · have hf := hf.2 c_5
          refine lv_aload_n hx hb dX5_rankOf_28 rfl (lv_at hl 0 rfl) ?_
          refine lv_iload hx hb dX5_rankOf_29 (lv_at hl 4 rfl) ?_
          refine z_cVi (As := [.int y4]) (rest := [.int y3]) X (c_X5_valueOf l dC dI cI cJ cS a u y4 _ hf) zc_X5_valueOf q_ml_X5_322 ⟨rfl, rfl⟩ ⟨Nat.le_of_ble_eq_true rfl, Nat.le_of_ble_eq_true rfl⟩ hP [0, 1, 2, 3, 4, 5, 6, 7, 8, 9, 10, 11, 12, 13, 14] rfl 4 rfl rfl hl.1 rfl rfl (Nat.le_of_ble_eq_true rfl) ⟨Nat.zero_le _, Nat.zero_le _⟩ dX5_rankOf_31 (fun r_9 hf => ?_)
          refine lv_iload_n hx hb dX5_rankOf_34 rfl (lv_at hl 2 rfl) ?_
          refine lv_icmp_ge (tgt := 42) hx hb dX5_rankOf_35 (by decide) (fun c_10 => ?_) (fun c_10 => ?_)
          · have hf := hf.1 c_10
            refine lv_iconst (v := 0) hx hb dX5_rankOf_42 (by decide) ?_
            refine lv_iadd hx hb dX5_rankOf_43 ?_
            refine lv_topi (fun x_11 ex_11 => ?_)
            have hf := hf x_11 ex_11
            refine lv_istore_n (lv' := [(3, .int x_11), (0, .ref (a 0)), (1, .int x1), (2, .int y2), (4, .int y4)]) hx hb dX5_rankOf_44 rfl hl (by decide) rfl (fun ls hl => ?_)
            obtain ⟨x_12, ex_12⟩ : ∃ y : Int32, y = y4 + (1 : Int32) := ⟨_, rfl⟩
            have hf := hf x_12 ex_12
            refine lv_iinc (v := x_12) (lv' := [(4, .int x_12), (3, .int x_11), (0, .ref (a 0)), (1, .int x1), (2, .int y2)]) hx hb dX5_rankOf_45 hl (k := 4) rfl (by rw [ex_12]; rfl) (by decide) rfl (fun ls hl => ?_)
            refine lv_goto (tgt := 11) hx hb dX5_rankOf_48 (by decide) ?_
            obtain ⟨k_13, hk_13, hf⟩ := hf
            exact (ih k_13 hk_13) _ _ _ ls hf (lv_sub hl [2, 3, 4, 1, 0] rfl)
          · have hf := hf.2 c_10
            refine lv_iconst (v := 1) hx hb dX5_rankOf_38 (by decide) ?_
            refine lv_goto (tgt := 43) hx hb dX5_rankOf_39 (by decide) ?_
            refine lv_iadd hx hb dX5_rankOf_43 ?_
            refine lv_topi (fun x_14 ex_14 => ?_)
            have hf := hf x_14 ex_14
            refine lv_istore_n (lv' := [(3, .int x_14), (0, .ref (a 0)), (1, .int x1), (2, .int y2), (4, .int y4)]) hx hb dX5_rankOf_44 rfl hl (by decide) rfl (fun ls hl => ?_)
            obtain ⟨x_15, ex_15⟩ : ∃ y : Int32, y = y4 + (1 : Int32) := ⟨_, rfl⟩
            have hf := hf x_15 ex_15
            refine lv_iinc (v := x_15) (lv' := [(4, .int x_15), (3, .int x_14), (0, .ref (a 0)), (1, .int x1), (2, .int y2)]) hx hb dX5_rankOf_45 hl (k := 4) rfl (by rw [ex_15]; rfl) (by decide) rfl (fun ls hl => ?_)
            refine lv_goto (tgt := 11) hx hb dX5_rankOf_48 (by decide) ?_
            obtain ⟨k_16, hk_16, hf⟩ := hf
            exact (ih k_16 hk_16) _ _ _ ls hf (lv_sub hl [2, 3, 4, 1, 0] rfl)
  unfold t_X5_rankOf_e at hf
  refine lv_aload_n hx hb dX5_rankOf_0 rfl (lv_at hl 0 rfl) ?_
  refine lv_iload_n hx hb dX5_rankOf_1 rfl (lv_at hl 1 rfl) ?_
  refine z_cVi (As := [.int x1]) (rest := []) X (c_X5_valueOf l dC dI cI cJ cS a u x1 _ hf) zc_X5_valueOf q_ml_X5_322 ⟨rfl, rfl⟩ ⟨Nat.le_of_ble_eq_true rfl, Nat.le_of_ble_eq_true rfl⟩ hP [0, 1, 2, 3, 4, 5, 6, 7, 8, 9, 10, 11, 12, 13, 14] rfl 4 rfl rfl hl.1 rfl rfl (Nat.le_of_ble_eq_true rfl) ⟨Nat.zero_le _, Nat.zero_le _⟩ dX5_rankOf_2 (fun r_1 hf => ?_)
  refine lv_istore_n (lv' := [(2, .int r_1), (0, .ref (a 0)), (1, .int x1)]) hx hb dX5_rankOf_5 rfl hl (by decide) rfl (fun ls hl => ?_)
  refine lv_iconst (v := 0) hx hb dX5_rankOf_6 (by decide) ?_
  refine lv_istore_n (lv' := [(3, .int (0 : Int32)), (2, .int r_1), (0, .ref (a 0)), (1, .int x1)]) hx hb dX5_rankOf_7 rfl hl (by decide) rfl (fun ls hl => ?_)
  refine lv_iconst (v := 0) hx hb dX5_rankOf_8 (by decide) ?_
  refine lv_istore (lv' := [(4, .int (0 : Int32)), (3, .int (0 : Int32)), (2, .int r_1), (0, .ref (a 0)), (1, .int x1)]) hx hb dX5_rankOf_9 hl (by decide) rfl (fun ls hl => ?_)
  obtain ⟨k_2, hf⟩ := hf
  exact (LP k_2) _ _ _ ls hf (lv_sub hl [3, 4, 2, 1, 0] rfl)
def s_X5_rankOf (u : zState) (x1 : Int32) (Q : Int32 → Prop) : Prop := zOk u ∧ ∃ k : Nat, k < 64 ∧ x1 = nI k ∧ Q (nI (fa_cnt (fun j => uVal u j && decide (uVof u j < uVof u k)) 64))
theorem st_X5_rankOf {u : zState} {x1 : Int32} {Q : Int32 → Prop} (h : s_X5_rankOf u x1 Q) : v_X5_rankOf u x1 Q := by
  obtain ⟨ho, k, hk, rfl, h⟩ := h
  refine zlp3 (T := fun y y' y'' K => t_X5_rankOf_11 u (nI k) y y' y'' K Q) (E := fun K => t_X5_rankOf_e u (nI k) K Q) 64 (fun _ => uVof u k) (fun i => nI (fa_cnt (fun j => uVal u j && decide (uVof u j < uVof u k)) i)) (fun i => nI i) (fun K hK => ⟨ho, k, hk, rfl, hK⟩) ?_ ?_
  · intro i hi K hK
    refine ⟨fun c => absurd c (ge64 hi), fun _ => ⟨ho, i, hi, rfl, fun d => ⟨fun q => absurd q (by decide), fun _ => ⟨ho, i, hi, rfl, fun c x e x' e' => ?_, fun c x e x' e' => ?_⟩⟩, fun d => ⟨fun _ x e x' e' => ?_, fun q => absurd rfl q⟩⟩⟩
    · rw [e, e', nI_1, Int32.add_zero]
      rw [fa_cnt_no (p := fun j => uVal u j && decide (uVof u j < uVof u k)) (by show (uVal u i && decide _) = false; rw [decide_eq_false (fun q => n_nlt q c), Bool.and_false])] at hK; exact hK
    · rw [e, e', nI_1, nI_1]
      rw [fa_cnt_yes (p := fun j => uVal u j && decide (uVof u j < uVof u k)) (by show (uVal u i && decide _) = true; rw [d, decide_eq_true (n_nle c)]; rfl)] at hK; exact hK
    · rw [e, e', nI_1, Int32.add_zero]
      rw [fa_cnt_no (p := fun j => uVal u j && decide (uVof u j < uVof u k)) (by show (uVal u i && decide _) = false; rw [d]; rfl)] at hK; exact hK
  · intro K
    exact ⟨fun _ => h, fun c => absurd (le64 (Nat.le_refl _) (by decide)) c⟩
theorem c_X5_rankOf (l : Launch) (dC : Nat → ClassId) (dI : Nat → Nat → Nat) (cI cJ cS : ClassId) (a : Nat → Nat) (u : zState) (x1 : Int32) (Q : Int32 → Prop) (hf : s_X5_rankOf u x1 Q) : Met l yX5_rankOf (Cond.code yX5_rankOf cX5_rankOf 5 (some .int) :: zT) rm_X5_rankOf (zPp dC dI cI cJ cS (cl_X5 cI cJ a u) [.ref (a 0), .int x1]) (vp_Si Q) 0 0 (fun _ => False) := by
  obtain ⟨I11, h11, hf⟩ := st_X5_rankOf hf
  exact L_X5_rankOf l dC dI cI cJ cS a u x1 Q I11 h11 hf

def t_X5_twinOf_e (u : zState) (x1 : Int32) (K8 : Int32 → Int32 → Prop) (Q : Int32 → Prop) : Prop := s_X5_valueOf u x1 (fun r_1 : Int32 => K8 r_1 (0 : Int32))
def t_X5_twinOf_8 (u : zState) (x1 : Int32) (y2 : Int32) (y3 : Int32) (K8 : Int32 → Int32 → Prop) (Q : Int32 → Prop) : Prop := (((64 : Int32) ≤ y3 → Q (-1 : Int32)) ∧ (¬ (64 : Int32) ≤ y3 → ((y3 = x1 → ∀ x_5 : Int32, x_5 = y3 + (1 : Int32) → K8 y2 x_5) ∧ (¬ y3 = x1 → s_X5_valueOf u y3 (fun r_7 : Int32 => ((¬ r_7 = y2 → ∀ x_9 : Int32, x_9 = y3 + (1 : Int32) → K8 y2 x_9) ∧ (r_7 = y2 → Q y3)))))))
theorem zc_X5_twinOf : zCalV RX5 yX5_twinOf cX5_twinOf 4 (some .int) 1 := ⟨q_im_X5_twinOf, q_se_X5_twinOf, q_in_X5, q_cd_X5_twinOf, ⟨by decide, by decide, by decide +kernel⟩, rfl⟩
abbrev rm_X5_twinOf : Room := { frames := 3, cells := 0, slots := 0, locals := 67 }
def v_X5_twinOf (u : zState) (x1 : Int32) (Q : Int32 → Prop) : Prop := ∃ I8 : Nat → Int32 → Int32 → Prop, (∀ (n : Nat) (y2 : Int32) (y3 : Int32), I8 n y2 y3 → t_X5_twinOf_8 u x1 y2 y3 (fun q0 q1 => ∃ k : Nat, k < n ∧ I8 k q0 q1) Q) ∧ t_X5_twinOf_e u x1 (fun q0 q1 => ∃ k : Nat, I8 k q0 q1) Q
set_option maxHeartbeats 4000000 in
set_option maxRecDepth 100000 in
theorem L_X5_twinOf (l : Launch) (dC : Nat → ClassId) (dI : Nat → Nat → Nat) (cI cJ cS : ClassId) (a : Nat → Nat) (u : zState) (x1 : Int32) (Q : Int32 → Prop) (I8 : Nat → Int32 → Int32 → Prop) (h8 : ∀ (n : Nat) (y2 : Int32) (y3 : Int32), I8 n y2 y3 → t_X5_twinOf_8 u x1 y2 y3 (fun q0 q1 => ∃ k : Nat, k < n ∧ I8 k q0 q1) Q) (hf : t_X5_twinOf_e u x1 (fun q0 q1 => ∃ k : Nat, I8 k q0 q1) Q) : Met l yX5_twinOf (Cond.code yX5_twinOf cX5_twinOf 4 (some .int) :: zT) rm_X5_twinOf (zPp dC dI cI cJ cS (cl_X5 cI cJ a u) [.ref (a 0), .int x1]) (vp_Si Q) 0 0 (fun _ => False) := by
  refine z_enterP (cc := cX5_twinOf) (maxL := 4) (ret := (some .int)) (by decide) (Nat.le_of_ble_eq_true rfl) ?_
  intro p e s m below meth c ls X hP hl
  obtain ⟨⟨hx, hb, hml, hown, hts⟩, hr, hlk, hK⟩ := id X
  have hl : lv_has ls 4 [(0, .ref (a 0)), (1, .int x1)] := hl
  have LP : ∀ n : Nat, (∀ (y2 : Int32) (y3 : Int32) (ls : Array Slot), I8 n y2 y3 → lv_has ls 4 [(0, .ref (a 0)), (1, .int x1), (2, .int y2), (3, .int y3)] → W p l e rm_X5_twinOf s m [.ref (a 0), .int x1].toArray below meth c s.heap [] 0 0 (MQ below (vp_Si Q) [.ref (a 0), .int x1].toArray s 0 0 (fun _ => False)) (F0 m 8 ls [])) := by
    intro n
    induction n using Nat.strongRecOn with
    | _ n ih =>
      intro y2 y3 ls hI hl
      have hf := h8 n y2 y3 hI
      unfold t_X5_twinOf_8 at hf
      refine lv_iload_n hx hb dX5_twinOf_8 rfl (lv_at hl 3 rfl) ?_
      refine lv_bipush (v := 64) hx hb dX5_twinOf_9 (by decide) ?_
      refine lv_icmp_ge (tgt := 36) hx hb dX5_twinOf_11 (by decide) (fun c_3 => ?_) (fun c_3 => ?_)
      · have hf := hf.1 c_3
        refine lv_iconst (v := (-1)) hx hb dX5_twinOf_36 (by decide) ?_
        exact z_retPi X hf dX5_twinOf_37
      · have hf := hf.2 c_3
        refine lv_iload_n hx hb dX5_twinOf_14 rfl (lv_at hl 3 rfl) ?_
        refine lv_iload_n hx hb dX5_twinOf_15 rfl (lv_at hl 1 rfl) ?_
        refine lv_icmp_eq (tgt := 30) hx hb dX5_twinOf_16 (by decide) (fun c_4 => ?_) (fun c_4 => ?_)
        · have hf := hf.1 c_4
          obtain ⟨x_5, ex_5⟩ : ∃ y : Int32, y = y3 + (1 : Int32) := ⟨_, rfl⟩
          have hf := hf x_5 ex_5
          refine lv_iinc (v := x_5) (lv' := [(3, .int x_5), (0, .ref (a 0)), (1, .int x1), (2, .int y2)]) hx hb dX5_twinOf_30 hl (k := 3) rfl (by rw [ex_5]; rfl) (by decide) rfl (fun ls hl => ?_)
          refine lv_goto (tgt := 8) hx hb dX5_twinOf_33 (by decide) ?_
          obtain ⟨k_6, hk_6, hf⟩ := hf
          exact (ih k_6 hk_6) _ _ ls hf (lv_sub hl [1, 2, 3, 0] rfl)
        · have hf := hf.2 c_4
          refine lv_aload_n hx hb dX5_twinOf_19 rfl (lv_at hl 0 rfl) ?_
          refine lv_iload_n hx hb dX5_twinOf_20 rfl (lv_at hl 3 rfl) ?_
          refine z_cVi (As := [.int y3]) (rest := []) X (c_X5_valueOf l dC dI cI cJ cS a u y3 _ hf) zc_X5_valueOf q_ml_X5_322 ⟨rfl, rfl⟩ ⟨Nat.le_of_ble_eq_true rfl, Nat.le_of_ble_eq_true rfl⟩ hP [0, 1, 2, 3, 4, 5, 6, 7, 8, 9, 10, 11, 12, 13, 14] rfl 4 rfl rfl hl.1 rfl rfl (Nat.le_of_ble_eq_true rfl) ⟨Nat.zero_le _, Nat.zero_le _⟩ dX5_twinOf_21 (fun r_7 hf => ?_)
          refine lv_iload_n hx hb dX5_twinOf_24 rfl (lv_at hl 2 rfl) ?_
          refine lv_icmp_ne (tgt := 30) hx hb dX5_twinOf_25 (by decide) (fun c_8 => ?_) (fun c_8 => ?_)
          · have hf := hf.1 c_8
            obtain ⟨x_9, ex_9⟩ : ∃ y : Int32, y = y3 + (1 : Int32) := ⟨_, rfl⟩
            have hf := hf x_9 ex_9
            refine lv_iinc (v := x_9) (lv' := [(3, .int x_9), (0, .ref (a 0)), (1, .int x1), (2, .int y2)]) hx hb dX5_twinOf_30 hl (k := 3) rfl (by rw [ex_9]; rfl) (by decide) rfl (fun ls hl => ?_)
            refine lv_goto (tgt := 8) hx hb dX5_twinOf_33 (by decide) ?_
            obtain ⟨k_10, hk_10, hf⟩ := hf
            exact (ih k_10 hk_10) _ _ ls hf (lv_sub hl [1, 2, 3, 0] rfl)
          · have hf := hf.2 c_8
            refine lv_iload_n hx hb dX5_twinOf_28 rfl (lv_at hl 3 rfl) ?_
            exact z_retPi X hf dX5_twinOf_29
  unfold t_X5_twinOf_e at hf
  refine lv_aload_n hx hb dX5_twinOf_0 rfl (lv_at hl 0 rfl) ?_
  refine lv_iload_n hx hb dX5_twinOf_1 rfl (lv_at hl 1 rfl) ?_
  refine z_cVi (As := [.int x1]) (rest := []) X (c_X5_valueOf l dC dI cI cJ cS a u x1 _ hf) zc_X5_valueOf q_ml_X5_322 ⟨rfl, rfl⟩ ⟨Nat.le_of_ble_eq_true rfl, Nat.le_of_ble_eq_true rfl⟩ hP [0, 1, 2, 3, 4, 5, 6, 7, 8, 9, 10, 11, 12, 13, 14] rfl 4 rfl rfl hl.1 rfl rfl (Nat.le_of_ble_eq_true rfl) ⟨Nat.zero_le _, Nat.zero_le _⟩ dX5_twinOf_2 (fun r_1 hf => ?_)
  refine lv_istore_n (lv' := [(2, .int r_1), (0, .ref (a 0)), (1, .int x1)]) hx hb dX5_twinOf_5 rfl hl (by decide) rfl (fun ls hl => ?_)
  refine lv_iconst (v := 0) hx hb dX5_twinOf_6 (by decide) ?_
  refine lv_istore_n (lv' := [(3, .int (0 : Int32)), (2, .int r_1), (0, .ref (a 0)), (1, .int x1)]) hx hb dX5_twinOf_7 rfl hl (by decide) rfl (fun ls hl => ?_)
  obtain ⟨k_2, hf⟩ := hf
  exact (LP k_2) _ _ ls hf (lv_sub hl [2, 3, 1, 0] rfl)
def s_X5_twinOf (u : zState) (x1 : Int32) (Q : Int32 → Prop) : Prop := zOk u ∧ ∃ k : Nat, k < 64 ∧ x1 = nI k ∧ Q (zFst (fun j => decide (¬ j = k ∧ uVof u j = uVof u k)) 64)
theorem st_X5_twinOf {u : zState} {x1 : Int32} {Q : Int32 → Prop} (h : s_X5_twinOf u x1 Q) : v_X5_twinOf u x1 Q := by
  obtain ⟨ho, k, hk, rfl, h⟩ := h
  have hle := fa_first_le (fun j => decide (¬ j = k ∧ uVof u j = uVof u k)) 64
  refine zlp2 (T := fun y y' K => t_X5_twinOf_8 u (nI k) y y' K Q) (E := fun K => t_X5_twinOf_e u (nI k) K Q) (fa_first (fun j => decide (¬ j = k ∧ uVof u j = uVof u k)) 64) (fun _ => uVof u k) (fun i => nI i) (fun K hK => ⟨ho, k, hk, rfl, hK⟩) ?_ ?_
  · intro i hi K hK
    have hp := fa_first_no (fun j => decide (¬ j = k ∧ uVof u j = uVof u k)) 64 i hi
    simp only [decide_eq_false_iff_not] at hp
    refine ⟨fun c => absurd c (ge64 (by omega)), fun _ => ⟨fun c x e => ?_, fun c => ⟨ho, i, by omega, rfl, fun c2 x e => ?_, fun c2 => ?_⟩⟩⟩
    · rw [e, nI_1]; exact hK
    · rw [e, nI_1]; exact hK
    · exact absurd ⟨fun q => c (by rw [q]), c2⟩ hp
  · intro K
    by_cases hf : fa_first (fun j => decide (¬ j = k ∧ uVof u j = uVof u k)) 64 < 64
    · have hp := fa_first_yes (fun j => decide (¬ j = k ∧ uVof u j = uVof u k)) 64 hf
      simp only [decide_eq_true_eq] at hp
      rw [zFst_yes hf] at h
      refine ⟨fun c => absurd c (ge64 hf), fun _ => ⟨fun c => absurd ((nI_eq (by omega) (by omega)).mp c) hp.1, fun _ => ⟨ho, _, hf, rfl, fun c2 => absurd hp.2 c2, fun _ => h⟩⟩⟩
    · rw [zFst_no hf] at h
      have he : fa_first (fun j => decide (¬ j = k ∧ uVof u j = uVof u k)) 64 = 64 := by omega
      show t_X5_twinOf_8 u (nI k) (uVof u k) (nI (fa_first (fun j => decide (¬ j = k ∧ uVof u j = uVof u k)) 64)) K Q
      rw [he]
      exact ⟨fun _ => h, fun c => absurd (le64 (Nat.le_refl _) (by decide)) c⟩
theorem c_X5_twinOf (l : Launch) (dC : Nat → ClassId) (dI : Nat → Nat → Nat) (cI cJ cS : ClassId) (a : Nat → Nat) (u : zState) (x1 : Int32) (Q : Int32 → Prop) (hf : s_X5_twinOf u x1 Q) : Met l yX5_twinOf (Cond.code yX5_twinOf cX5_twinOf 4 (some .int) :: zT) rm_X5_twinOf (zPp dC dI cI cJ cS (cl_X5 cI cJ a u) [.ref (a 0), .int x1]) (vp_Si Q) 0 0 (fun _ => False) := by
  obtain ⟨I8, h8, hf⟩ := st_X5_twinOf hf
  exact L_X5_twinOf l dC dI cI cJ cS a u x1 Q I8 h8 hf
