/-! the invariant of a State, part by part -/
def gN (g : zSegs) (s : Nat) : Nat := (g.2.1 s).toNatClampNeg
def gO (g : zSegs) : Nat := g.2.2.2.2.toNatClampNeg
/-- where the j-th record of a segment begins -/
def gB (g : zSegs) (s : Nat) : Nat → Nat
  | 0 => 0
  | j + 1 => gB g s j + (4 + lnN (g.1 (50 * s + j)))
def inSeg (g : zSegs) (c : Int64) : Prop := ∃ s j : Nat, s < 12 ∧ j < gN g s ∧ g.1 (50 * s + j) = c
def RecOk (L s b : Nat) (c : Int64) : Prop := cSeg c = nI s ∧ cBeg c = nI b ∧ cNum c = nI (cnN c) ∧ 1 ≤ cnN c ∧ cnN c ≤ L ∧ lnN c ≤ 40
def SegOk (ρ L : Nat) (g : zSegs) : Prop :=
  (g.2.2.2.2 = nI (gO g) ∧ gO g < 12) ∧
  (∀ s, s < 12 → g.2.1 s = nI (gN g s) ∧ gN g s ≤ 50) ∧
  (∀ s, s < 12 → (g.2.2.2.1 s = 1 ↔ s = gO g) ∧ (g.2.2.2.1 s = 0 ∨ g.2.2.2.1 s = 1 ∨ g.2.2.2.1 s = 2) ∧ (g.2.2.2.1 s = 0 → gN g s = 0)) ∧
  (∀ s, s < 12 → g.2.2.1 s = nI (gB g s (gN g s)) ∧ gB g s (gN g s) ≤ ρ) ∧
  (∀ s, s < 12 → ∀ j, j < gN g s → RecOk L s (gB g s j) (g.1 (50 * s + j))) ∧
  (∀ s, s < 12 → ∀ i j, i < j → j < gN g s → cnN (g.1 (50 * s + i)) < cnN (g.1 (50 * s + j)))
def tR (t : zTree) : Nat := t.2.2.toNatClampNeg
/-- an entry of a key, its number above lo and at most hi -/
def EntOk (lo hi k : Nat) (c : Int64) : Prop := cKey c = nI k ∧ cNum c = nI (cnN c) ∧ lo < cnN c ∧ cnN c ≤ hi ∧ lnN c ≤ 40
def TreeOk (M L : Nat) (t : zTree) : Prop :=
  (t.2.2 = nI (tR t) ∧ tR t < 6) ∧ (∀ k, k < 64 → t.1 k = 0 ∨ EntOk M L k (t.1 k)) ∧
  (∀ l k, 1 ≤ l → l ≤ tR t → k < 64 → t.1 (64 * l + k) = 0 ∨ EntOk 0 M k (t.1 (64 * l + k))) ∧
  (∀ l, l ≤ tR t → t.2.1 l = nI (fa_cnt (fun k => zHas t.1 l k) 64))
def tCur (t : zTree) (k : Nat) : Int64 := zCur t.1 k (tR t + 1)
def tLiv (b : Int32) (t : zTree) (c : Int64) : Bool := decide (b < cLen c ∧ tCur t (kN c) = c)
/-- entries of the table, and current ones of the runs that are long, have their records -/
def Link (b : Int32) (g : zSegs) (t : zTree) : Prop :=
  (∀ k, k < 64 → ¬ t.1 k = 0 → inSeg g (t.1 k)) ∧ (∀ k, k < 64 → b < cLen (runCur t.1 (tR t) k) → inSeg g (runCur t.1 (tR t) k))
def wN (c : zColl) : Nat := c.2.2.1.toNatClampNeg
def xN (c : zColl) : Nat := c.2.2.2.toNatClampNeg
def ColOk (g : zSegs) (live : Int64 → Prop) (c : zColl) : Prop :=
  (c.2.2.1 = nI (wN c) ∧ wN c ≤ 50) ∧ (c.2.2.2 = nI (xN c) ∧ xN c ≤ wN c) ∧
  (c.2.1 = -1 ∨ ∃ s : Nat, s < 12 ∧ c.2.1 = nI s ∧ g.2.2.2.1 s = 2 ∧ (∀ i, i < wN c → ∃ j, j < gN g s ∧ c.1 i = g.1 (50 * s + j)) ∧ (∀ j, j < gN g s → live (g.1 (50 * s + j)) → ∃ i, xN c ≤ i ∧ i < wN c ∧ c.1 i = g.1 (50 * s + j)))
def dN (d : zDiary) : Nat := d.2.toNatClampNeg
def DiaOk (d : zDiary) : Prop := d.2 = nI (dN d) ∧ dN d ≤ 30
def TotOk (B : Nat) (t : zTotals) : Prop := ∃ w d : Nat, t.1 = nI w ∧ t.2.1 = nI d ∧ w ≤ 44 * B ∧ d ≤ 44 * B
/-- the invariant: ROOM, SHORT, MOST, RUNS, the latest number, SECURED, MARK, and a bound of what was appended -/
def zPr (R ρ β mo lm L S M B : Nat) (u : zState) : Prop :=
  (u.1.1 = nI ρ ∧ 50 ≤ ρ ∧ ρ ≤ 200) ∧ (u.1.2.1 = nI β ∧ β ≤ 40) ∧ (u.1.2.2.1 = nI mo ∧ 2 ≤ mo ∧ mo ≤ 16) ∧ (u.1.2.2.2 = nI lm ∧ 1 ≤ lm ∧ lm ≤ 4) ∧
  (u.2.2.2.2.2.2.1 = nI L ∧ u.2.2.2.2.2.2.2.1 = nI S ∧ u.2.2.2.2.2.2.2.2 = nI M ∧ M ≤ S ∧ S ≤ L ∧ L ≤ B ∧ B ≤ 400000) ∧
  SegOk ρ L u.2.2.1 ∧ TreeOk M L u.2.2.2.1 ∧ tR u.2.2.2.1 ≤ R ∧ Link u.1.2.1 u.2.2.1 u.2.2.2.1 ∧
  ColOk u.2.2.1 (fun c => tLiv u.1.2.1 u.2.2.2.1 c = true) u.2.2.2.2.1 ∧ DiaOk u.2.2.2.2.2.1 ∧ TotOk B u.2.1
abbrev zP (ρ β mo lm L S M B : Nat) (u : zState) : Prop := zPr lm ρ β mo lm L S M B u
theorem tR_of {t : zTree} {r : Nat} (h : t.2.2 = nI r) (hr : r < 6) : tR t = r := by
  unfold tR
  rw [h, nI_clamp (by omega)]
theorem zPr.ok {R ρ β mo lm L S M B : Nat} {u : zState} (h : zPr R ρ β mo lm L S M B u) : zOk u := by
  obtain ⟨-, -, -, -, -, hg, ht, -⟩ := h
  exact ⟨hg.1, ht.1, hg.2.1⟩
/-- shifting: the table is the latest run -/
theorem shift_r (t : zTree) (r : Nat) (hr : r < 5) : tR (zShift t r) = r + 1 := tR_of rfl (by omega)
theorem TreeOk.shift {M L : Nat} {t : zTree} (h : TreeOk M L t) (hr : tR t < 5) (hM : M ≤ L) : TreeOk L L (zShift t (tR t)) := by
  obtain ⟨h1, h2, h3, h4⟩ := h
  have e := shift_r t (tR t) hr
  refine ⟨⟨by rw [e]; rfl, by rw [e]; omega⟩, fun k hk => Or.inl ?_, fun l k hl1 hl2 hk => ?_, fun l hl => ?_⟩
  · have := shift_at t (r := tR t) (l := 0) hk (by omega)
    rw [if_pos rfl, show 64 * 0 + k = k by omega] at this
    exact this
  · rw [e] at hl2
    rw [shift_at t hk (by omega), if_neg (by omega)]
    by_cases hl : l = 1
    · subst hl
      rw [show 64 * (1 - 1) + k = k by omega]
      rcases h2 k hk with h | h
      · exact Or.inl h
      · exact Or.inr ⟨h.1, h.2.1, by have := h.2.2.1; omega, h.2.2.2.1, h.2.2.2.2⟩
    · rcases h3 (l - 1) k (by omega) (by omega) hk with h | h
      · exact Or.inl h
      · exact Or.inr ⟨h.1, h.2.1, h.2.2.1, by have := h.2.2.2.1; omega, h.2.2.2.2⟩
  · rw [e] at hl
    rw [shift_size t hl]
    by_cases h0 : l = 0
    · rw [if_pos h0]
      subst h0
      rw [show fa_cnt (fun k => zHas (zShift t (tR t)).1 0 k) 64 = 0 from ?_]
      · rfl
      · have : fa_cnt (fun k => zHas (zShift t (tR t)).1 0 k) 64 = fa_cnt (fun _ => false) 64 := fa_cnt_cong (fun k hk => by
          show decide (¬ (zShift t (tR t)).1 (64 * 0 + k) = 0) = false
          rw [shift_at t hk (by omega), if_pos rfl]; rfl)
        rw [this]; decide
    · rw [if_neg h0, h4 (l - 1) (by omega)]
      refine congrArg nI (fa_cnt_cong (fun k hk => ?_))
      show decide (¬ t.1 (64 * (l - 1) + k) = 0) = decide (¬ (zShift t (tR t)).1 (64 * l + k) = 0)
      rw [shift_at t hk (by omega), if_neg h0]
theorem shift_tab (t : zTree) {r k : Nat} (hk : k < 64) : (zShift t r).1 k = 0 := by
  have := shift_at t (r := r) (l := 0) hk (by omega)
  rw [if_pos rfl, show 64 * 0 + k = k by omega] at this
  exact this
theorem tCur_eq (t : zTree) (k : Nat) : tCur t k = if t.1 k = 0 then runCur t.1 (tR t) k else t.1 k := cur_split _ _ _
theorem tCur_shift (t : zTree) (hr : tR t < 5) {k : Nat} (hk : k < 64) : tCur (zShift t (tR t)) k = tCur t k := by
  rw [tCur_eq, shift_tab t hk, if_pos rfl, shift_r t _ hr, shift_cur t hk (tR t) (tR t) (Nat.le_refl _)]
  rfl
theorem Link.shift {b : Int32} {g : zSegs} {t : zTree} (h : Link b g t) (hr : tR t < 5) : Link b g (zShift t (tR t)) := by
  refine ⟨fun k hk hn => absurd (shift_tab t hk) hn, fun k hk hl => ?_⟩
  rw [shift_r t _ hr, shift_cur t hk (tR t) (tR t) (Nat.le_refl _), cur_split] at hl ⊢
  by_cases h0 : t.1 k = 0
  · rw [if_pos h0] at hl ⊢; exact h.2 k hk hl
  · rw [if_neg h0]; exact h.1 k hk h0
theorem tLiv_shift (b : Int32) (t : zTree) (hr : tR t < 5) (c : Int64) : tLiv b (zShift t (tR t)) c = tLiv b t c := by
  unfold tLiv
  rw [tCur_shift t hr (kN_lt c)]
/-- folding -/
theorem foldR_le (t : zTree) (r : Nat) : foldR t r ≤ 1 := by
  unfold foldR
  split
  · omega
  · split <;> omega
theorem fold_R (t : zTree) (r : Nat) : tR (zFold t r) = foldR t r := tR_of (fold_r t r) (by have := foldR_le t r; omega)
theorem foldR_pos {t : zTree} {r : Nat} (h : ¬ foldR t r = 0) : foldR t r = 1 ∧ ¬ r = 0 := by
  unfold foldR at h ⊢
  by_cases h0 : r = 0
  · rw [if_pos h0] at h; exact absurd rfl h
  · rw [if_neg h0] at h ⊢
    by_cases h1 : zLeft t.1 (r - 1) 64 = 0
    · rw [if_pos h1] at h; exact absurd rfl h
    · rw [if_neg h1]; exact ⟨rfl, h0⟩
theorem TreeOk.fold {M L : Nat} {t : zTree} (h : TreeOk M L t) : TreeOk M L (zFold t (tR t)) := by
  obtain ⟨h1, h2, h3, h4⟩ := h
  have e := fold_R t (tR t)
  have hle := foldR_le t (tR t)
  refine ⟨⟨by rw [e]; exact fold_r t _, by rw [e]; omega⟩, fun k hk => ?_, fun l k hl1 hl2 hk => ?_, fun l hl => ?_⟩
  · rw [fold_lo t _ hk]; exact h2 k hk
  · rw [e] at hl2
    obtain ⟨q1, q2⟩ := foldR_pos (t := t) (r := tR t) (by omega)
    have hl : l = 1 := by omega
    subst hl
    rw [show 64 * 1 + k = 64 + k by omega, fold_1 t q2 hk]
    unfold zKp
    by_cases hd : runCur t.1 (tR t) k &&& 16128 = 0
    · rw [if_pos hd]; exact Or.inl rfl
    · rw [if_neg hd]
      rcases runCur_in t.1 k (tR t) with h0 | ⟨l, a1, a2, a3⟩
      · exact Or.inl h0
      · rw [a3]; exact h3 l k a1 a2 hk
  · rw [e] at hl
    by_cases hl0 : l = 0
    · subst hl0
      have s0 : (zFold t (tR t)).2.1 0 = t.2.1 0 := by
        unfold zFold
        by_cases h0 : tR t = 0
        · rw [if_pos h0]; rfl
        · rw [if_neg h0]; rfl
      rw [s0, h4 0 (by omega)]
      refine congrArg nI (fa_cnt_cong (fun k hk => ?_))
      show decide (¬ t.1 (64 * 0 + k) = 0) = decide (¬ (zFold t (tR t)).1 (64 * 0 + k) = 0)
      rw [show 64 * 0 + k = k by omega, fold_lo t _ hk]
    · obtain ⟨q1, q2⟩ := foldR_pos (t := t) (r := tR t) (by omega)
      have hl : l = 1 := by omega
      subst hl
      rw [fold_cnt t q2]
      unfold zFold
      rw [if_neg q2]
      rfl
theorem tCur_fold (t : zTree) {k : Nat} (hk : k < 64) : tCur (zFold t (tR t)) k = if t.1 k = 0 then zKp (runCur t.1 (tR t) k) else t.1 k := by
  rw [tCur_eq, fold_lo t _ hk, fold_R, fold_cur t hk]
theorem Link.fold {b : Int32} {g : zSegs} {t : zTree} (h : Link b g t) (hb : 0 ≤ b) : Link b g (zFold t (tR t)) := by
  refine ⟨fun k hk hn => ?_, fun k hk hl => ?_⟩
  · rw [fold_lo t _ hk] at hn ⊢; exact h.1 k hk hn
  · rw [fold_R, fold_cur t hk] at hl ⊢
    have e : zKp (runCur t.1 (tR t) k) = runCur t.1 (tR t) k := zKp_len hb hl
    rw [e] at hl ⊢
    exact h.2 k hk hl
theorem zKp_id {b : Int32} {c : Int64} (hb : 0 ≤ b) (h : b < cLen c) : zKp c = c := by
  unfold zKp
  rw [if_neg]
  intro q
  rw [(cDrop_iff c).mp q] at h
  exact (fa_of_lt h).2.1 hb
theorem tLiv_fold {b : Int32} (hb : 0 ≤ b) (t : zTree) (c : Int64) : tLiv b (zFold t (tR t)) c = tLiv b t c := by
  unfold tLiv
  rw [tCur_fold t (kN_lt c), tCur_eq]
  by_cases hl : b < cLen c
  · by_cases h0 : t.1 (kN c) = 0
    · rw [if_pos h0, if_pos h0]
      refine decide_eq_decide.mpr ?_
      constructor
      · rintro ⟨-, h⟩
        refine ⟨hl, ?_⟩
        have := zKp_len hb (c := runCur t.1 (tR t) (kN c)) (by rw [h]; exact hl)
        rw [← this]; exact h
      · rintro ⟨-, h⟩
        exact ⟨hl, by rw [h]; exact zKp_id hb hl⟩
    · rw [if_neg h0, if_neg h0]
  · rw [decide_eq_false (fun q => hl q.1), decide_eq_false (fun q => hl q.1)]
theorem ColOk.of {g : zSegs} {p q : Int64 → Prop} {c : zColl} (h : ColOk g p c) (hpq : ∀ x, q x → p x) : ColOk g q c := by
  obtain ⟨h1, h2, h3⟩ := h
  refine ⟨h1, h2, ?_⟩
  rcases h3 with h3 | ⟨s, a1, a2, a3, a4, a5⟩
  · exact Or.inl h3
  · exact Or.inr ⟨s, a1, a2, a3, a4, fun j hj hl => a5 j hj (hpq _ hl)⟩
/-- a row of the log -/
def zTell (u : zDiary) (d : Nat) (a b c : Int32) : zDiary := if d < 30 then (upd (upd (upd u.1 (3 * d) a) (3 * d + 1) b) (3 * d + 2) c, nI (d + 1)) else (upd (upd (upd (va_cpy u.1 u.1 3 0 87) 87 a) 88 b) 89 c, nI 30)
theorem DiaOk.tell {u : zDiary} (h : DiaOk u) (a b c : Int32) : DiaOk (zTell u (dN u) a b c) := by
  obtain ⟨h1, h2⟩ := h
  unfold zTell
  by_cases hd : dN u < 30
  · rw [if_pos hd]
    have e : dN (upd (upd (upd u.1 (3 * dN u) a) (3 * dN u + 1) b) (3 * dN u + 2) c, nI (dN u + 1)) = dN u + 1 := nI_clamp (by omega)
    exact ⟨by rw [e], by rw [e]; omega⟩
  · rw [if_neg hd]
    have e : dN (upd (upd (upd (va_cpy u.1 u.1 3 0 87) 87 a) 88 b) 89 c, nI 30) = 30 := nI_clamp (by decide)
    exact ⟨by rw [e], by rw [e]; omega⟩

def t_X2_tellOf (u : zDiary) (x1 : Int32) (x2 : Int32) (x3 : Int32) (Q : zDiary → Prop) : Prop := ((u.2 < (30 : Int32) → ∀ x_2 : Int32, x_2 = (u.2 * (3 : Int32)) → ((x_2 < 0 → Q u) ∧ (¬ x_2 < 0 → (((90 : Int32) ≤ (x_2 + (2 : Int32)) → Q u) ∧ (¬ (90 : Int32) ≤ (x_2 + (2 : Int32)) → vp_in x_2 90 ∧ ∀ f_5 : Nat → Int32, f_5 = upd u.1 x_2.toNatClampNeg x1 → vp_in (x_2 + (1 : Int32)) 90 ∧ ∀ f_6 : Nat → Int32, f_6 = upd f_5 (x_2 + (1 : Int32)).toNatClampNeg x2 → vp_in (x_2 + (2 : Int32)) 90 ∧ ∀ f_7 : Nat → Int32, f_7 = upd f_6 (x_2 + (2 : Int32)).toNatClampNeg x3 → ∀ x_8 : Int32, x_8 = (u.2 + (1 : Int32)) → Q (f_7, x_8)))))) ∧ (¬ u.2 < (30 : Int32) → (¬ (3 : Int32) < 0 ∧ ¬ (0 : Int32) < 0 ∧ ¬ ((90 : Int32) - (3 : Int32)) < 0 ∧ (3 : Int32).toNatClampNeg + ((90 : Int32) - (3 : Int32)).toNatClampNeg ≤ 90 ∧ (0 : Int32).toNatClampNeg + ((90 : Int32) - (3 : Int32)).toNatClampNeg ≤ 90) ∧ ∃ f_9 : Nat → Int32, (∀ k : Nat, k < 90 → f_9 k = va_cpy u.1 u.1 (3 : Int32).toNatClampNeg (0 : Int32).toNatClampNeg ((90 : Int32) - (3 : Int32)).toNatClampNeg k) ∧ ∀ x_10 : Int32, x_10 = ((29 : Int32) * (3 : Int32)) → ((x_10 < 0 → Q (f_9, (29 : Int32))) ∧ (¬ x_10 < 0 → (((90 : Int32) ≤ (x_10 + (2 : Int32)) → Q (f_9, (29 : Int32))) ∧ (¬ (90 : Int32) ≤ (x_10 + (2 : Int32)) → vp_in x_10 90 ∧ ∀ f_13 : Nat → Int32, f_13 = upd f_9 x_10.toNatClampNeg x1 → vp_in (x_10 + (1 : Int32)) 90 ∧ ∀ f_14 : Nat → Int32, f_14 = upd f_13 (x_10 + (1 : Int32)).toNatClampNeg x2 → vp_in (x_10 + (2 : Int32)) 90 ∧ ∀ f_15 : Nat → Int32, f_15 = upd f_14 (x_10 + (2 : Int32)).toNatClampNeg x3 → ∀ x_16 : Int32, x_16 = ((29 : Int32) + (1 : Int32)) → Q (f_15, x_16)))))))
theorem zc_X2_tellOf : zCalV RX2 yX2_tellOf cX2_tellOf 5 none 3 := ⟨q_im_X2_tellOf, q_se_X2_tellOf, q_in_X2, q_cd_X2_tellOf, ⟨by decide, by decide, by decide +kernel⟩, rfl⟩
abbrev rm_X2_tellOf : Room := { frames := 1, cells := 0, slots := 0, locals := 48 }
set_option maxHeartbeats 4000000 in
set_option maxRecDepth 100000 in
theorem L_X2_tellOf (l : Launch) (dC : Nat → ClassId) (dI : Nat → Nat → Nat) (cI cJ cS : ClassId) (a : Nat → Nat) (u : zDiary) (x1 : Int32) (x2 : Int32) (x3 : Int32) (Q : zDiary → Prop) (hf : t_X2_tellOf u x1 x2 x3 Q) : ∀ sz : Nat, Met l yX2_tellOf (Cond.code yX2_tellOf cX2_tellOf 5 none :: zT) rm_X2_tellOf (zPm dC dI cI cJ cS (cl_X2 cI cJ a u) [.ref (a 0), .int x1, .int x2, .int x3] sz) (va_Qv Q (zB dC dI cI cJ cS (va_A (cl_X2 cI cJ a u) sz) (fun z => cl_X2 cI cJ a z)) (va_A (cl_X2 cI cJ a u) sz)) 0 0 (va_A (cl_X2 cI cJ a u) sz) := by
  intro sz
  refine z_enterM (Qc := fun A => va_Qv Q (zB dC dI cI cJ cS A (fun z => cl_X2 cI cJ a z)) A) (cc := cX2_tellOf) (maxL := 5) (ret := none) (by decide) (Nat.le_of_ble_eq_true rfl) ?_
  intro p e s m below meth c ls A X hP hD hS hA hl
  obtain ⟨⟨hx, hb, hml, hown, hts⟩, hr, hlk, hK⟩ := id X
  have hl : lv_has ls 5 [(0, .ref (a 0)), (1, .int x1), (2, .int x2), (3, .int x3)] := hl
  unfold t_X2_tellOf at hf
  refine lv_aload_n hx hb dX2_tellOf_0 rfl (lv_at hl 0 rfl) ?_
  refine va_get (D := (dC, dI)) (ci := 1) (v := .int u.2) (C := RX2) (T := TX2) (N := 2) hx hb hts inX2 hown hK hP 0 rfl rfl 1 (by decide) (hts _ q_fl_X2_21) (fun _ h9 => h9) rfl dX2_tellOf_1 ?_
  refine lv_bipush (v := 30) hx hb dX2_tellOf_4 (by decide) ?_
  refine lv_icmp_lt (tgt := 35) hx hb dX2_tellOf_6 (by decide) (fun c_1 => ?_) (fun c_1 => ?_)
  · have hf := hf.1 c_1
    refine lv_aload_n hx hb dX2_tellOf_35 rfl (lv_at hl 0 rfl) ?_
    refine va_get (D := (dC, dI)) (ci := 1) (v := .int u.2) (C := RX2) (T := TX2) (N := 2) hx hb hts inX2 hown hK hP 0 rfl rfl 1 (by decide) (hts _ q_fl_X2_21) (fun _ h9 => h9) rfl dX2_tellOf_36 ?_
    refine lv_iconst (v := 3) hx hb dX2_tellOf_39 (by decide) ?_
    refine lv_imul hx hb dX2_tellOf_40 ?_
    refine lv_topi (fun x_2 ex_2 => ?_)
    have hf := hf x_2 ex_2
    refine lv_istore (lv' := [(4, .int x_2), (0, .ref (a 0)), (1, .int x1), (2, .int x2), (3, .int x3)]) hx hb dX2_tellOf_41 hl (by decide) rfl (fun ls hl => ?_)
    refine lv_iload hx hb dX2_tellOf_43 (lv_at hl 0 rfl) ?_
    refine lv_if_lt (tgt := 98) hx hb dX2_tellOf_45 (by decide) (fun c_3 => ?_) (fun c_3 => ?_)
    · have hf := hf.1 c_3
      exact z_retMv (Wf := (fun z => cl_X2 cI cJ a z)) (u := u) X hf hP hD hS dX2_tellOf_98
    · have hf := hf.2 c_3
      refine lv_iload hx hb dX2_tellOf_48 (lv_at hl 0 rfl) ?_
      refine lv_iconst (v := 2) hx hb dX2_tellOf_50 (by decide) ?_
      refine lv_iadd hx hb dX2_tellOf_51 ?_
      refine lv_aload_n hx hb dX2_tellOf_52 rfl (lv_at hl 1 rfl) ?_
      refine va_get (D := (dC, dI)) (ci := 1) (v := .ref (a 1)) (C := RX2) (T := TX2) (N := 2) hx hb hts inX2 hown hK hP 0 rfl rfl 0 (by decide) (hts _ q_fl_X2_11) (fun _ h9 => h9) rfl dX2_tellOf_53 ?_
      refine va_alen (v := 90) hx hb hK hP 1 0 rfl (ty := .int) rfl rfl dX2_tellOf_56 ?_
      refine lv_icmp_ge (tgt := 98) hx hb dX2_tellOf_57 (by decide) (fun c_4 => ?_) (fun c_4 => ?_)
      · have hf := hf.1 c_4
        exact z_retMv (Wf := (fun z => cl_X2 cI cJ a z)) (u := u) X hf hP hD hS dX2_tellOf_98
      · have hf := hf.2 c_4
        refine lv_aload_n hx hb dX2_tellOf_60 rfl (lv_at hl 1 rfl) ?_
        refine va_get (D := (dC, dI)) (ci := 1) (v := .ref (a 1)) (C := RX2) (T := TX2) (N := 2) hx hb hts inX2 hown hK hP 0 rfl rfl 0 (by decide) (hts _ q_fl_X2_11) (fun _ h9 => h9) rfl dX2_tellOf_61 ?_
        refine lv_iload hx hb dX2_tellOf_64 (lv_at hl 0 rfl) ?_
        refine lv_iload_n hx hb dX2_tellOf_66 rfl (lv_at hl 2 rfl) ?_
        obtain ⟨hg, hf⟩ := hf
        refine z_iast (Wn := fun f_5 => cl_X2 cI cJ a (f_5, u.2)) X hP hD hS 1 0 rfl rfl hg (fun _ => rfl) dX2_tellOf_67 (fun f_5 H locs ef_5 hP hD hS => ?_)
        have hf := hf f_5 ef_5
        refine lv_aload_n hx hb dX2_tellOf_68 rfl (lv_at hl 1 rfl) ?_
        refine va_get (D := (dC, dI)) (ci := 1) (v := .ref (a 1)) (C := RX2) (T := TX2) (N := 2) hx hb hts inX2 hown hK hP 0 rfl rfl 0 (by decide) (hts _ q_fl_X2_11) (fun _ h9 => h9) rfl dX2_tellOf_69 ?_
        refine lv_iload hx hb dX2_tellOf_72 (lv_at hl 0 rfl) ?_
        refine lv_iconst (v := 1) hx hb dX2_tellOf_74 (by decide) ?_
        refine lv_iadd hx hb dX2_tellOf_75 ?_
        refine lv_iload_n hx hb dX2_tellOf_76 rfl (lv_at hl 3 rfl) ?_
        obtain ⟨hg, hf⟩ := hf
        refine z_iast (Wn := fun f_6 => cl_X2 cI cJ a (f_6, u.2)) X hP hD hS 1 0 rfl rfl hg (fun _ => rfl) dX2_tellOf_77 (fun f_6 H locs ef_6 hP hD hS => ?_)
        have hf := hf f_6 ef_6
        refine lv_aload_n hx hb dX2_tellOf_78 rfl (lv_at hl 1 rfl) ?_
        refine va_get (D := (dC, dI)) (ci := 1) (v := .ref (a 1)) (C := RX2) (T := TX2) (N := 2) hx hb hts inX2 hown hK hP 0 rfl rfl 0 (by decide) (hts _ q_fl_X2_11) (fun _ h9 => h9) rfl dX2_tellOf_79 ?_
        refine lv_iload hx hb dX2_tellOf_82 (lv_at hl 0 rfl) ?_
        refine lv_iconst (v := 2) hx hb dX2_tellOf_84 (by decide) ?_
        refine lv_iadd hx hb dX2_tellOf_85 ?_
        refine lv_iload_n hx hb dX2_tellOf_86 rfl (lv_at hl 4 rfl) ?_
        obtain ⟨hg, hf⟩ := hf
        refine z_iast (Wn := fun f_7 => cl_X2 cI cJ a (f_7, u.2)) X hP hD hS 1 0 rfl rfl hg (fun _ => rfl) dX2_tellOf_87 (fun f_7 H locs ef_7 hP hD hS => ?_)
        have hf := hf f_7 ef_7
        refine lv_aload_n hx hb dX2_tellOf_88 rfl (lv_at hl 1 rfl) ?_
        refine lv_dup hx hb dX2_tellOf_89 rfl ?_
        refine va_get (D := (dC, dI)) (ci := 1) (v := .int u.2) (C := RX2) (T := TX2) (N := 2) hx hb hts inX2 hown hK hP 0 rfl rfl 1 (by decide) (hts _ q_fl_X2_21) (fun _ h9 => h9) rfl dX2_tellOf_90 ?_
        refine lv_iconst (v := 1) hx hb dX2_tellOf_93 (by decide) ?_
        refine lv_iadd hx hb dX2_tellOf_94 ?_
        refine lv_topi (fun x_8 ex_8 => ?_)
        have hf := hf x_8 ex_8
        refine z_put (w' := cl_X2 cI cJ a (f_7, x_8)) (ci := 1) (v := .int x_8) (ty := .int) (Cn := RX2) (T := TX2) (N := 2) X inX2 tyX2 tyX2_ok nmX2 hP hD hS 0 rfl rfl 1 (by decide) (hts _ q_fl_X2_21) (fun _ h9 => h9) rfl (tyX2_ok 1 (by decide)) rfl rfl (Nat.le_of_ble_eq_true rfl) rfl dX2_tellOf_95 (fun H locs hP hD hS => ?_)
        exact z_retMv (Wf := (fun z => cl_X2 cI cJ a z)) (u := (f_7, x_8)) X hf hP hD hS dX2_tellOf_98
  · have hf := hf.2 c_1
    refine lv_aload_n hx hb dX2_tellOf_9 rfl (lv_at hl 0 rfl) ?_
    refine va_get (D := (dC, dI)) (ci := 1) (v := .ref (a 1)) (C := RX2) (T := TX2) (N := 2) hx hb hts inX2 hown hK hP 0 rfl rfl 0 (by decide) (hts _ q_fl_X2_11) (fun _ h9 => h9) rfl dX2_tellOf_10 ?_
    refine lv_iconst (v := 3) hx hb dX2_tellOf_13 (by decide) ?_
    refine lv_aload_n hx hb dX2_tellOf_14 rfl (lv_at hl 0 rfl) ?_
    refine va_get (D := (dC, dI)) (ci := 1) (v := .ref (a 1)) (C := RX2) (T := TX2) (N := 2) hx hb hts inX2 hown hK hP 0 rfl rfl 0 (by decide) (hts _ q_fl_X2_11) (fun _ h9 => h9) rfl dX2_tellOf_15 ?_
    refine lv_iconst (v := 0) hx hb dX2_tellOf_18 (by decide) ?_
    refine lv_aload_n hx hb dX2_tellOf_19 rfl (lv_at hl 0 rfl) ?_
    refine va_get (D := (dC, dI)) (ci := 1) (v := .ref (a 1)) (C := RX2) (T := TX2) (N := 2) hx hb hts inX2 hown hK hP 0 rfl rfl 0 (by decide) (hts _ q_fl_X2_11) (fun _ h9 => h9) rfl dX2_tellOf_20 ?_
    refine va_alen (v := 90) hx hb hK hP 1 0 rfl (ty := .int) rfl rfl dX2_tellOf_23 ?_
    refine lv_iconst (v := 3) hx hb dX2_tellOf_24 (by decide) ?_
    refine lv_isub hx hb dX2_tellOf_25 ?_
    obtain ⟨⟨g1, g2, g3, g4, g5⟩, f_9, ef_9, hf⟩ := hf
    refine z_copyi (Wn := fun f_9 => cl_X2 cI cJ a (f_9, u.2)) (idx := 15) X (hts _ q_ml_X2_15) (hts _ q_na_copy) (hts _ q_st_copy) (hts _ q_in_System) hl.1 hP hD hS 1 1 rfl rfl g1 g2 g3 g4 g5 (Nat.le_of_ble_eq_true rfl) (Nat.le_of_ble_eq_true rfl) (fun _ => rfl) f_9 ef_9 dX2_tellOf_26 (fun H locs hP hD hS => ?_)
    refine lv_aload_n hx hb dX2_tellOf_29 rfl (lv_at hl 0 rfl) ?_
    refine lv_bipush (v := 29) hx hb dX2_tellOf_30 (by decide) ?_
    refine z_put (w' := cl_X2 cI cJ a (f_9, (29 : Int32))) (ci := 1) (v := .int (29 : Int32)) (ty := .int) (Cn := RX2) (T := TX2) (N := 2) X inX2 tyX2 tyX2_ok nmX2 hP hD hS 0 rfl rfl 1 (by decide) (hts _ q_fl_X2_21) (fun _ h9 => h9) rfl (tyX2_ok 1 (by decide)) rfl rfl (Nat.le_of_ble_eq_true rfl) rfl dX2_tellOf_32 (fun H locs hP hD hS => ?_)
    refine lv_aload_n hx hb dX2_tellOf_35 rfl (lv_at hl 0 rfl) ?_
    refine va_get (D := (dC, dI)) (ci := 1) (v := .int (29 : Int32)) (C := RX2) (T := TX2) (N := 2) hx hb hts inX2 hown hK hP 0 rfl rfl 1 (by decide) (hts _ q_fl_X2_21) (fun _ h9 => h9) rfl dX2_tellOf_36 ?_
    refine lv_iconst (v := 3) hx hb dX2_tellOf_39 (by decide) ?_
    refine lv_imul hx hb dX2_tellOf_40 ?_
    refine lv_topi (fun x_10 ex_10 => ?_)
    have hf := hf x_10 ex_10
    refine lv_istore (lv' := [(4, .int x_10), (0, .ref (a 0)), (1, .int x1), (2, .int x2), (3, .int x3)]) hx hb dX2_tellOf_41 hl (by decide) rfl (fun ls hl => ?_)
    refine lv_iload hx hb dX2_tellOf_43 (lv_at hl 0 rfl) ?_
    refine lv_if_lt (tgt := 98) hx hb dX2_tellOf_45 (by decide) (fun c_11 => ?_) (fun c_11 => ?_)
    · have hf := hf.1 c_11
      exact z_retMv (Wf := (fun z => cl_X2 cI cJ a z)) (u := (f_9, (29 : Int32))) X hf hP hD hS dX2_tellOf_98
    · have hf := hf.2 c_11
      refine lv_iload hx hb dX2_tellOf_48 (lv_at hl 0 rfl) ?_
      refine lv_iconst (v := 2) hx hb dX2_tellOf_50 (by decide) ?_
      refine lv_iadd hx hb dX2_tellOf_51 ?_
      refine lv_aload_n hx hb dX2_tellOf_52 rfl (lv_at hl 1 rfl) ?_
      refine va_get (D := (dC, dI)) (ci := 1) (v := .ref (a 1)) (C := RX2) (T := TX2) (N := 2) hx hb hts inX2 hown hK hP 0 rfl rfl 0 (by decide) (hts _ q_fl_X2_11) (fun _ h9 => h9) rfl dX2_tellOf_53 ?_
      refine va_alen (v := 90) hx hb hK hP 1 0 rfl (ty := .int) rfl rfl dX2_tellOf_56 ?_
      refine lv_icmp_ge (tgt := 98) hx hb dX2_tellOf_57 (by decide) (fun c_12 => ?_) (fun c_12 => ?_)
      · have hf := hf.1 c_12
        exact z_retMv (Wf := (fun z => cl_X2 cI cJ a z)) (u := (f_9, (29 : Int32))) X hf hP hD hS dX2_tellOf_98
      · have hf := hf.2 c_12
        refine lv_aload_n hx hb dX2_tellOf_60 rfl (lv_at hl 1 rfl) ?_
        refine va_get (D := (dC, dI)) (ci := 1) (v := .ref (a 1)) (C := RX2) (T := TX2) (N := 2) hx hb hts inX2 hown hK hP 0 rfl rfl 0 (by decide) (hts _ q_fl_X2_11) (fun _ h9 => h9) rfl dX2_tellOf_61 ?_
        refine lv_iload hx hb dX2_tellOf_64 (lv_at hl 0 rfl) ?_
        refine lv_iload_n hx hb dX2_tellOf_66 rfl (lv_at hl 2 rfl) ?_
        obtain ⟨hg, hf⟩ := hf
        refine z_iast (Wn := fun f_13 => cl_X2 cI cJ a (f_13, (29 : Int32))) X hP hD hS 1 0 rfl rfl hg (fun _ => rfl) dX2_tellOf_67 (fun f_13 H locs ef_13 hP hD hS => ?_)
        have hf := hf f_13 ef_13
        refine lv_aload_n hx hb dX2_tellOf_68 rfl (lv_at hl 1 rfl) ?_
        refine va_get (D := (dC, dI)) (ci := 1) (v := .ref (a 1)) (C := RX2) (T := TX2) (N := 2) hx hb hts inX2 hown hK hP 0 rfl rfl 0 (by decide) (hts _ q_fl_X2_11) (fun _ h9 => h9) rfl dX2_tellOf_69 ?_
        refine lv_iload hx hb dX2_tellOf_72 (lv_at hl 0 rfl) ?_
        refine lv_iconst (v := 1) hx hb dX2_tellOf_74 (by decide) ?_
        refine lv_iadd hx hb dX2_tellOf_75 ?_
        refine lv_iload_n hx hb dX2_tellOf_76 rfl (lv_at hl 3 rfl) ?_
        obtain ⟨hg, hf⟩ := hf
        refine z_iast (Wn := fun f_14 => cl_X2 cI cJ a (f_14, (29 : Int32))) X hP hD hS 1 0 rfl rfl hg (fun _ => rfl) dX2_tellOf_77 (fun f_14 H locs ef_14 hP hD hS => ?_)
        have hf := hf f_14 ef_14
        refine lv_aload_n hx hb dX2_tellOf_78 rfl (lv_at hl 1 rfl) ?_
        refine va_get (D := (dC, dI)) (ci := 1) (v := .ref (a 1)) (C := RX2) (T := TX2) (N := 2) hx hb hts inX2 hown hK hP 0 rfl rfl 0 (by decide) (hts _ q_fl_X2_11) (fun _ h9 => h9) rfl dX2_tellOf_79 ?_
        refine lv_iload hx hb dX2_tellOf_82 (lv_at hl 0 rfl) ?_
        refine lv_iconst (v := 2) hx hb dX2_tellOf_84 (by decide) ?_
        refine lv_iadd hx hb dX2_tellOf_85 ?_
        refine lv_iload_n hx hb dX2_tellOf_86 rfl (lv_at hl 4 rfl) ?_
        obtain ⟨hg, hf⟩ := hf
        refine z_iast (Wn := fun f_15 => cl_X2 cI cJ a (f_15, (29 : Int32))) X hP hD hS 1 0 rfl rfl hg (fun _ => rfl) dX2_tellOf_87 (fun f_15 H locs ef_15 hP hD hS => ?_)
        have hf := hf f_15 ef_15
        refine lv_aload_n hx hb dX2_tellOf_88 rfl (lv_at hl 1 rfl) ?_
        refine lv_dup hx hb dX2_tellOf_89 rfl ?_
        refine va_get (D := (dC, dI)) (ci := 1) (v := .int (29 : Int32)) (C := RX2) (T := TX2) (N := 2) hx hb hts inX2 hown hK hP 0 rfl rfl 1 (by decide) (hts _ q_fl_X2_21) (fun _ h9 => h9) rfl dX2_tellOf_90 ?_
        refine lv_iconst (v := 1) hx hb dX2_tellOf_93 (by decide) ?_
        refine lv_iadd hx hb dX2_tellOf_94 ?_
        refine lv_topi (fun x_16 ex_16 => ?_)
        have hf := hf x_16 ex_16
        refine z_put (w' := cl_X2 cI cJ a (f_15, x_16)) (ci := 1) (v := .int x_16) (ty := .int) (Cn := RX2) (T := TX2) (N := 2) X inX2 tyX2 tyX2_ok nmX2 hP hD hS 0 rfl rfl 1 (by decide) (hts _ q_fl_X2_21) (fun _ h9 => h9) rfl (tyX2_ok 1 (by decide)) rfl rfl (Nat.le_of_ble_eq_true rfl) rfl dX2_tellOf_95 (fun H locs hP hD hS => ?_)
        exact z_retMv (Wf := (fun z => cl_X2 cI cJ a z)) (u := (f_15, x_16)) X hf hP hD hS dX2_tellOf_98
def s_X2_tellOf (u : zDiary) (x1 x2 x3 : Int32) (Q : zDiary → Prop) : Prop := DiaOk u ∧ Q (zTell u (dN u) x1 x2 x3)
theorem st_X2_tellOf {u : zDiary} {x1 x2 x3 : Int32} {Q : zDiary → Prop} (h : s_X2_tellOf u x1 x2 x3 Q) : t_X2_tellOf u x1 x2 x3 Q := by
  obtain ⟨⟨h1, h2⟩, h⟩ := h
  unfold zTell at h
  unfold t_X2_tellOf
  rw [h1]
  by_cases hd : dN u < 30
  · rw [if_pos hd] at h
    refine ⟨fun _ x e => ?_, fun c => absurd (lt30 hd) c⟩
    rw [n_lit3, n_mul] at e
    subst e
    rw [nI_1, show nI (dN u * 3) + 2 = nI (dN u * 3 + 2) from nI_add _ 2, nI_clamp (n := dN u * 3) (by omega), nI_clamp (n := dN u * 3 + 1) (by omega), nI_clamp (n := dN u * 3 + 2) (by omega), Nat.mul_comm (dN u) 3]
    refine ⟨fun c => absurd c (nI_pos (by omega)), fun _ => ⟨fun c => absurd c (nI_ge (b := 90) (by omega) (by decide)), fun _ => ⟨vp_in_nI (by omega) (by decide), fun f e => ⟨vp_in_nI (by omega) (by decide), fun f2 e2 => ⟨vp_in_nI (by omega) (by decide), fun f3 e3 x e4 => ?_⟩⟩⟩⟩⟩
    rw [e4, e3, e2, e, nI_1]; exact h
  · rw [if_neg hd] at h
    have hd : dN u = 30 := by omega
    rw [hd]
    refine ⟨fun c => absurd c (by decide), fun _ => ⟨by decide, va_cpy u.1 u.1 3 0 87, fun _ _ => rfl, fun x e2 => ?_⟩⟩
    subst e2
    refine ⟨fun c => absurd c (by decide), fun _ => ⟨fun c => absurd c (by decide), fun _ => ⟨vp_in_nI (n := 87) (by decide) (by decide), fun f1 e1 => ⟨vp_in_nI (n := 88) (by decide) (by decide), fun f2 e2 => ⟨vp_in_nI (n := 89) (by decide) (by decide), fun f3 e3 x e4 => ?_⟩⟩⟩⟩⟩
    rw [show ((29 : Int32) * 3).toNatClampNeg = 87 by decide] at e1
    rw [show ((29 : Int32) * 3 + 1).toNatClampNeg = 88 by decide] at e2
    rw [show ((29 : Int32) * 3 + 2).toNatClampNeg = 89 by decide] at e3
    rw [e4, e3, e2, e1]; exact h
theorem c_X2_tellOf (l : Launch) (dC : Nat → ClassId) (dI : Nat → Nat → Nat) (cI cJ cS : ClassId) (a : Nat → Nat) (u : zDiary) (x1 : Int32) (x2 : Int32) (x3 : Int32) (Q : zDiary → Prop) (hf : s_X2_tellOf u x1 x2 x3 Q) : ∀ sz : Nat, Met l yX2_tellOf (Cond.code yX2_tellOf cX2_tellOf 5 none :: zT) rm_X2_tellOf (zPm dC dI cI cJ cS (cl_X2 cI cJ a u) [.ref (a 0), .int x1, .int x2, .int x3] sz) (va_Qv Q (zB dC dI cI cJ cS (va_A (cl_X2 cI cJ a u) sz) (fun z => cl_X2 cI cJ a z)) (va_A (cl_X2 cI cJ a u) sz)) 0 0 (va_A (cl_X2 cI cJ a u) sz) := L_X2_tellOf l dC dI cI cJ cS a u x1 x2 x3 Q (st_X2_tellOf hf)
