/-! numbers of cards; the current card, level by level -/
def cnN (c : Int64) : Nat := (cNum c).toNatClampNeg
def lnN (c : Int64) : Nat := (cLen c).toNatClampNeg
theorem lnN_eq (c : Int64) : cLen c = nI (lnN c) ∧ lnN c < 64 := by
  obtain ⟨k, hk, e⟩ := cLen_lt c
  unfold lnN
  rw [e, nI_clamp (by omega)]; exact ⟨rfl, hk⟩
theorem zCur_0 (f : Nat → Int64) (k : Nat) : zCur f k 0 = 0 := if_neg (Nat.not_lt_zero _)
theorem zCur_s (f : Nat → Int64) (k n : Nat) : zCur f k (n + 1) = if zCur f k n = 0 then f (64 * n + k) else zCur f k n := by
  have hs : fa_first (fun l => zHas f l k) (n + 1) = if fa_first (fun l => zHas f l k) n < n then fa_first (fun l => zHas f l k) n else if zHas f n k then n else n + 1 := rfl
  by_cases h : fa_first (fun l => zHas f l k) n < n
  · have hp := fa_first_yes (fun l => zHas f l k) n h
    simp only [decide_eq_true_eq] at hp
    rw [if_pos h] at hs
    unfold zCur
    rw [hs, if_pos h, if_pos (show _ < n + 1 by omega), if_neg hp]
  · rw [if_neg h] at hs
    have e0 : zCur f k n = 0 := if_neg h
    rw [e0, if_pos rfl]
    unfold zCur
    by_cases h2 : f (64 * n + k) = 0
    · rw [if_neg (by simp [h2])] at hs
      rw [hs, if_neg (Nat.lt_irrefl _), h2]
    · rw [if_pos (by simp [h2])] at hs
      rw [hs, if_pos (Nat.lt_succ_self n)]
theorem zCur_1 (f : Nat → Int64) (k : Nat) : zCur f k 1 = f k := by
  rw [zCur_s, zCur_0, if_pos rfl, show 64 * 0 + k = k by omega]
/-- the current card among r runs -/
def runCur (f : Nat → Int64) (r k : Nat) : Int64 := if r = 0 then 0 else zMg f k (r - 1)
theorem runCur_s (f : Nat → Int64) (r k : Nat) : runCur f (r + 1) k = if runCur f r k = 0 then f (64 * (r + 1) + k) else runCur f r k := by
  unfold runCur
  rw [if_neg (by omega), show r + 1 - 1 = r by omega]
  by_cases h : r = 0
  · subst h; rw [if_pos rfl, if_pos rfl]; rfl
  · obtain ⟨q, rfl⟩ : ∃ q, r = q + 1 := ⟨r - 1, by omega⟩
    rw [if_neg h, show q + 1 - 1 = q by omega]; rfl
theorem cur_split (f : Nat → Int64) (r k : Nat) : zCur f k (r + 1) = if f k = 0 then runCur f r k else f k := by
  induction r with
  | zero =>
    rw [zCur_1]
    unfold runCur
    rw [if_pos rfl]
    by_cases h : f k = 0
    · rw [if_pos h, h]
    · rw [if_neg h]
  | succ r ih =>
    rw [zCur_s, ih, runCur_s]
    by_cases h : f k = 0
    · rw [if_pos h, if_pos h]
    · rw [if_neg h, if_neg h, if_neg h]
theorem zMg_c {f g : Nat → Int64} {k : Nat} : ∀ n, (∀ l, l ≤ n → f (64 * (l + 1) + k) = g (64 * (l + 1) + k)) → zMg f k n = zMg g k n
  | 0, h => by have := h 0 (by omega); simpa [zMg, Nat.add_comm] using this
  | n + 1, h => by
    show (if zMg f k n = 0 then f (64 * (n + 2) + k) else zMg f k n) = (if zMg g k n = 0 then g (64 * (n + 2) + k) else zMg g k n)
    rw [zMg_c n (fun l hl => h l (by omega)), h (n + 1) (by omega)]
theorem runCur_c {f g : Nat → Int64} {k r : Nat} (h : ∀ l, 1 ≤ l → l ≤ r → f (64 * l + k) = g (64 * l + k)) : runCur f r k = runCur g r k := by
  unfold runCur
  by_cases h0 : r = 0
  · rw [if_pos h0, if_pos h0]
  · rw [if_neg h0, if_neg h0, zMg_c (r - 1) (fun l hl => h (l + 1) (by omega) (by omega))]
/-- a current run card is a card of some run -/
theorem runCur_in (f : Nat → Int64) (k : Nat) : ∀ r, runCur f r k = 0 ∨ ∃ l, 1 ≤ l ∧ l ≤ r ∧ runCur f r k = f (64 * l + k)
  | 0 => Or.inl rfl
  | r + 1 => by
    rw [runCur_s]
    by_cases h : runCur f r k = 0
    · rw [if_pos h]; exact Or.inr ⟨r + 1, by omega, by omega, rfl⟩
    · rw [if_neg h]
      rcases runCur_in f k r with h2 | ⟨l, h1, h2, h3⟩
      · exact absurd h2 h
      · exact Or.inr ⟨l, h1, by omega, h3⟩
/-- the table has become the latest run -/
theorem shift_at (u : zTree) {r l k : Nat} (hk : k < 64) (hl : l ≤ r + 1) : (zShift u r).1 (64 * l + k) = if l = 0 then 0 else u.1 (64 * (l - 1) + k) := by
  unfold zShift zWipe va_cpy
  by_cases h : l = 0
  · rw [if_pos h]; dsimp only; rw [if_pos (by omega)]
  · rw [if_neg h]; dsimp only
    rw [if_neg (by omega), if_pos (by omega), show 0 + (64 * l + k - 64) = 64 * (l - 1) + k by omega]
theorem shift_cur (u : zTree) {k : Nat} (hk : k < 64) (R : Nat) : ∀ r, r ≤ R → runCur (zShift u R).1 (r + 1) k = zCur u.1 k (r + 1)
  | 0, _ => by
    rw [runCur_s, zCur_1]
    show (if (0 : Int64) = 0 then _ else _) = _
    rw [if_pos rfl, shift_at u hk (by omega), if_neg (by omega), show 64 * (0 + 1 - 1) + k = k by omega]
  | r + 1, h => by
    have e : (zShift u R).1 (64 * (r + 1 + 1) + k) = u.1 (64 * (r + 1) + k) := by
      rw [shift_at u hk (by omega), if_neg (by omega)]; rfl
    rw [runCur_s, shift_cur u hk R r (by omega), zCur_s u.1 k (r + 1), e]
theorem shift_size (u : zTree) {r l : Nat} (hl : l ≤ r + 1) : (zShift u r).2.1 l = if l = 0 then 0 else u.2.1 (l - 1) := by
  unfold zShift upd va_cpy
  by_cases h : l = 0
  · rw [if_pos h]; dsimp only; rw [if_pos h]
  · rw [if_neg h]; dsimp only
    rw [if_neg h, if_pos (by omega), show 0 + (l - 1) = l - 1 by omega]
/-- the runs merged into one -/
theorem zKp_len {b : Int32} {c : Int64} (hb : 0 ≤ b) (h : b < cLen (zKp c)) : zKp c = c := by
  unfold zKp at h ⊢
  by_cases hd : c &&& 16128 = 0
  · rw [if_pos hd, cLen_0] at h
    exact absurd h (fun q => (fa_of_lt q).2.1 hb)
  · rw [if_neg hd]
theorem fold_lo (u : zTree) (r : Nat) {k : Nat} (hk : k < 64) : (zFold u r).1 k = u.1 k := by
  unfold zFold
  by_cases h : r = 0
  · rw [if_pos h]
  · rw [if_neg h]
    show zMrd u.1 (r - 1) 64 k = u.1 k
    unfold zMrd zMrg
    rw [if_neg (by omega), if_neg (by omega), if_neg (by omega), if_neg (by omega)]
theorem fold_1 (u : zTree) {r k : Nat} (hr : ¬ r = 0) (hk : k < 64) : (zFold u r).1 (64 + k) = zKp (runCur u.1 r k) := by
  unfold zFold runCur
  rw [if_neg hr, if_neg hr]
  show zMrd u.1 (r - 1) 64 (64 + k) = _
  unfold zMrd
  rw [if_pos (by omega), show 64 + k - 64 = k by omega]
def foldR (u : zTree) (r : Nat) : Nat := if r = 0 then 0 else if zLeft u.1 (r - 1) 64 = 0 then 0 else 1
theorem fold_r (u : zTree) (r : Nat) : (zFold u r).2.2 = nI (foldR u r) := by
  unfold zFold foldR
  by_cases h : r = 0
  · rw [if_pos h, if_pos h]; rfl
  · rw [if_neg h, if_neg h]
    show (if _ then (0 : Int32) else 1) = _
    by_cases h2 : zLeft u.1 (r - 1) 64 = 0
    · rw [if_pos h2, if_pos h2]; rfl
    · rw [if_neg h2, if_neg h2]; rfl
theorem fa_cnt_0 {p : Nat → Bool} : ∀ {n : Nat}, fa_cnt p n = 0 → ∀ k, k < n → p k = false
  | 0, _, k, hk => absurd hk (Nat.not_lt_zero k)
  | n + 1, h, k, hk => by
    have h1 : fa_cnt p n + (if p n then 1 else 0) = 0 := h
    have h2 : fa_cnt p n = 0 := by omega
    by_cases hn : k = n
    · subst hn
      cases hp : p k with
      | false => rfl
      | true => rw [if_pos hp] at h1; omega
    · exact fa_cnt_0 h2 k (by omega)
theorem fold_cur (u : zTree) {r k : Nat} (hk : k < 64) : runCur (zFold u r).1 (foldR u r) k = zKp (runCur u.1 r k) := by
  unfold foldR
  by_cases h : r = 0
  · subst h
    rw [if_pos rfl]
    show (0 : Int64) = zKp 0
    decide
  · rw [if_neg h]
    by_cases h2 : zLeft u.1 (r - 1) 64 = 0
    · rw [if_pos h2]
      have h3 := fa_cnt_0 h2 k hk
      simp only [decide_eq_false_iff_not, Decidable.not_not] at h3
      show (0 : Int64) = zKp (runCur u.1 r k)
      unfold runCur zKp
      rw [if_neg h, if_pos h3]
    · rw [if_neg h2, ← fold_1 u h hk]
      show zMg (zFold u r).1 k 0 = _
      rfl
theorem fold_cnt (u : zTree) {r : Nat} (h : ¬ r = 0) : fa_cnt (fun k => zHas (zFold u r).1 1 k) 64 = zLeft u.1 (r - 1) 64 := by
  unfold zLeft
  apply fa_cnt_cong
  intro k hk
  have e : (zFold u r).1 (64 * 1 + k) = zKp (runCur u.1 r k) := fold_1 u h hk
  show decide (¬ (zFold u r).1 (64 * 1 + k) = 0) = decide (¬ zMg u.1 k (r - 1) &&& 16128 = 0)
  rw [e]
  unfold runCur zKp
  rw [if_neg h]
  by_cases h2 : zMg u.1 k (r - 1) &&& 16128 = 0
  · rw [if_pos h2, decide_eq_false (by simp), decide_eq_false (by simp [h2])]
  · rw [if_neg h2, decide_eq_true h2, decide_eq_true]
    intro q
    rw [q] at h2
    exact h2 (by decide)
