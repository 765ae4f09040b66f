/-! STEP -/
def sdN (c : Int64) : Nat := (cSeed c).toNatClampNeg
theorem sdN_eq (c : Int64) : cSeed c = nI (sdN c) ∧ sdN c < 256 := by
  obtain ⟨k, hk, e⟩ := cSeed_lt c
  unfold sdN
  rw [e, nI_clamp (by omega)]; exact ⟨rfl, hk⟩
/-- the next noted card; whether it stands without room -/
def uHd (u : zState) : Int64 := u.2.2.2.2.1.1 (xN u.2.2.2.2.1)
def uBlk (u : zState) : Bool := decide (xN u.2.2.2.2.1 < wN u.2.2.2.2.1) && (uLiv u (uHd u) && !uFits u (4 + cLen (uHd u)))
def uBk (v : zState) : zState := (v.1, (v.2.1.1, v.2.1.2.1, v.2.1.2.2.1, v.2.1.2.2.2.1 + 1, v.2.1.2.2.2.2), v.2.2.1, v.2.2.2.1, (v.2.2.2.2.1.1, v.2.2.2.2.1.2.1, v.2.2.2.2.1.2.2.1, v.2.2.2.2.1.2.2.2 + 1), v.2.2.2.2.2.1, v.2.2.2.2.2.2.1, v.2.2.2.2.2.2.2.1, v.2.2.2.2.2.2.2.2)
def uSk (v : zState) : zState := (v.1, (v.2.1.1, v.2.1.2.1, v.2.1.2.2.1, v.2.1.2.2.2.1, v.2.1.2.2.2.2 + 1), v.2.2.1, v.2.2.2.1, (v.2.2.2.2.1.1, v.2.2.2.2.1.2.1, v.2.2.2.2.1.2.2.1, v.2.2.2.2.1.2.2.2 + 1), v.2.2.2.2.2.1, v.2.2.2.2.2.2.1, v.2.2.2.2.2.2.2.1, v.2.2.2.2.2.2.2.2)
def uAdv (u : zState) : zState := if xN u.2.2.2.2.1 < wN u.2.2.2.2.1 then (if uLiv u (uHd u) then uBk (uEnter u (kN (uHd u)) (lnN (uHd u)) (sdN (uHd u))) else uSk u) else u
def uWr (u : zState) : Nat := if xN u.2.2.2.2.1 < wN u.2.2.2.2.1 ∧ uLiv u (uHd u) = true then 1 else 0
def uSg (u : zState) : Nat := u.2.2.2.2.1.2.1.toNatClampNeg
def uOne (u : zState) : zState := if xN (uAdv u).2.2.2.2.1 < wN (uAdv u).2.2.2.2.1 then uAdv u else uEndC (uAdv u) (uSg u)
/-- at most n steps: how many were written back, and the State then -/
def uCol : Nat → zState → Nat × zState
  | 0, u => (0, u)
  | n + 1, u => if u.2.2.2.2.1.2.1 = -1 then (0, u) else if uBlk u then (0, u) else (uWr u + (uCol n (uOne u)).1, (uCol n (uOne u)).2)
theorem zPr.monoB {R ρ β mo lm L S M B B' : Nat} {u : zState} (h : zPr R ρ β mo lm L S M B u) (hB : B ≤ B') (h4 : B' ≤ 400000) : zPr R ρ β mo lm L S M B' u := by
  obtain ⟨h1, h2, h3, h4', ⟨a1, a2, a3, a4, a5, a6, a7⟩, hg, ht, hR, hL, hC, hD, x, y, t1, t2, t3, t4⟩ := h
  exact ⟨h1, h2, h3, h4', ⟨a1, a2, a3, a4, a5, by omega, h4⟩, hg, ht, hR, hL, hC, hD, x, y, t1, t2, by omega, by omega⟩
/-- the collection is a step further, and the one ahead is live no more -/
theorem ColOk.next {g : zSegs} {p : Int64 → Prop} {c : zColl} (h : ColOk g p c) (hx : xN c < wN c) (hd : ¬ p (c.1 (xN c))) : ColOk g p (c.1, c.2.1, c.2.2.1, c.2.2.2 + 1) ∧ xN (c.1, c.2.1, c.2.2.1, c.2.2.2 + 1) = xN c + 1 ∧ wN (c.1, c.2.1, c.2.2.1, c.2.2.2 + 1) = wN c := by
  obtain ⟨h1, h2, h3⟩ := h
  have ex : xN (c.1, c.2.1, c.2.2.1, c.2.2.2 + 1) = xN c + 1 := by
    show (c.2.2.2 + 1).toNatClampNeg = _
    rw [h2.1, nI_1, nI_clamp (by omega)]
  have ew : wN (c.1, c.2.1, c.2.2.1, c.2.2.2 + 1) = wN c := rfl
  refine ⟨⟨h1, ⟨by rw [ex]; show c.2.2.2 + 1 = _; rw [h2.1, nI_1], by rw [ex, ew]; omega⟩, ?_⟩, ex, ew⟩
  rcases h3 with h3 | ⟨s, a1, a2, a3, a4, a5⟩
  · exact Or.inl h3
  · refine Or.inr ⟨s, a1, a2, a3, a4, fun j hj hl => ?_⟩
    obtain ⟨i, i1, i2, i3⟩ := a5 j hj hl
    refine ⟨i, ?_, i2, i3⟩
    rw [ex]
    by_cases hi : i = xN c
    · subst hi
      rw [← i3] at hl
      exact absurd hl hd
    · omega
theorem uE_col (u : zState) (k ln sd : Nat) : (uEnter u k ln sd).2.2.2.2.1 = u.2.2.2.2.1 := by
  show (uE2 (uE1 u k) (4 + nI ln)).2.2.2.2.1 = _
  unfold uE2
  have : (uE1 u k).2.2.2.2.1 = u.2.2.2.2.1 := by
    unfold uE1
    split
    · rfl
    · exact (uFlush_same u).2.2.1
  split <;> exact this
theorem uE_term (u : zState) (k ln sd : Nat) : (uEnter u k ln sd).1 = u.1 := by
  show (uE2 (uE1 u k) (4 + nI ln)).1 = _
  unfold uE2
  have : (uE1 u k).1 = u.1 := by
    unfold uE1
    split
    · rfl
    · exact (uFlush_same u).1
  split <;> exact this
/-- behind ENTER the key's current card is the new one -/
theorem enter_cur {ρ β mo lm L S M B k ln sd : Nat} {u : zState} (h : zP ρ β mo lm L S M B u) (hB : B < 400000) (hk : k < 64) (hl : ln ≤ 40) (hs : sd < 256) (hf : uFits u (4 + nI ln) = true) : cnN (tCur (uEnter u k ln sd).2.2.2.1 k) = L + 1 := by
  unfold uEnter uE1
  split
  · obtain ⟨h2, -⟩ := zPr.e2 h hl hf
    obtain ⟨-, -, -, -, -, -, c7, -, -, c10⟩ := uNew_ok h2 hB hk hl hs
    show cnN (tCur (zInto _ k _) k) = _
    rw [tCur_into _ hk hk c10, if_pos rfl]; exact c7
  · obtain ⟨h2, -⟩ := zPr.e2 (zPr.flush h) hl (by rw [uFits_flush]; exact hf)
    obtain ⟨-, -, -, -, -, -, c7, -, -, c10⟩ := uNew_ok h2 hB hk hl hs
    show cnN (tCur (zInto _ k _) k) = _
    rw [tCur_into _ hk hk c10, if_pos rfl]; exact c7
/-- what is noted ahead is a record -/
theorem uHd_rec {ρ β mo lm L S M B : Nat} {u : zState} (h : zP ρ β mo lm L S M B u) (hon : ¬ u.2.2.2.2.1.2.1 = -1) : ∃ s : Nat, s < 12 ∧ u.2.2.2.2.1.2.1 = nI s ∧ uSg u = s ∧ (xN u.2.2.2.2.1 < wN u.2.2.2.2.1 → ∃ j, j < gN u.2.2.1 s ∧ uHd u = u.2.2.1.1 (50 * s + j)) := by
  obtain ⟨-, -, hc3⟩ := h.2.2.2.2.2.2.2.2.2.1
  rcases hc3 with hc3 | ⟨s, a1, a2, a3, a4, a5⟩
  · exact absurd hc3 hon
  · refine ⟨s, a1, a2, ?_, fun hx => a4 _ hx⟩
    unfold uSg
    rw [a2, nI_clamp (by omega)]
theorem uHd_ok {ρ β mo lm L S M B : Nat} {u : zState} (h : zP ρ β mo lm L S M B u) (hon : ¬ u.2.2.2.2.1.2.1 = -1) (hx : xN u.2.2.2.2.1 < wN u.2.2.2.2.1) : cnN (uHd u) ≤ L ∧ lnN (uHd u) ≤ 40 := by
  obtain ⟨s, hs, -, -, hh⟩ := uHd_rec h hon
  obtain ⟨j, hj, e⟩ := hh hx
  rw [e]
  have := h.2.2.2.2.2.1.2.2.2.2.1 s hs j hj
  exact ⟨this.2.2.2.2.1, this.2.2.2.2.2⟩
theorem zPr.bk {R ρ β mo lm L S M B : Nat} {v : zState} (h : zPr R ρ β mo lm L S M B v) (hx : xN v.2.2.2.2.1 < wN v.2.2.2.2.1) (hd : ¬ tLiv v.1.2.1 v.2.2.2.1 (v.2.2.2.2.1.1 (xN v.2.2.2.2.1)) = true) : zPr R ρ β mo lm L S M B (uBk v) := by
  obtain ⟨h1, h2', h3, h4, h5, hg, ht, hR, hL, hC, hD, hT⟩ := h
  exact ⟨h1, h2', h3, h4, h5, hg, ht, hR, hL, (hC.next hx hd).1, hD, hT⟩
theorem zPr.sk {R ρ β mo lm L S M B : Nat} {v : zState} (h : zPr R ρ β mo lm L S M B v) (hx : xN v.2.2.2.2.1 < wN v.2.2.2.2.1) (hd : ¬ tLiv v.1.2.1 v.2.2.2.1 (v.2.2.2.2.1.1 (xN v.2.2.2.2.1)) = true) : zPr R ρ β mo lm L S M B (uSk v) := by
  obtain ⟨h1, h2', h3, h4, h5, hg, ht, hR, hL, hC, hD, hT⟩ := h
  exact ⟨h1, h2', h3, h4, h5, hg, ht, hR, hL, (hC.next hx hd).1, hD, hT⟩
theorem uBk_seg (v : zState) : (uBk v).2.2.2.2.1.2.1 = v.2.2.2.2.1.2.1 := rfl
theorem uBlk_fits {u : zState} (hx : xN u.2.2.2.2.1 < wN u.2.2.2.2.1) (hl : uLiv u (uHd u) = true) (hb : uBlk u = false) : uFits u (4 + nI (lnN (uHd u))) = true := by
  unfold uBlk at hb
  rw [decide_eq_true hx, hl, (lnN_eq (uHd u)).1] at hb
  generalize uFits u (4 + nI (lnN (uHd u))) = b at hb ⊢
  cases b with
  | true => rfl
  | false => exact absurd hb (by decide)
theorem zPr.adv {ρ β mo lm L S M B : Nat} {u : zState} (h : zP ρ β mo lm L S M B u) (hB : B < 400000) (hon : ¬ u.2.2.2.2.1.2.1 = -1) (hb : uBlk u = false) : (∃ L' S' M', zP ρ β mo lm L' S' M' (B + 1) (uAdv u)) ∧ (uAdv u).2.2.2.2.1.2.1 = u.2.2.2.2.1.2.1 := by
  unfold uAdv
  by_cases hx : xN u.2.2.2.2.1 < wN u.2.2.2.2.1
  · rw [if_pos hx]
    obtain ⟨q1, q2⟩ := uHd_ok h hon hx
    by_cases hl : uLiv u (uHd u) = true
    · rw [if_pos hl]
      have hf := uBlk_fits hx hl hb
      obtain ⟨S', M', h2⟩ := zPr.enter h hB (kN_lt (uHd u)) q2 (sdN_eq (uHd u)).2 hf
      have hcur := enter_cur h hB (kN_lt (uHd u)) q2 (sdN_eq (uHd u)).2 hf
      have ec := uE_col u (kN (uHd u)) (lnN (uHd u)) (sdN (uHd u))
      generalize uEnter u (kN (uHd u)) (lnN (uHd u)) (sdN (uHd u)) = v at h2 hcur ec ⊢
      refine ⟨⟨L + 1, S', M', h2.bk (by rw [ec]; exact hx) (fun q => ?_)⟩, by rw [uBk_seg, ec]⟩
      rw [ec] at q
      have q : tLiv v.1.2.1 v.2.2.2.1 (uHd u) = true := q
      unfold tLiv at q
      have e := (of_decide_eq_true q).2
      rw [e] at hcur
      omega
    · rw [if_neg hl]
      exact ⟨⟨L, S, M, (h.monoB (Nat.le_succ B) (by omega)).sk hx hl⟩, rfl⟩
  · rw [if_neg hx]
    exact ⟨⟨L, S, M, h.monoB (Nat.le_succ B) (by omega)⟩, rfl⟩
theorem zPr.one {ρ β mo lm L S M B : Nat} {u : zState} (h : zP ρ β mo lm L S M B u) (hB : B < 400000) (hon : ¬ u.2.2.2.2.1.2.1 = -1) (hb : uBlk u = false) : ∃ L' S' M', zP ρ β mo lm L' S' M' (B + 1) (uOne u) := by
  obtain ⟨⟨L', S', M', h2⟩, e⟩ := zPr.adv h hB hon hb
  obtain ⟨s, hs, e1, e2, -⟩ := uHd_rec h hon
  unfold uOne
  by_cases hx : xN (uAdv u).2.2.2.2.1 < wN (uAdv u).2.2.2.2.1
  · rw [if_pos hx]; exact ⟨L', S', M', h2⟩
  · rw [if_neg hx, e2]
    have hle := h2.2.2.2.2.2.2.2.2.2.1.2.1.2
    exact ⟨L', L', L', zPr.endC h2 hs (by rw [e, e1]) (by omega)⟩
theorem zPr.col {ρ β mo lm : Nat} : ∀ (n : Nat) {L S M B : Nat} {u : zState}, zP ρ β mo lm L S M B u → B + n ≤ 400000 → ∃ L' S' M', zP ρ β mo lm L' S' M' (B + n) (uCol n u).2
  | 0, L, S, M, B, u, h, _ => ⟨L, S, M, h⟩
  | n + 1, L, S, M, B, u, h, hB => by
    unfold uCol
    by_cases h1 : u.2.2.2.2.1.2.1 = -1
    · rw [if_pos h1]; exact ⟨L, S, M, h.monoB (by omega) hB⟩
    · rw [if_neg h1]
      by_cases h2 : uBlk u = true
      · rw [if_pos h2]; exact ⟨L, S, M, h.monoB (by omega) hB⟩
      · rw [if_neg h2]
        obtain ⟨L', S', M', h3⟩ := zPr.one h (by omega) h1 (by simpa using h2)
        obtain ⟨L2, S2, M2, h4⟩ := zPr.col n h3 (by omega)
        exact ⟨L2, S2, M2, by rw [show B + (n + 1) = B + 1 + n by omega]; exact h4⟩
