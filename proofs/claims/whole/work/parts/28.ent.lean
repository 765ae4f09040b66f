/-! a record is written -/
def uE1 (u : zState) (k : Nat) : zState := if u.2.2.2.1.2.1 0 < u.1.2.2.1 ∨ ¬ u.2.2.2.1.1 k = 0 then u else uFlush u
def uE2 (v : zState) (z : Int32) : zState := if z ≤ uLeft v then v else (v.1, v.2.1, zNxt v.2.2.1 (oN v) (uFst v), v.2.2.2.1, v.2.2.2.2.1, zTell v.2.2.2.2.2.1 (dN v.2.2.2.2.2.1) 4 v.2.2.1.2.2.2.2 v.2.2.2.2.2.2.1, v.2.2.2.2.2.2.1, v.2.2.2.2.2.2.2.1, v.2.2.2.2.2.2.2.2)
/-- the card that comes -/
def uNew (w : zState) (k ln sd : Nat) : Int64 := cMk (w.2.2.2.2.2.2.1 + 1) (nI (oN w)) (w.2.2.1.2.2.1 (oN w)) (nI k) (nI ln) (nI sd)
def uE3 (w : zState) (k ln sd : Nat) : zState := (w.1, (w.2.1.1 + (4 + nI ln), w.2.1.2.1, w.2.1.2.2.1, w.2.1.2.2.2.1, w.2.1.2.2.2.2), zApp w.2.2.1 (oN w) (cN w (oN w)) (nI ln) (uNew w k ln sd), zInto w.2.2.2.1 k (uNew w k ln sd), w.2.2.2.2.1, w.2.2.2.2.2.1, w.2.2.2.2.2.2.1 + 1, w.2.2.2.2.2.2.2.1, w.2.2.2.2.2.2.2.2)
def uEnter (u : zState) (k ln sd : Nat) : zState := uE3 (uE2 (uE1 u k) (4 + nI ln)) k ln sd
/-! segments: the next one opened; a card behind the last -/
theorem gN_nxt (g : zSegs) (o n s : Nat) : gN (zNxt g o n) s = gN g s := rfl
theorem gB_nxt (g : zSegs) (o n s : Nat) : ∀ j, gB (zNxt g o n) s j = gB g s j
  | 0 => rfl
  | j + 1 => by unfold gB; rw [gB_nxt g o n s j]; rfl
theorem SegOk.nxt {ρ L n : Nat} {g : zSegs} (h : SegOk ρ L g) (hn : n < 12) (h0 : g.2.2.2.1 n = 0) : SegOk ρ L (zNxt g (gO g) n) ∧ gO (zNxt g (gO g) n) = n := by
  obtain ⟨h1, h2, h3, h4, h5, h6⟩ := h
  have eo : gO (zNxt g (gO g) n) = n := nI_clamp (n := n) (by omega)
  have hno : ¬ n = gO g := fun q => by
    have := ((h3 n hn).1).mpr q
    rw [h0] at this
    exact absurd this (by decide)
  refine ⟨⟨⟨by rw [eo]; rfl, by rw [eo]; exact hn⟩, h2, fun s hs => ?_, fun s hs => ?_, fun s hs j hj => ?_, h6⟩, eo⟩
  · rw [eo]
    show ((upd (upd g.2.2.2.1 (gO g) 2) n 1) s = 1 ↔ s = n) ∧ _ ∧ ((upd (upd g.2.2.2.1 (gO g) 2) n 1) s = 0 → gN g s = 0)
    obtain ⟨q1, q2, q3⟩ := h3 s hs
    show ((upd (upd g.2.2.2.1 (gO g) 2) n 1) s = 1 ↔ s = n) ∧ ((upd (upd g.2.2.2.1 (gO g) 2) n 1) s = 0 ∨ (upd (upd g.2.2.2.1 (gO g) 2) n 1) s = 1 ∨ (upd (upd g.2.2.2.1 (gO g) 2) n 1) s = 2) ∧ ((upd (upd g.2.2.2.1 (gO g) 2) n 1) s = 0 → gN g s = 0)
    unfold upd
    by_cases hsn : s = n
    · rw [if_pos hsn]; exact ⟨⟨fun _ => hsn, fun _ => rfl⟩, Or.inr (Or.inl rfl), fun q => absurd q (by decide)⟩
    · rw [if_neg hsn]
      by_cases hso : s = gO g
      · rw [if_pos hso]; exact ⟨⟨fun q => absurd q (by decide), fun q => absurd q hsn⟩, Or.inr (Or.inr rfl), fun q => absurd q (by decide)⟩
      · rw [if_neg hso]; exact ⟨⟨fun q => absurd (q1.mp q) hso, fun q => absurd q hsn⟩, q2, q3⟩
  · show g.2.2.1 s = nI (gB (zNxt g (gO g) n) s (gN g s)) ∧ gB (zNxt g (gO g) n) s (gN g s) ≤ ρ
    rw [gB_nxt]; exact h4 s hs
  · show RecOk L s (gB (zNxt g (gO g) n) s j) (g.1 (50 * s + j))
    rw [gB_nxt]; exact h5 s hs j hj
theorem app_old (g : zSegs) {o c s j : Nat} (len : Int32) (cd : Int64) (hc : c < 50) (hj : j < 50) (h : ¬ (s = o ∧ j = c)) : (zApp g o c len cd).1 (50 * s + j) = g.1 (50 * s + j) := by
  show vp_updL g.1 (50 * o + c) cd (50 * s + j) = _
  unfold vp_updL
  rw [if_neg]
  intro q
  apply h
  omega
theorem app_new (g : zSegs) (o c : Nat) (len : Int32) (cd : Int64) : (zApp g o c len cd).1 (50 * o + c) = cd := if_pos rfl
theorem gN_app (g : zSegs) {o c : Nat} (len : Int32) (cd : Int64) (hc : c < 50) (s : Nat) : gN (zApp g o c len cd) s = if s = o then c + 1 else gN g s := by
  show (upd g.2.1 o (nI (c + 1)) s).toNatClampNeg = _
  unfold upd
  by_cases h : s = o
  · rw [if_pos h, if_pos h, nI_clamp (by omega)]
  · rw [if_neg h, if_neg h]; rfl
theorem gB_app (g : zSegs) {o c : Nat} (len : Int32) (cd : Int64) (hc : c < 50) (s : Nat) : ∀ j, j ≤ 50 → (s = o → j ≤ c) → gB (zApp g o c len cd) s j = gB g s j
  | 0, _, _ => rfl
  | j + 1, hj, hs => by
    unfold gB
    rw [gB_app g len cd hc s j (by omega) (fun q => by have := hs q; omega), app_old g len cd hc (by omega) (fun q => by have := hs q.1; omega)]
theorem SegOk.app {ρ L ln : Nat} {g : zSegs} {cd : Int64} (h : SegOk ρ L g) (hc : gN g (gO g) < 50) (hroom : gB g (gO g) (gN g (gO g)) + (4 + ln) ≤ ρ) (hρ : ρ ≤ 200) (hcd : RecOk (L + 1) (gO g) (gB g (gO g) (gN g (gO g))) cd) (hnum : cnN cd = L + 1) (hln : lnN cd = ln) : SegOk ρ (L + 1) (zApp g (gO g) (gN g (gO g)) (nI ln) cd) := by
  obtain ⟨h1, h2, h3, h4, h5, h6⟩ := h
  have ho := h1.2
  refine ⟨h1, fun s hs => ?_, fun s hs => ?_, fun s hs => ?_, fun s hs j hj => ?_, fun s hs i j hij hj => ?_⟩
  · rw [gN_app g _ _ hc]
    show upd g.2.1 (gO g) (nI (gN g (gO g) + 1)) s = _ ∧ _
    unfold upd
    by_cases h : s = gO g
    · rw [if_pos h, if_pos h]; exact ⟨rfl, by omega⟩
    · rw [if_neg h, if_neg h]; exact h2 s hs
  · refine ⟨(h3 s hs).1, (h3 s hs).2.1, fun q => ?_⟩
    have q : g.2.2.2.1 s = 0 := q
    rw [gN_app g _ _ hc]
    by_cases h : s = gO g
    · have := ((h3 s hs).1).mpr h
      rw [q] at this
      exact absurd this (by decide)
    · rw [if_neg h]; exact (h3 s hs).2.2 q
  · rw [gN_app g _ _ hc]
    show upd g.2.2.1 (gO g) (g.2.2.1 (gO g) + (4 + nI ln)) s = _ ∧ _
    unfold upd
    by_cases h : s = gO g
    · rw [if_pos h, if_pos h, (h4 _ ho).1]
      subst h
      have e : gB (zApp g (gO g) (gN g (gO g)) (nI ln) cd) (gO g) (gN g (gO g) + 1) = gB g (gO g) (gN g (gO g)) + (4 + ln) := by
        show gB (zApp g (gO g) (gN g (gO g)) (nI ln) cd) (gO g) (gN g (gO g)) + (4 + lnN _) = _
        rw [gB_app g _ _ hc _ _ (by omega) (fun _ => Nat.le_refl _), app_new, hln]
      rw [e]
      exact ⟨by rw [n_lit4, nI_add, nI_add], hroom⟩
    · rw [if_neg h, if_neg h, gB_app g _ _ hc _ _ (h2 s hs).2 (fun q => absurd q h)]
      exact h4 s hs
  · rw [gN_app g _ _ hc] at hj
    by_cases h : s = gO g ∧ j = gN g (gO g)
    · obtain ⟨rfl, rfl⟩ := h
      rw [gB_app g _ _ hc _ _ (by omega) (fun _ => Nat.le_refl _), app_new]
      exact hcd
    · have hjl : j < gN g s := by
        by_cases hs' : s = gO g
        · rw [if_pos hs'] at hj
          have : ¬ j = gN g (gO g) := fun q => h ⟨hs', q⟩
          rw [hs']; omega
        · rw [if_neg hs'] at hj; exact hj
      have := (h2 s hs).2
      rw [gB_app g _ _ hc _ _ (by omega) (fun q => by rw [q] at hjl; omega), app_old g _ _ hc (by omega) h]
      obtain ⟨r1, r2, r3, r4, r5, r6⟩ := h5 s hs j hjl
      exact ⟨r1, r2, r3, r4, by omega, r6⟩
  · rw [gN_app g _ _ hc] at hj
    by_cases h : s = gO g ∧ j = gN g (gO g)
    · obtain ⟨rfl, rfl⟩ := h
      rw [app_new, app_old g _ _ hc (by omega) (fun q => by omega), hnum]
      have := (h5 _ hs i hij).2.2.2.2.1
      omega
    · have hjl : j < gN g s := by
        by_cases hs' : s = gO g
        · rw [if_pos hs'] at hj
          have : ¬ j = gN g (gO g) := fun q => h ⟨hs', q⟩
          rw [hs']; omega
        · rw [if_neg hs'] at hj; exact hj
      have := (h2 s hs).2
      rw [app_old g _ _ hc (by omega) h, app_old g _ _ hc (by omega) (fun q => by rw [q.1] at hjl; omega)]
      exact h6 s hs i j hij hjl
theorem inSeg.app {g : zSegs} {len : Int32} {cd c : Int64} (h : inSeg g c) (hc : gN g (gO g) < 50) (h50 : ∀ s, s < 12 → gN g s ≤ 50) : inSeg (zApp g (gO g) (gN g (gO g)) len cd) c := by
  obtain ⟨s, j, hs, hj, e⟩ := h
  have h1 := h50 s hs
  refine ⟨s, j, hs, ?_, ?_⟩
  · rw [gN_app g _ _ hc]
    by_cases h : s = gO g
    · rw [if_pos h]; rw [h] at hj; omega
    · rw [if_neg h]; exact hj
  · rw [app_old g _ _ hc (by omega) (fun q => by rw [q.1] at hj; omega)]; exact e
/-- the entry comes into the table -/
theorem into_at (t : zTree) {k l j : Nat} (c : Int64) (hk : k < 64) (hj : j < 64) : (zInto t k c).1 (64 * l + j) = if l = 0 ∧ j = k then c else t.1 (64 * l + j) := by
  show vp_updL t.1 k c (64 * l + j) = _
  unfold vp_updL
  by_cases h : l = 0 ∧ j = k
  · rw [if_pos h, if_pos (by omega)]
  · rw [if_neg h, if_neg (by omega)]
theorem into_tab (t : zTree) {k j : Nat} (c : Int64) : (zInto t k c).1 j = if j = k then c else t.1 j := rfl
theorem into_R (t : zTree) (k : Nat) (c : Int64) : tR (zInto t k c) = tR t := rfl
theorem into_run (t : zTree) {k j r : Nat} (c : Int64) (hk : k < 64) (hj : j < 64) : runCur (zInto t k c).1 r j = runCur t.1 r j := runCur_c (fun l h1 _ => by rw [into_at t c hk hj, if_neg (by omega)])
theorem tCur_into (t : zTree) {k j : Nat} {c : Int64} (hk : k < 64) (hj : j < 64) (hc : ¬ c = 0) : tCur (zInto t k c) j = if j = k then c else tCur t j := by
  rw [tCur_eq, tCur_eq, into_tab, into_R, into_run t c hk hj]
  by_cases h : j = k
  · rw [if_pos h, if_pos h, if_neg hc]
  · rw [if_neg h, if_neg h]
theorem fa_cnt_upd {p q : Nat → Bool} {k : Nat} (hq : ∀ j, ¬ j = k → q j = p j) (hk : q k = true) : ∀ n, k < n → fa_cnt q n = fa_cnt p n + (if p k then 0 else 1)
  | 0, h => absurd h (Nat.not_lt_zero _)
  | n + 1, h => by
    show fa_cnt q n + (if q n then 1 else 0) = fa_cnt p n + (if p n then 1 else 0) + _
    by_cases hn : n = k
    · subst hn
      rw [fa_cnt_cong (p := q) (q := p) (fun j hj => hq j (by omega)), if_pos hk]
      cases hp : p n with
      | true => simp
      | false => simp
    · rw [fa_cnt_upd hq hk n (by omega), hq n hn]; omega
theorem TreeOk.into {M L k : Nat} {t : zTree} {c : Int64} (h : TreeOk M L t) (hM : M ≤ L) (hk : k < 64) (hc : EntOk M (L + 1) k c) : TreeOk M (L + 1) (zInto t k c) := by
  obtain ⟨h1, h2, h3, h4⟩ := h
  have hc0 : ¬ c = 0 := fun q => by
    have := hc.2.2.1
    rw [q, show cnN 0 = 0 by decide] at this
    omega
  refine ⟨h1, fun j hj => ?_, fun l j a1 a2 hj => ?_, fun l hl => ?_⟩
  · rw [into_tab]
    by_cases q : j = k
    · rw [if_pos q]; subst q; exact Or.inr hc
    · rw [if_neg q]
      rcases h2 j hj with h | h
      · exact Or.inl h
      · exact Or.inr ⟨h.1, h.2.1, h.2.2.1, Nat.le_succ_of_le h.2.2.2.1, h.2.2.2.2⟩
  · rw [into_at t c hk hj, if_neg (by omega)]; exact h3 l j a1 a2 hj
  · by_cases h0 : l = 0
    · subst h0
      have e : fa_cnt (fun j => zHas (zInto t k c).1 0 j) 64 = fa_cnt (fun j => zHas t.1 0 j) 64 + (if zHas t.1 0 k then 0 else 1) := by
        apply fa_cnt_upd (k := k)
        · intro j hj
          show decide (¬ (zInto t k c).1 (64 * 0 + j) = 0) = decide (¬ t.1 (64 * 0 + j) = 0)
          rw [show 64 * 0 + j = j by omega, into_tab, if_neg hj]
        · show decide (¬ (zInto t k c).1 (64 * 0 + k) = 0) = true
          rw [show 64 * 0 + k = k by omega, into_tab, if_pos rfl]
          exact decide_eq_true hc0
        · exact hk
      rw [e]
      show upd t.2.1 0 (t.2.1 0 + (if t.1 k = 0 then 1 else 0)) 0 = _
      unfold upd
      rw [if_pos rfl, h4 0 (Nat.zero_le _)]
      by_cases hz : t.1 k = 0
      · rw [if_pos hz, if_neg (by simp [hz]), nI_1]
      · rw [if_neg hz, if_pos (by simp [hz]), Int32.add_zero]; rfl
    · have : (zInto t k c).2.1 l = t.2.1 l := by
        show upd t.2.1 0 _ l = _
        unfold upd
        rw [if_neg h0]
      rw [this, h4 l hl]
      refine congrArg nI (fa_cnt_cong (fun j hj => ?_))
      show decide (¬ t.1 (64 * l + j) = 0) = decide (¬ (zInto t k c).1 (64 * l + j) = 0)
      rw [into_at t c hk hj, if_neg (by omega)]
