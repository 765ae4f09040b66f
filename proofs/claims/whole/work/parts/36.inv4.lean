/-! CRASH keeps the invariant -/
theorem gB_c {g g' : zSegs} (h : g.1 = g'.1) (s : Nat) : ∀ j, gB g s j = gB g' s j
  | 0 => rfl
  | j + 1 => by unfold gB; rw [gB_c h s j, h]
theorem zCut_top (g : zSegs) (x : Int32) (s : Nat) : ∀ n, 0 < zCut g x s n → cNum (g.1 (50 * s + (zCut g x s n - 1))) ≤ x
  | 0, h => absurd h (Nat.lt_irrefl 0)
  | n + 1, h => by
    unfold zCut at h ⊢
    by_cases c : cNum (g.1 (50 * s + n)) ≤ x
    · rw [if_pos c, show n + 1 - 1 = n by omega]; exact c
    · rw [if_neg c] at h ⊢; exact zCut_top g x s n h
theorem zCut_keep (g : zSegs) (x : Int32) (s j : Nat) (h : cNum (g.1 (50 * s + j)) ≤ x) : ∀ n, j < n → j < zCut g x s n
  | 0, hn => absurd hn (Nat.not_lt_zero _)
  | n + 1, hn => by
    unfold zCut
    by_cases c : cNum (g.1 (50 * s + n)) ≤ x
    · rw [if_pos c]; exact hn
    · rw [if_neg c]
      have : ¬ j = n := fun q => c (by rw [← q]; exact h)
      exact zCut_keep g x s j h n (by omega)
theorem zCuT_eq (g : zSegs) (x : Int32) (s : Nat) : ∀ n, zCuT g x s n (nI (gB g s n)) = nI (gB g s (zCut g x s n))
  | 0 => rfl
  | n + 1 => by
    unfold zCuT zCut
    by_cases c : cNum (g.1 (50 * s + n)) ≤ x
    · rw [if_pos c, if_pos c]
    · rw [if_neg c, if_neg c, ← zCuT_eq g x s n]
      congr 1
      have e : gB g s (n + 1) = (4 + lnN (g.1 (50 * s + n))) + gB g s n := by
        show gB g s n + (4 + lnN _) = _
        omega
      rw [e, (lnN_eq (g.1 (50 * s + n))).1, n_lit4, nI_add, lN_subI (by omega)]
      congr 1
      omega
theorem SegOk.crash {ρ L S : Nat} {g : zSegs} (h : SegOk ρ L g) (hS : S ≤ L) (hL : L < 2 ^ 30) : SegOk ρ S (zOpL (zCo g (nI S) 12)) ∧ (∀ s, s < 12 → gN (zOpL (zCo g (nI S) 12)) s = zCut g (nI S) s (gN g s)) := by
  obtain ⟨h1, h2, h3, h4, h5, h6⟩ := h
  have hn : ∀ s, s < 12 → gN (zOpL (zCo g (nI S) 12)) s = zCut g (nI S) s (gN g s) := fun s hs => (zCo_n g (nI S) hs (h2 s hs).2).2.2
  have hB : ∀ s j, gB (zOpL (zCo g (nI S) 12)) s j = gB g s j := fun s j => gB_c (g := zOpL (zCo g (nI S) 12)) (g' := g) rfl s j
  have hl := zLt_lt (zCo g (nI S) 12) 12 (Nat.le_refl _)
  have eo : gO (zOpL (zCo g (nI S) 12)) = zLt (zCo g (nI S) 12) 12 := nI_clamp (by omega)
  have hle : ∀ s, s < 12 → ∀ j, j < zCut g (nI S) s (gN g s) → cnN (g.1 (50 * s + j)) ≤ S := fun s hs j hj => by
    have ht := zCut_top g (nI S) s (gN g s) (by omega)
    have hc := zCut_le g (nI S) s (gN g s)
    have hr := h5 s hs (zCut g (nI S) s (gN g s) - 1) (by omega)
    rw [hr.2.2.1] at ht
    have hb := hr.2.2.2.2.1
    have := (nI_leI (by omega) (by omega)).mp ht
    by_cases q : j = zCut g (nI S) s (gN g s) - 1
    · rw [q]; exact this
    · have := h6 s hs j (zCut g (nI S) s (gN g s) - 1) (by omega) (by omega)
      omega
  refine ⟨⟨⟨by rw [eo]; rfl, by rw [eo]; exact hl⟩, fun s hs => ?_, fun s hs => ?_, fun s hs => ?_, fun s hs j hj => ?_, fun s hs i j hij hj => ?_⟩, hn⟩
  · exact ⟨(zCo_n g (nI S) hs (h2 s hs).2).1, (zCo_n g (nI S) hs (h2 s hs).2).2.1⟩
  · rw [eo, hn s hs]
    have e0 : (zCo g (nI S) 12).2.1 s = nI (zCut g (nI S) s (gN g s)) := if_pos hs
    have hk : (zOpL (zCo g (nI S) 12)).2.2.2.1 s = if s = zLt (zCo g (nI S) 12) 12 then 1 else if (zCo g (nI S) 12).2.1 s = 0 then 0 else 2 := by
      show upd (zKd (zCo g (nI S) 12) 12) (zLt (zCo g (nI S) 12) 12) 1 s = _
      unfold upd zKd
      rw [if_pos hs]
    rw [hk]
    by_cases q : s = zLt (zCo g (nI S) 12) 12
    · rw [if_pos q]; exact ⟨⟨fun _ => q, fun _ => rfl⟩, Or.inr (Or.inl rfl), fun z => absurd z (by decide)⟩
    · rw [if_neg q]
      by_cases c : (zCo g (nI S) 12).2.1 s = 0
      · rw [if_pos c]
        refine ⟨⟨fun z => absurd z (by decide), fun z => absurd z q⟩, Or.inl rfl, fun _ => ?_⟩
        rw [e0] at c
        have := zCut_le g (nI S) s (gN g s)
        have := (h2 s hs).2
        exact (nI_eq (b := 0) (by omega) (by decide)).mp c
      · rw [if_neg c]; exact ⟨⟨fun z => absurd z (by decide), fun z => absurd z q⟩, Or.inr (Or.inr rfl), fun z => absurd z (by decide)⟩
  · rw [hn s hs, hB]
    have e0 : (zCo g (nI S) 12).2.2.1 s = zCuT g (nI S) s (gN g s) (g.2.2.1 s) := if_pos hs
    refine ⟨?_, ?_⟩
    · show (zCo g (nI S) 12).2.2.1 s = _
      rw [e0, (h4 s hs).1, zCuT_eq]
    · have hc := zCut_le g (nI S) s (gN g s)
      have hm : ∀ a b, a ≤ b → gB g s a ≤ gB g s b := fun a b hab => by
        induction b with
        | zero => rw [show a = 0 by omega]; exact Nat.le_refl _
        | succ b ih =>
          by_cases q : a = b + 1
          · rw [q]; exact Nat.le_refl _
          · have := ih (by omega)
            show gB g s a ≤ gB g s b + _
            omega
      exact Nat.le_trans (hm _ _ hc) (h4 s hs).2
  · rw [hn s hs] at hj
    rw [hB]
    have hc := zCut_le g (nI S) s (gN g s)
    obtain ⟨r1, r2, r3, r4, r5, r6⟩ := h5 s hs j (by omega)
    exact ⟨r1, r2, r3, r4, hle s hs j hj, r6⟩
  · rw [hn s hs] at hj
    have hc := zCut_le g (nI S) s (gN g s)
    exact h6 s hs i j hij (by omega)
theorem TreeOk.into2 {M L k : Nat} {t : zTree} {c : Int64} (h : TreeOk M L t) (hk : k < 64) (hc : EntOk M L k c) : TreeOk M L (zInto t k c) := by
  obtain ⟨h1, h2, h3, h4⟩ := h
  have hc0 : ¬ c = 0 := fun q => by
    have := hc.2.2.1
    rw [q, show cnN 0 = 0 by decide] at this
    omega
  refine ⟨h1, fun j hj => ?_, fun l j a1 a2 hj => ?_, fun l hl => ?_⟩
  · rw [into_tab]
    by_cases q : j = k
    · rw [if_pos q]; subst q; exact Or.inr hc
    · rw [if_neg q]; exact h2 j hj
  · rw [into_at t c hk hj, if_neg (by omega)]; exact h3 l j a1 a2 hj
  · by_cases h0 : l = 0
    · subst h0
      have e : fa_cnt (fun j => zHas (zInto t k c).1 0 j) 64 = fa_cnt (fun j => zHas t.1 0 j) 64 + (if zHas t.1 0 k then 0 else 1) := by
        apply fa_cnt_upd (k := k)
        · intro j hj
          show decide (¬ (zInto t k c).1 (64 * 0 + j) = 0) = decide (¬ t.1 (64 * 0 + j) = 0)
          rw [show 64 * 0 + j = j by omega, into_tab, if_neg hj]
        · show decide (¬ (zInto t k c).1 (64 * 0 + k) = 0) = true
          rw [show 64 * 0 + k = k by omega, into_tab, if_pos rfl]
          exact decide_eq_true hc0
        · exact hk
      rw [e]
      show upd t.2.1 0 (t.2.1 0 + (if t.1 k = 0 then 1 else 0)) 0 = _
      unfold upd
      rw [if_pos rfl, h4 0 (Nat.zero_le _)]
      by_cases hz : t.1 k = 0
      · rw [if_pos hz, if_neg (by simp [hz]), nI_1]
      · rw [if_neg hz, if_pos (by simp [hz]), Int32.add_zero]; rfl
    · have : (zInto t k c).2.1 l = t.2.1 l := by
        show upd t.2.1 0 _ l = _
        unfold upd
        rw [if_neg h0]
      rw [this, h4 l hl]
      refine congrArg nI (fa_cnt_cong (fun j hj => ?_))
      show decide (¬ t.1 (64 * l + j) = 0) = decide (¬ (zInto t k c).1 (64 * l + j) = 0)
      rw [into_at t c hk hj, if_neg (by omega)]
/-- what holds while the table is made anew -/
def RpOk (M S : Nat) (g : zSegs) (t0 t : zTree) : Prop := TreeOk M S t ∧ tR t = tR t0 ∧ (∀ l k, 1 ≤ l → k < 64 → t.1 (64 * l + k) = t0.1 (64 * l + k)) ∧ ∀ k, k < 64 → ¬ t.1 k = 0 → inSeg g (t.1 k)
theorem RpOk.one {ρ M S s j : Nat} {g : zSegs} {t0 t : zTree} (h : RpOk M S g t0 t) (hg : SegOk ρ S g) (hM : M < 2 ^ 30) (hS : S < 2 ^ 30) (hs : s < 12) (hj : j < gN g s) : RpOk M S g t0 (zRp1 (nI M) t (g.1 (50 * s + j))) := by
  obtain ⟨h1, h2, h3, h4⟩ := h
  obtain ⟨r1, r2, r3, r4, r5, r6⟩ := hg.2.2.2.2.1 s hs j hj
  unfold zRp1
  by_cases c1 : cNum (g.1 (50 * s + j)) ≤ nI M
  · rw [if_pos c1]; exact ⟨h1, h2, h3, h4⟩
  · rw [if_neg c1]
    by_cases c2 : cNum (g.1 (50 * s + j)) ≤ cNum (t.1 (kN (g.1 (50 * s + j))))
    · rw [if_pos c2]; exact ⟨h1, h2, h3, h4⟩
    · rw [if_neg c2]
      have hgt : M < cnN (g.1 (50 * s + j)) := by
        rw [r3] at c1
        have : ¬ cnN (g.1 (50 * s + j)) ≤ M := fun q => c1 (nI_le q (by omega))
        omega
      refine ⟨h1.into2 (kN_lt _) ⟨kN_eq _, r3, hgt, r5, r6⟩, h2, fun l k hl hk => ?_, fun k hk hn => ?_⟩
      · rw [into_at t _ (kN_lt _) hk, if_neg (by omega)]; exact h3 l k hl hk
      · rw [into_tab] at hn ⊢
        by_cases q : k = kN (g.1 (50 * s + j))
        · rw [if_pos q]; exact ⟨s, j, hs, hj, rfl⟩
        · rw [if_neg q] at hn ⊢; exact h4 k hk hn
theorem RpOk.seg {ρ M S s : Nat} {g : zSegs} {t0 t : zTree} (h : RpOk M S g t0 t) (hg : SegOk ρ S g) (hM : M < 2 ^ 30) (hS : S < 2 ^ 30) (hs : s < 12) : ∀ j, j ≤ gN g s → RpOk M S g t0 (zRpS g (nI M) s t j)
  | 0, _ => h
  | j + 1, hj => (RpOk.seg h hg hM hS hs j (by omega)).one hg hM hS hs (by omega)
theorem RpOk.all {ρ M S : Nat} {g : zSegs} {t0 t : zTree} (h : RpOk M S g t0 t) (hg : SegOk ρ S g) (hM : M < 2 ^ 30) (hS : S < 2 ^ 30) : ∀ s, s ≤ 12 → RpOk M S g t0 (zRpA g (nI M) t s)
  | 0, _ => h
  | s + 1, hs => (RpOk.all h hg hM hS s (by omega)).seg hg hM hS (by omega) _ (Nat.le_refl _)
theorem TreeOk.wipe {M L S : Nat} {t : zTree} (h : TreeOk M L t) : TreeOk M S (zRp0 t) ∧ tR (zRp0 t) = tR t ∧ (∀ l k, 1 ≤ l → k < 64 → (zRp0 t).1 (64 * l + k) = t.1 (64 * l + k)) ∧ ∀ k, k < 64 → (zRp0 t).1 k = 0 := by
  obtain ⟨h1, h2, h3, h4⟩ := h
  have e1 : ∀ k, k < 64 → (zRp0 t).1 k = 0 := fun k hk => if_pos (by omega)
  have e2 : ∀ l k, 1 ≤ l → k < 64 → (zRp0 t).1 (64 * l + k) = t.1 (64 * l + k) := fun l k hl hk => if_neg (by omega)
  refine ⟨⟨h1, fun k hk => Or.inl (e1 k hk), fun l k a1 a2 hk => by rw [e2 l k a1 hk]; exact h3 l k a1 a2 hk, fun l hl => ?_⟩, rfl, e2, e1⟩
  by_cases h0 : l = 0
  · subst h0
    have : fa_cnt (fun k => zHas (zRp0 t).1 0 k) 64 = fa_cnt (fun _ => false) 64 := fa_cnt_cong (fun k hk => by
      show decide (¬ (zRp0 t).1 (64 * 0 + k) = 0) = false
      rw [show 64 * 0 + k = k by omega, e1 k hk]; rfl)
    rw [this]
    show upd t.2.1 0 0 0 = _
    rw [show fa_cnt (fun _ => false) 64 = 0 by decide]
    exact if_pos rfl
  · have : (zRp0 t).2.1 l = t.2.1 l := if_neg h0
    rw [this, h4 l hl]
    refine congrArg nI (fa_cnt_cong (fun j hj => ?_))
    show decide (¬ t.1 (64 * l + j) = 0) = decide (¬ (zRp0 t).1 (64 * l + j) = 0)
    rw [e2 l j (by omega) hj]
theorem zPr.crash {ρ β mo lm L S M B : Nat} {u : zState} (h : zP ρ β mo lm L S M B u) : zP ρ β mo lm S S M B (uCrash u) := by
  obtain ⟨h1, h2, h3, h4, h5, hg, ht, hR, hL, hC, hD, hT⟩ := h
  obtain ⟨a1, a2, a3, a4, a5, a6, a7⟩ := h5
  obtain ⟨hg2, hn2⟩ := hg.crash a5 (by omega)
  have ecut : uCut u = zOpL (zCo u.2.2.1 (nI S) 12) := by unfold uCut; rw [a2]
  rw [← ecut] at hg2 hn2
  obtain ⟨w1, w2, w3, w4⟩ := ht.wipe (S := S)
  have hrp : RpOk M S (uCut u) (zRp0 u.2.2.2.1) (zRpA (uCut u) (nI M) (zRp0 u.2.2.2.1) 12) := RpOk.all ⟨w1, rfl, fun _ _ _ _ => rfl, fun k hk hn => absurd (w4 k hk) hn⟩ hg2 (by omega) (by omega) 12 (Nat.le_refl _)
  obtain ⟨p1, p2, p3, p4⟩ := hrp
  have etree : (uCrash u).2.2.2.1 = zRpA (uCut u) (nI M) (zRp0 u.2.2.2.1) 12 := by
    show zRpA (uCut u) u.2.2.2.2.2.2.2.2 (zRp0 u.2.2.2.1) 12 = _
    rw [a3]
  have hnum : (if u.2.2.2.2.2.2.2.1 < u.2.2.2.2.2.2.2.2 then u.2.2.2.2.2.2.2.2 else u.2.2.2.2.2.2.2.1) = nI S := by
    rw [a2, a3, if_neg (nI_nlt a4 (by omega))]
  refine ⟨h1, h2, h3, h4, ⟨hnum, a2, a3, a4, Nat.le_refl _, by omega, a7⟩, hg2, by rw [etree]; exact p1, by rw [etree, p2, w2]; exact hR, ?_, ⟨⟨rfl, by show (0 : Int32).toNatClampNeg ≤ 50; decide⟩, ⟨rfl, Nat.le_refl _⟩, Or.inl rfl⟩, hD.tell _ _ _, hT⟩
  rw [etree]
  refine ⟨p4, fun k hk hl => ?_⟩
  have er : runCur (zRpA (uCut u) (nI M) (zRp0 u.2.2.2.1) 12).1 (tR (zRpA (uCut u) (nI M) (zRp0 u.2.2.2.1) 12)) k = runCur u.2.2.2.1.1 (tR u.2.2.2.1) k := by
    rw [p2, w2]
    exact runCur_c (fun l l1 l2 => by rw [p3 l k l1 hk, w3 l k l1 hk])
  rw [er] at hl ⊢
  have hl2 : u.1.2.1 < cLen (runCur u.2.2.2.1.1 (tR u.2.2.2.1) k) := hl
  obtain ⟨s, j, hs, hj, e⟩ := hL.2 k hk hl2
  have hne : ¬ runCur u.2.2.2.1.1 (tR u.2.2.2.1) k = 0 := fun q0 => by
    rw [q0, cLen_0, h2.1] at hl2
    exact absurd (n_b0 h2.2) (fun z => (fa_of_lt hl2).2.1 z)
  have hnumle : cnN (runCur u.2.2.2.1.1 (tR u.2.2.2.1) k) ≤ M := by
    rcases runCur_in u.2.2.2.1.1 k (tR u.2.2.2.1) with z | ⟨l, l1, l2, l3⟩
    · exact absurd z hne
    · rcases ht.2.2.1 l k l1 l2 hk with z | z
      · rw [l3] at hne; exact absurd z hne
      · rw [l3]; exact z.2.2.2.1
  refine ⟨s, j, hs, ?_, e⟩
  show j < gN (uCut u) s
  rw [hn2 s hs]
  have hr := hg.2.2.2.2.1 s hs j hj
  exact zCut_keep _ _ s j (by rw [hr.2.2.1, e]; exact nI_le (by omega) (by omega)) _ hj

/-! STORE gives a State with the invariant -/
theorem fill_in {n k : Nat} (g : Nat → Int32) (h : k < n) : fa_fill (fun _ => (0 : Int32)) g n k = 0 := fa_fill_in h
theorem zP_begin {ρ β mo lm B : Nat} (u : zState) (h1 : 50 ≤ ρ ∧ ρ ≤ 200) (h2 : β ≤ 40) (h3 : 2 ≤ mo ∧ mo ≤ 16) (h4 : 1 ≤ lm ∧ lm ≤ 4) (hB : B ≤ 400000) : zP ρ β mo lm 0 0 0 B (uBegin u (nI ρ) (nI β) (nI mo) (nI lm)) := by
  have hn : ∀ s, s < 12 → gN (zClr u.2.2.1) s = 0 := fun s hs => by
    show (fa_fill (fun _ => (0 : Int32)) u.2.2.1.2.1 12 s).toNatClampNeg = 0
    rw [fill_in _ hs]; decide
  have ho : gO (zClr u.2.2.1) = 0 := n_c0
  have hk : ∀ s, s < 12 → (zClr u.2.2.1).2.2.2.1 s = if s = 0 then 1 else 0 := fun s hs => by
    show upd (fa_fill (fun _ => (0 : Int32)) u.2.2.1.2.2.2.1 12) 0 1 s = _
    unfold upd
    by_cases q : s = 0
    · rw [if_pos q, if_pos q]
    · rw [if_neg q, if_neg q, fill_in _ hs]
  have hw : ∀ j, j < 384 → zWipes u.2.2.2.1.1 6 j = 0 := fun j hj => if_pos (by omega)
  have hR : tR (zWipes u.2.2.2.1.1 6, fa_fill (fun _ => (0 : Int32)) u.2.2.2.1.2.1 6, (0 : Int32)) = 0 := n_c0
  refine ⟨⟨rfl, h1⟩, ⟨rfl, h2⟩, ⟨rfl, h3⟩, ⟨rfl, h4⟩, ⟨rfl, rfl, rfl, Nat.le_refl _, Nat.le_refl _, Nat.zero_le _, hB⟩, ⟨⟨by show (0 : Int32) = nI (gO (zClr u.2.2.1)); rw [ho]; rfl, by show gO (zClr u.2.2.1) < 12; rw [ho]; decide⟩, fun s hs => ?_, fun s hs => ?_, fun s hs => ?_, fun s hs j hj => ?_, fun s hs i j hij hj => ?_⟩, ⟨⟨by show (0 : Int32) = nI (tR (zWipes u.2.2.2.1.1 6, fa_fill (fun _ => (0 : Int32)) u.2.2.2.1.2.1 6, (0 : Int32))); rw [hR]; rfl, by show tR (zWipes u.2.2.2.1.1 6, fa_fill (fun _ => (0 : Int32)) u.2.2.2.1.2.1 6, (0 : Int32)) < 6; rw [hR]; decide⟩, fun k hk => Or.inl (hw k (by omega)), fun l k a1 a2 hk => ?_, fun l hl => ?_⟩, by show tR (zWipes u.2.2.2.1.1 6, fa_fill (fun _ => (0 : Int32)) u.2.2.2.1.2.1 6, (0 : Int32)) ≤ lm; rw [hR]; omega, ⟨fun k hk hn => absurd (hw k (by omega)) hn, fun k hk hl => ?_⟩, ⟨⟨rfl, by show (0 : Int32).toNatClampNeg ≤ 50; decide⟩, ⟨rfl, Nat.le_refl _⟩, Or.inl rfl⟩, ⟨rfl, by show (0 : Int32).toNatClampNeg ≤ 30; decide⟩, 0, 0, rfl, rfl, by omega, by omega⟩
  · show fa_fill (fun _ => (0 : Int32)) u.2.2.1.2.1 12 s = nI (gN (zClr u.2.2.1) s) ∧ gN (zClr u.2.2.1) s ≤ 50
    rw [hn s hs, fill_in _ hs]; exact ⟨rfl, by omega⟩
  · show ((zClr u.2.2.1).2.2.2.1 s = 1 ↔ s = gO (zClr u.2.2.1)) ∧ _ ∧ ((zClr u.2.2.1).2.2.2.1 s = 0 → gN (zClr u.2.2.1) s = 0)
    show ((zClr u.2.2.1).2.2.2.1 s = 1 ↔ s = gO (zClr u.2.2.1)) ∧ ((zClr u.2.2.1).2.2.2.1 s = 0 ∨ (zClr u.2.2.1).2.2.2.1 s = 1 ∨ (zClr u.2.2.1).2.2.2.1 s = 2) ∧ ((zClr u.2.2.1).2.2.2.1 s = 0 → gN (zClr u.2.2.1) s = 0)
    rw [ho, hn s hs, hk s hs]
    by_cases q : s = 0
    · rw [if_pos q]; exact ⟨⟨fun _ => q, fun _ => rfl⟩, Or.inr (Or.inl rfl), fun _ => rfl⟩
    · rw [if_neg q]; exact ⟨⟨fun z => absurd z (by decide), fun z => absurd z q⟩, Or.inl rfl, fun _ => rfl⟩
  · show fa_fill (fun _ => (0 : Int32)) u.2.2.1.2.2.1 12 s = nI (gB (zClr u.2.2.1) s (gN (zClr u.2.2.1) s)) ∧ gB (zClr u.2.2.1) s (gN (zClr u.2.2.1) s) ≤ ρ
    rw [hn s hs, fill_in _ hs]; exact ⟨rfl, Nat.zero_le _⟩
  · have hj : j < gN (zClr u.2.2.1) s := hj
    rw [hn s hs] at hj; omega
  · have hj : j < gN (zClr u.2.2.1) s := hj
    rw [hn s hs] at hj; omega
  · have a2 : l ≤ tR (zWipes u.2.2.2.1.1 6, fa_fill (fun _ => (0 : Int32)) u.2.2.2.1.2.1 6, (0 : Int32)) := a2
    rw [hR] at a2; omega
  · have hl : l ≤ tR (zWipes u.2.2.2.1.1 6, fa_fill (fun _ => (0 : Int32)) u.2.2.2.1.2.1 6, (0 : Int32)) := hl
    rw [hR] at hl
    have h0 : l = 0 := by omega
    subst h0
    show fa_fill (fun _ => (0 : Int32)) u.2.2.2.1.2.1 6 0 = nI (fa_cnt (fun k => zHas (zWipes u.2.2.2.1.1 6) 0 k) 64)
    rw [fill_in _ (by decide)]
    have : fa_cnt (fun k => zHas (zWipes u.2.2.2.1.1 6) 0 k) 64 = fa_cnt (fun _ => false) 64 := fa_cnt_cong (fun k hk => by
      show decide (¬ zWipes u.2.2.2.1.1 6 (64 * 0 + k) = 0) = false
      rw [hw _ (by omega)]; rfl)
    rw [this, show fa_cnt (fun _ => false) 64 = 0 by decide]; rfl
  · have hl : nI β < cLen (runCur (zWipes u.2.2.2.1.1 6) (tR (zWipes u.2.2.2.1.1 6, fa_fill (fun _ => (0 : Int32)) u.2.2.2.1.2.1 6, (0 : Int32))) k) := hl
    rw [hR] at hl
    have hl : nI β < cLen 0 := hl
    rw [cLen_0] at hl
    exact absurd (n_b0 h2) (fun z => (fa_of_lt hl).2.1 z)
