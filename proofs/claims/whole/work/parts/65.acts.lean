/-! a text is what stands before its end -/
section CNG
variable {t t' : Nat → Int32} {N : Nat}
theorem pRunF_c {c c' : Nat → Bool} (h : ∀ j, j < N → c j = c' j) : ∀ n p, pRunF c N n p = pRunF c' N n p
  | 0, p => rfl
  | n + 1, p => by
    unfold pRunF
    by_cases hp : p < N
    · rw [h p hp, pRunF_c h n (p + 1)]
    · rw [if_neg (fun z => hp z.1), if_neg (fun z => hp z.1)]
theorem pRun_c {c c' : Nat → Bool} (h : ∀ j, j < N → c j = c' j) (p : Nat) : pRun c N p = pRun c' N p := pRunF_c h _ p
theorem pSk_c (h : ∀ j, j < N → t j = t' j) (p : Nat) : pSk t N p = pSk t' N p := pRun_c (fun j hj => by unfold isBl; rw [h j hj]) p
theorem wdE_c (h : ∀ j, j < N → t j = t' j) (p : Nat) : wdE t N p = wdE t' N p := pRun_c (fun j hj => by unfold isLw; rw [h j hj]) p
theorem nmB_c (h : ∀ j, j < N → t j = t' j) (p : Nat) : nmB t N p = nmB t' N p := pSk_c h p
theorem nmE_c (h : ∀ j, j < N → t j = t' j) (p : Nat) : nmE t N p = nmE t' N p := by
  unfold nmE
  rw [nmB_c h]
  exact pRun_c (fun j hj => by unfold isDg; rw [h j hj]) _
theorem pV_c (h : ∀ j, j < N → t j = t' j) (b : Nat) : ∀ n, b + n ≤ N → pV t b n = pV t' b n
  | 0, _ => rfl
  | n + 1, hn => by
    unfold pV
    rw [pV_c h b n (by omega), h (b + n) (by omega)]
theorem nmV_c (h : ∀ j, j < N → t j = t' j) {p : Nat} (hp : p ≤ N) : nmV t N p = nmV t' N p := by
  unfold nmV
  rw [nmB_c h, nmE_c h]
  have h1 := nmB_nmE t' N p
  have h2 := nmE_le t' hp
  exact pV_c h _ _ (by omega)
theorem nmOk_c (h : ∀ j, j < N → t j = t' j) {p : Nat} (hp : p ≤ N) (lo hi : Int32) : nmOk t N lo hi p = nmOk t' N lo hi p := by
  unfold nmOk
  rw [nmE_c h, nmB_c h, nmV_c h hp]
theorem nPos_c (h : ∀ j, j < N → t j = t' j) (e : Nat) : ∀ i, nPos t N e i = nPos t' N e i
  | 0 => rfl
  | i + 1 => by
    unfold nPos
    rw [nPos_c h e i, nmE_c h]
theorem nBad_c (h : ∀ j, j < N → t j = t' j) {e : Nat} (he : e ≤ N) (k : Nat) : nBad t N k e = nBad t' N k e := by
  unfold nBad
  have : (fun i => !(nOk t N k e i)) = (fun i => !(nOk t' N k e i)) := funext fun i => by
    unfold nOk
    rw [nPos_c h, nmOk_c h (nPos_le t' he i)]
  rw [this]
theorem isWd_c (h : ∀ j, j < N → t j = t' j) {e : Nat} (he : e ≤ N) (p i : Nat) : isWd t p e i = isWd t' p e i := by
  unfold isWd
  refine decide_eq_decide.mpr ⟨fun z => ⟨z.1, fun j hj => ?_⟩, fun z => ⟨z.1, fun j hj => ?_⟩⟩
  · rw [← h (p + j) (by omega)]; exact z.2 j hj
  · rw [h (p + j) (by omega)]; exact z.2 j hj
theorem wdK_c (h : ∀ j, j < N → t j = t' j) {p : Nat} (hp : p ≤ N) : wdK t N p = wdK t' N p := by
  unfold wdK
  rw [wdE_c h]
  have : (fun i => isWd t p (wdE t' N p) i) = (fun i => isWd t' p (wdE t' N p) i) := funext fun i => isWd_c h (pRun_le _ hp) p i
  rw [this]
theorem pkNo_c (h : ∀ j, j < N → t j = t' j) (e : Nat) : pkNo t N e = pkNo t' N e := by
  unfold pkNo
  rw [pSk_c h]
  by_cases c : pSk t' N e < N
  · unfold isDg
    rw [h _ c]
  · rw [decide_eq_false c, Bool.false_and, Bool.false_and]
theorem nAr_c (h : ∀ j, j < N → t j = t' j) {e : Nat} (he : e ≤ N) (k i : Nat) : nAr t N k e i = nAr t' N k e i := by
  unfold nAr
  rw [pkNo_c h, nPos_c h, nmV_c h (nPos_le t' he i)]
theorem nEnd_c (h : ∀ j, j < N → t j = t' j) (k e : Nat) : nEnd t N k e = nEnd t' N k e := by
  unfold nEnd
  rw [pkNo_c h, nPos_c h, pSk_c h]
theorem nEnd_le (t : Nat → Int32) {e : Nat} (he : e ≤ N) (k : Nat) : nEnd t N k e ≤ N := by
  unfold nEnd
  split
  · exact pSk_le _ he
  · exact nPos_le _ he _
theorem wdE_le (t : Nat → Int32) {p : Nat} (hp : p ≤ N) : wdE t N p ≤ N := pRun_le _ hp
theorem aWr_c (h : ∀ j, j < N → t j = t' j) {p : Nat} (hp : p ≤ N) : aWr t N p = aWr t' N p := by
  unfold aWr
  rw [wdK_c h hp, wdE_c h, pkNo_c h, nBad_c h (wdE_le t' hp), nPos_c h, nmB_c h]
theorem doT_c (h : ∀ j, j < N → t j = t' j) {p : Nat} (hp : p ≤ N) (v : zState) : doT t N p v = doT t' N p v := by
  unfold doT
  rw [wdK_c h hp, wdE_c h, nAr_c h (wdE_le t' hp), nAr_c h (wdE_le t' hp), nAr_c h (wdE_le t' hp), nAr_c h (wdE_le t' hp)]
/-- where the ACT behind n ACTS that end at p begins -/
def txX (t : Nat → Int32) (N n p : Nat) : Nat := if n = 0 then pSk t N p else pSk t N (pSk t N p + 1)
theorem txX_le (t : Nat → Int32) {n p : Nat} (h : pSk t N p < N) : txX t N n p ≤ N := by
  unfold txX
  split
  · omega
  · exact pSk_le _ (by omega)
theorem txX_c (h : ∀ j, j < N → t j = t' j) (n p : Nat) : txX t N n p = txX t' N n p := by
  unfold txX
  rw [pSk_c h, pSk_c h]
theorem txF_s (t : Nat → Int32) (N f n p : Nat) (v : zState) : txF t N (f + 1) n p v = (if ¬ pSk t N p < N then (-1, 0, n, v) else if 0 < n ∧ ¬ t (pSk t N p) = 59 then (nI (pSk t N p), 0, n, v) else if 14 ≤ n then (nI (txX t N n p), 0, n, v) else if 0 < aWr t N (txX t N n p) then (nI (aWr t N (txX t N n p) - 1), 0, n, v) else if (doT t N (txX t N n p) v).1 = 0 then txF t N f (n + 1) (nEnd t N (wdK t N (txX t N n p)) (wdE t N (txX t N n p))) (doT t N (txX t N n p) v).2 else (nI (txX t N n p), (doT t N (txX t N n p) v).1, n, v)) := rfl
theorem txF_c (h : ∀ j, j < N → t j = t' j) : ∀ (f n p : Nat) (v : zState), p ≤ N → txF t N f n p v = txF t' N f n p v
  | 0, _, _, _, _ => rfl
  | f + 1, n, p, v, hp => by
    rw [txF_s, txF_s, pSk_c h, txX_c h]
    by_cases c : pSk t' N p < N
    · have hX := txX_le t' (n := n) c
      rw [h _ c, aWr_c h hX, doT_c h hX, nEnd_c h, wdK_c h hX, wdE_c h, txF_c h f (n + 1) _ _ (nEnd_le t' (wdE_le t' hX) _)]
    · rw [if_pos c, if_pos c]
end CNG

/-! what holds of the state stays -/
theorem zPr.sync {R ρ β mo lm L S M B : Nat} {u : zState} (h : zPr R ρ β mo lm L S M B u) : zPr R ρ β mo lm L L M B (uSync u) := by
  obtain ⟨h1, h2, h3, h4, ⟨a1, a2, a3, a4, a5, a6, a7⟩, hr⟩ := h
  exact ⟨h1, h2, h3, h4, ⟨a1, a1, a3, by omega, Nat.le_refl _, a6, a7⟩, hr⟩
theorem okB.put {B k ln sd : Nat} {v : zState} (h : okB B v) (hB : B + 2 ≤ 400000) (hk : k < 64) (hl : ln ≤ 40) (hs : sd < 256) (hf : uFits v (4 + nI ln) = true) : okB (B + 2) (uPut v k ln sd) := by
  obtain ⟨ρ, β, mo, lm, L, S, M, h⟩ := h
  obtain ⟨S', M', h2⟩ := zPr.put (k := k) (sd := sd) h hB hk hl hs hf
  exact ⟨ρ, β, mo, lm, _, S', M', h2⟩
theorem okB.drop {B k : Nat} {v : zState} (h : okB B v) (hB : B + 2 ≤ 400000) (hk : k < 64) (hf : uFits v 4 = true) : okB (B + 2) (uDrop v k) := by
  obtain ⟨ρ, β, mo, lm, L, S, M, h⟩ := h
  obtain ⟨S', M', h2⟩ := zPr.drop (k := k) h hB hk hf
  exact ⟨ρ, β, mo, lm, _, S', M', h2⟩
theorem okB.sync {B : Nat} {v : zState} (h : okB B v) : okB B (uSync v) := by
  obtain ⟨ρ, β, mo, lm, L, S, M, h⟩ := h
  exact ⟨ρ, β, mo, lm, L, L, M, h.sync⟩
theorem okB.flush {B : Nat} {v : zState} (h : okB B v) : okB B (uFlush v) := by
  obtain ⟨ρ, β, mo, lm, L, S, M, h⟩ := h
  exact ⟨ρ, β, mo, lm, L, L, L, zPr.flush h⟩
theorem okB.crash {B : Nat} {v : zState} (h : okB B v) : okB B (uCrash v) := by
  obtain ⟨ρ, β, mo, lm, L, S, M, h⟩ := h
  exact ⟨ρ, β, mo, lm, S, S, M, zPr.crash h⟩
theorem okB.merge {B : Nat} {v : zState} (h : okB B v) : okB B (uMerge v) := by
  obtain ⟨ρ, β, mo, lm, L, S, M, h⟩ := h
  have h2 := zPr.merge h
  exact ⟨ρ, β, mo, lm, L, S, M, h2.mono (by have := h2.2.2.2.2.2.2.2.1; have := h.2.2.2.1; omega)⟩
theorem okB.quit {B : Nat} {v : zState} (h : okB B v) : okB B (uQuit v) := by
  obtain ⟨ρ, β, mo, lm, L, S, M, h⟩ := h
  exact ⟨ρ, β, mo, lm, L, S, M, zPr.quit h⟩
theorem okB.col {B n : Nat} {v : zState} (h : okB B v) (hB : B + n ≤ 400000) : okB (B + n) (uCol n v).2 := by
  obtain ⟨ρ, β, mo, lm, L, S, M, h⟩ := h
  obtain ⟨L', S', M', h2⟩ := zPr.col n h hB
  exact ⟨ρ, β, mo, lm, L', S', M', h2⟩
theorem okB.note {B : Nat} {v : zState} {x : Int32} (h : okB B v) (hx : x = -1 ∨ ∃ s : Nat, s < 12 ∧ x = nI s) (h0 : uRp v (uSel v x) = 0) : okB B (uNote v (uSel v x).toNatClampNeg) := by
  obtain ⟨ρ, β, mo, lm, L, S, M, h⟩ := h
  rcases uSel_ok v hx with e | ⟨s, hs, e⟩
  · rw [e] at h0
    unfold uRp at h0
    split at h0
    · rw [if_pos rfl] at h0; exact absurd h0 (by decide)
    · exact absurd h0 (by decide)
  · rw [e] at h0 ⊢
    rw [nI_clamp (by omega)]
    exact ⟨ρ, β, mo, lm, L, S, M, zPr.note h hs (uRp_0 hs h0).2⟩
theorem wdK_le (t : Nat → Int32) (N p : Nat) : wdK t N p ≤ 10 := fa_first_le _ _
theorem aWr_le (t : Nat → Int32) {N q : Nat} (hq : q ≤ N) : aWr t N q ≤ N + 1 := by
  unfold aWr
  split
  · omega
  · split
    · omega
    · split
      · have := nmB_le t (nPos_le t (wdE_le t hq) (nBad t N (wdK t N q) (wdE t N q)))
        omega
      · omega
theorem nums_ok {t : Nat → Int32} {N k e : Nat} (h : ¬ nBad t N k e < nN k) (i : Nat) (hi : i < nN k) : inR (nmV t N (nPos t N e i)) (nLo k i) (nHi k i) := by
  have hle : nBad t N k e ≤ nN k := fa_first_le _ _
  have := fa_first_no (fun i => !(nOk t N k e i)) (nN k) i (show i < nBad t N k e by omega)
  have h2 : nOk t N k e i = true := by
    cases q : nOk t N k e i with
    | true => rfl
    | false =>
      have this : (!(nOk t N k e i)) = false := this
      rw [q] at this; exact absurd this (by decide)
  exact nmOk_in h2
theorem doA_pos (v : zState) (k : Nat) (a b c d : Int32) : ¬ (doA v k a b c d).1 < 0 := by
  unfold doA
  split
  · show ¬ (0 : Int32) < 0; decide
  · split
    · show ¬ (0 : Int32) < 0; decide
    · show ¬ (1 : Int32) < 0; decide
  · split
    · split
      · show ¬ (0 : Int32) < 0; decide
      · show ¬ (2 : Int32) < 0; decide
    · show ¬ (1 : Int32) < 0; decide
  · show ¬ (0 : Int32) < 0; decide
  · show ¬ (0 : Int32) < 0; decide
  · show ¬ (0 : Int32) < 0; decide
  · split
    · show ¬ (0 : Int32) < 0; decide
    · exact uRp_pos _ _
  · split
    · show ¬ (0 : Int32) < 0; decide
    · show ¬ uRst v a.toNatClampNeg < 0
      unfold uRst
      split
      · decide
      · exact uRs_pos _ _ _
  · split
    · show ¬ (5 : Int32) < 0; decide
    · show ¬ (0 : Int32) < 0; decide
  · show ¬ (0 : Int32) < 0; decide
theorem aWr_0 {t : Nat → Int32} {N q : Nat} (h : aWr t N q = 0) : wdK t N q < 10 ∧ (¬ (wdK t N q = 6 ∧ pkNo t N (wdE t N q) = true) → ¬ nBad t N (wdK t N q) (wdE t N q) < nN (wdK t N q)) := by
  have hle := wdK_le t N q
  unfold aWr at h
  by_cases c : wdK t N q = 10
  · rw [if_pos c] at h; omega
  · rw [if_neg c] at h
    refine ⟨by omega, fun c2 c3 => ?_⟩
    rw [if_neg c2, if_pos c3] at h
    omega
/-- an ACT of a text done: what holds stays -/
theorem okB_doT {t : Nat → Int32} {N q B : Nat} {v : zState} (hv : okB B v) (hB : B + 20 ≤ 400000) (ha : aWr t N q = 0) (h0 : (doT t N q v).1 = 0) : okB (B + 20) (doT t N q v).2 := by
  obtain ⟨hk, hn⟩ := aWr_0 ha
  unfold doT at h0 ⊢
  generalize wdE t N q = e at hn h0 ⊢
  generalize wdK t N q = k at hk hn h0 ⊢
  by_cases h6 : k = 6
  · subst h6
    generalize hx : nAr t N 6 e 0 = x at h0 ⊢
    have hx2 : x = -1 ∨ ∃ s : Nat, s < 12 ∧ x = nI s := by
      unfold nAr at hx
      by_cases c : pkNo t N e = true
      · rw [if_pos ⟨rfl, c⟩] at hx; exact Or.inl hx.symm
      · rw [if_neg (fun z => c z.2)] at hx
        have := nums_ok (hn (fun z => c z.2)) 0 (by decide)
        rw [hx] at this
        obtain ⟨s, hs, es, -⟩ := seg_n this
        exact Or.inr ⟨s, hs, es⟩
    rw [doAe_6] at h0 ⊢
    by_cases c : uRp v (uSel v x) = 0
    · rw [if_pos c]
      exact (hv.note hx2 c).mono (by omega) hB
    · rw [if_neg c] at h0; exact absurd h0 c
  · have hn := hn (fun z => h6 z.1)
    rw [nAr_n h6, nAr_n h6, nAr_n h6, nAr_n h6] at h0 ⊢
    obtain ⟨A, eA⟩ : ∃ A : Nat → Int32, ∀ i, nmV t N (nPos t N e i) = A i := ⟨_, fun _ => rfl⟩
    have hA : ∀ i, i < nN k → inR (A i) (nLo k i) (nHi k i) := fun i hi => by rw [← eA]; exact nums_ok hn i hi
    rw [eA 0, eA 1, eA 2, eA 3] at h0 ⊢
    clear hn eA ha
    rcases (show k = 0 ∨ k = 1 ∨ k = 2 ∨ k = 3 ∨ k = 4 ∨ k = 5 ∨ k = 7 ∨ k = 8 ∨ k = 9 by omega) with rfl | rfl | rfl | rfl | rfl | rfl | rfl | rfl | rfl
    · have i0 : inR (A 0) 50 200 := hA 0 (by decide)
      have i1 : inR (A 1) 0 40 := hA 1 (by decide)
      have i2 : inR (A 2) 2 16 := hA 2 (by decide)
      have i3 : inR (A 3) 1 4 := hA 3 (by decide)
      exact okB_begin v hB ⟨i0, i1, i2, i3⟩
    · have i0 : inR (A 0) 0 63 := hA 0 (by decide)
      have i1 : inR (A 1) 1 40 := hA 1 (by decide)
      have i2 : inR (A 2) 0 255 := hA 2 (by decide)
      obtain ⟨ka, hka, -, ea⟩ := key_n i0
      obtain ⟨ln, hl1, hl2, el, el'⟩ := inR_n (a := 1) (b := 40) (by decide) (by decide) i1
      obtain ⟨sd, -, hs2, -, es⟩ := inR_n (a := 0) (b := 255) (by decide) (by decide) i2
      rw [doAe_1] at h0 ⊢
      by_cases c : uFits v (4 + A 1) = true
      · rw [if_pos c, ea, el', es]
        exact (hv.put (by omega) hka hl2 (by omega) (by rw [← el]; exact c)).mono (by omega) hB
      · rw [if_neg c] at h0; exact absurd h0 (show ¬ (1 : Int32) = 0 by decide)
    · have i0 : inR (A 0) 0 63 := hA 0 (by decide)
      obtain ⟨ka, hka, -, ea⟩ := key_n i0
      rw [doAe_2] at h0 ⊢
      by_cases c : uFits v 4 = true
      · rw [if_pos c] at h0 ⊢
        by_cases c2 : uVal v (A 0).toNatClampNeg = true
        · rw [if_pos c2, ea]
          exact (hv.drop (by omega) hka c).mono (by omega) hB
        · rw [if_neg c2] at h0; exact absurd h0 (show ¬ (2 : Int32) = 0 by decide)
      · rw [if_neg c] at h0; exact absurd h0 (show ¬ (1 : Int32) = 0 by decide)
    · exact hv.sync.mono (by omega) hB
    · exact hv.flush.mono (by omega) hB
    · exact hv.crash.mono (by omega) hB
    · have i0 : inR (A 0) 1 20 := hA 0 (by decide)
      obtain ⟨n, hn1, hn2, -, en⟩ := inR_n (a := 1) (b := 20) (by decide) (by decide) i0
      rw [doAe_7] at h0 ⊢
      by_cases c : uRst v (A 0).toNatClampNeg = 0
      · rw [if_pos c, en]
        exact (hv.col (by omega)).mono (by omega) hB
      · rw [if_neg c] at h0; exact absurd h0 c
    · rw [doAe_8] at h0 ⊢
      by_cases c : v.2.2.2.2.1.2.1 = -1
      · rw [if_pos c] at h0; exact absurd h0 (show ¬ (5 : Int32) = 0 by decide)
      · rw [if_neg c]
        exact hv.quit.mono (by omega) hB
    · exact hv.merge.mono (by omega) hB
/-- a text done: what holds stays -/
theorem okB_txF {t : Nat → Int32} {N : Nat} : ∀ (f n p : Nat) {B : Nat} {v : zState}, okB B v → n ≤ 14 → B + 20 * (14 - n) ≤ 400000 → okB (B + 20 * (14 - n)) (txF t N f n p v).2.2.2
  | 0, n, p, B, v, hv, hn, hB => hv.mono (by omega) hB
  | f + 1, n, p, B, v, hv, hn, hB => by
    have hv' : okB (B + 20 * (14 - n)) v := hv.mono (by omega) hB
    rw [txF_s]
    split
    · exact hv'
    · split
      · exact hv'
      · split
        · exact hv'
        · split
          · exact hv'
          · rename_i c3 c4
            split
            · rename_i c5
              have h2 := okB_doT hv (by omega) (by omega) c5
              have := okB_txF (t := t) (N := N) f (n + 1) (nEnd t N (wdK t N (txX t N n p)) (wdE t N (txX t N n p))) h2 (by omega) (by omega)
              rw [show B + 20 * (14 - n) = B + 20 + 20 * (14 - (n + 1)) by omega]
              exact this
            · exact hv'
