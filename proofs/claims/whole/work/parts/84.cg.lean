/-! the class stands for G -/
def cMem (un : Nat → zState) (n : Nat) (m : zMem) : Prop := ∃ f : Nat, f < 8 ∧ m.2.1 = nI f ∧ m.2.2 = nI n ∧ ∀ i, i < n → m.1 ((f + i) % 8) = un i
def cGr (G : zG) (u : zCls) : Prop := u.2.2.2.1 = gIs G ∧ (gIs G = 1 → u.2.2.1 = gKept G) ∧ cMem (gUn G) (gUnN G) u.2.2.2.2.1 ∧ (u.2.2.2.2.2.1.2.2.1 = nI (gTpN G) ∧ ∀ j, j < gTpN G → u.2.2.2.2.2.1.1 j = gTp G j) ∧ u.2.2.2.2.2.2.2.1 = gWr G
def cG (G : zG) (u : zCls) : Prop := u.1 = gNow G ∧ cGr G u ∧ u.2.2.2.2.2.2.2.2 = gWy G
theorem cMem.push {un : Nat → zState} {n f : Nat} {m : zMem} (hn : n ≤ 8) (hf : f < 8) (e1 : m.2.1 = nI f) (h : ∀ i, i < n → m.1 ((f + i) % 8) = un i) (v : zState) : cMem (pushU un n v) (pushN n) (mRem m f n v) := by
  unfold mRem pushN pushU
  by_cases h8 : n = 8
  · rw [if_pos h8, if_pos h8]
    refine ⟨(f + 1) % 8, Nat.mod_lt _ (by decide), rfl, rfl, fun i hi => ?_⟩
    show updS m.1 f v (((f + 1) % 8 + i) % 8) = (if n = 8 then if i = 7 then v else un (i + 1) else if i = n then v else un i)
    rw [if_pos h8]
    by_cases h7 : i = 7
    · rw [if_pos h7, show ((f + 1) % 8 + i) % 8 = f by omega, updS_eq]
    · rw [if_neg h7, updS_ne (by omega), show ((f + 1) % 8 + i) % 8 = (f + (i + 1)) % 8 by omega]
      exact h (i + 1) (by omega)
  · rw [if_neg h8, if_neg h8]
    refine ⟨f, hf, rfl, rfl, fun i hi => ?_⟩
    show updS m.1 ((f + n) % 8) v ((f + i) % 8) = (if n = 8 then if i = 7 then v else un (i + 1) else if i = n then v else un i)
    rw [if_neg h8]
    by_cases h7 : i = n
    · rw [if_pos h7, h7, updS_eq]
    · rw [if_neg h7, updS_ne (by omega)]
      exact h i (by omega)
theorem getReady_of {B : Nat} {G : zG} {u : zCls} {Q : zCls → Prop} (hG : okG B G) (hc : cG G u) (h : ∀ u' : zCls, u'.1 = gNow G → (∀ v : zState, cG (gAct G v) (v, u'.2)) → Q u') : s_X10_getReady u Q := by
  obtain ⟨c1, ⟨c2, c3, ⟨f, hf, m1, m2, m3⟩, c5, c6⟩, c7⟩ := hc
  refine ⟨f, gUnN G, hf, hG.2.2.1.1, m1, m2, h _ c1 (fun v => ⟨rfl, ⟨c2, c3, ?_, c5, c6⟩, rfl⟩)⟩
  have := cMem.push (m := u.2.2.2.2.1) hG.2.2.1.1 hf m1 m3 u.1
  rw [c1] at this ⊢
  exact this
/-! ACTS: what stands behind a word, refused and done -/
def aOkA (k : Nat) (a b c d : Int32) : Prop := match k with
  | 0 => inR a 50 200 ∧ inR b 0 40 ∧ inR c 2 16 ∧ inR d 1 4
  | 1 => inR a 0 63 ∧ inR b 1 40 ∧ inR c 0 255
  | 2 => inR a 0 63
  | 6 => a = -1 ∨ inR a 0 11
  | 7 => inR a 1 20
  | _ => True
/-- what a call of it answers -/
def doN (v : zState) (k : Nat) (a b c d : Int32) : Int32 := match k with
  | 0 => nI (uFree (uBegin v a b c d))
  | 1 => v.2.2.2.2.2.2.1 + 1
  | 2 => v.2.2.2.2.2.2.1 + 1
  | 3 => v.2.2.2.2.2.2.1 - v.2.2.2.2.2.2.2.1
  | 4 => (uFlush v).2.2.2.1.2.2
  | 5 => nI (zGone v.2.2.1 v.2.2.2.2.2.2.2.1 12)
  | 6 => nI (uNt v (uSel v a).toNatClampNeg (cN v (uSel v a).toNatClampNeg)).2
  | 7 => nI (uCol a.toNatClampNeg v).1
  | 8 => v.2.2.2.2.1.2.2.1 - v.2.2.2.2.1.2.2.2
  | _ => uMgN v
theorem sel_in {a : Int32} (h : a = -1 ∨ inR a 0 11) : a = -1 ∨ ∃ s : Nat, s < 12 ∧ a = nI s := h.imp id (fun q => by obtain ⟨n, h1, h2, -⟩ := seg_n q; exact ⟨n, h1, h2⟩)
theorem ne1 {a b : Int32} (h : (a = b) = False) : ¬ a = b := fun q => h ▸ q
set_option maxRecDepth 4000 in
theorem ref_of {B k : Nat} {v : zState} {a b c d : Int32} {Q : Int32 → Prop} (hv : okB B v) (hk : k < 10) (ha : aOkA k a b c d) (hQ : Q (doA v k a b c d).1) : s_X5_refusalOf v (nI k) a b Q := by
  have ho := hv.ok
  unfold s_X5_refusalOf
  rcases (show k = 0 ∨ k = 1 ∨ k = 2 ∨ k = 3 ∨ k = 4 ∨ k = 5 ∨ k = 6 ∨ k = 7 ∨ k = 8 ∨ k = 9 by omega) with rfl | rfl | rfl | rfl | rfl | rfl | rfl | rfl | rfl | rfl
  · exact ⟨fun q => absurd q (by decide), fun _ => ⟨fun q => absurd q (by decide), fun _ => ⟨fun q => absurd q (by decide), fun _ => ⟨fun q => absurd q (by decide), fun _ => ⟨fun q => absurd q (by decide), fun _ => ⟨fun q => absurd q (by decide), fun _ => ⟨fun q => absurd q (by decide), fun _ => ⟨fun q => absurd q (by decide), fun _ => hQ⟩⟩⟩⟩⟩⟩⟩⟩
  · rw [doAe_1] at hQ
    refine ⟨fun _ => ⟨ho, fun hf => ⟨fun q => absurd q (by decide), fun _ => ?_⟩, fun hf => ⟨fun _ => ?_, fun q => absurd rfl q⟩⟩, fun q => absurd (by decide) q⟩
    · rw [if_pos hf] at hQ; exact hQ
    · rw [if_neg (by rw [hf]; decide)] at hQ; exact hQ
  · rw [doAe_2] at hQ
    obtain ⟨n, hn, rfl, en⟩ := key_n ha
    rw [en] at hQ
    refine ⟨fun q => absurd q (by decide), fun _ => ⟨fun _ => ⟨ho, fun hf => ⟨fun _ => ⟨ho, n, hn, rfl, fun hq => ⟨fun q => absurd q (by decide), fun _ => ?_⟩, fun hq => ⟨fun _ => ?_, fun q => absurd rfl q⟩⟩, fun q => absurd q (by decide)⟩, fun hf => ⟨fun q => absurd rfl q, fun _ => ?_⟩⟩, fun q => absurd (by decide) q⟩⟩
    · rw [if_pos hf, if_pos hq] at hQ; exact hQ
    · rw [if_pos hf, if_neg (by rw [hq]; decide)] at hQ; exact hQ
    · rw [if_neg (by rw [hf]; decide)] at hQ; exact hQ
  · exact ⟨fun q => absurd q (by decide), fun _ => ⟨fun q => absurd q (by decide), fun _ => ⟨fun _ => hQ, fun q => absurd (by decide) q⟩⟩⟩
  · exact ⟨fun q => absurd q (by decide), fun _ => ⟨fun q => absurd q (by decide), fun _ => ⟨fun q => absurd q (by decide), fun _ => ⟨fun _ => hQ, fun q => absurd (by decide) q⟩⟩⟩⟩
  · exact ⟨fun q => absurd q (by decide), fun _ => ⟨fun q => absurd q (by decide), fun _ => ⟨fun q => absurd q (by decide), fun _ => ⟨fun q => absurd q (by decide), fun _ => ⟨fun _ => hQ, fun q => absurd (by decide) q⟩⟩⟩⟩⟩
  · rw [doAe_6] at hQ
    have hQ : Q (uRp v (uSel v a)) := by
      by_cases c0 : uRp v (uSel v a) = 0
      · rw [if_pos c0] at hQ; rw [c0]; exact hQ
      · rw [if_neg c0] at hQ; exact hQ
    have hs := uSel_ok v (sel_in ha)
    refine ⟨fun q => absurd q (by decide), fun _ => ⟨fun q => absurd q (by decide), fun _ => ⟨fun q => absurd q (by decide), fun _ => ⟨fun q => absurd q (by decide), fun _ => ⟨fun q => absurd q (by decide), fun _ => ⟨fun _ => ⟨fun c1 => ⟨?_, ?_⟩, fun c1 => ⟨ho, ?_, ?_⟩⟩, fun q => absurd (by decide) q⟩⟩⟩⟩⟩⟩
    · rw [show uSel v a = a from if_neg c1] at hs; exact hs
    · rw [show uSel v a = a from if_neg c1] at hQ; exact hQ
    · rw [show uSel v a = (uPoor v 12).1 from if_pos c1] at hs; exact hs
    · rw [show uSel v a = (uPoor v 12).1 from if_pos c1] at hQ; exact hQ
  · rw [doAe_7] at hQ
    obtain ⟨n, h1, h2, rfl, en⟩ := inR_n (a := 1) (b := 20) (by decide) (by decide) ha
    rw [en] at hQ
    have hQ : Q (uRst v n) := by
      by_cases c0 : uRst v n = 0
      · rw [if_pos c0] at hQ; rw [c0]; exact hQ
      · rw [if_neg c0] at hQ; exact hQ
    obtain ⟨ρ, β, mo, lm, L, S, M, hP⟩ := hv
    have hC := hP.2.2.2.2.2.2.2.2.2.1
    exact ⟨fun q => absurd q (by decide), fun _ => ⟨fun q => absurd q (by decide), fun _ => ⟨fun q => absurd q (by decide), fun _ => ⟨fun q => absurd q (by decide), fun _ => ⟨fun q => absurd q (by decide), fun _ => ⟨fun q => absurd q (by decide), fun _ => ⟨fun _ => ⟨n, by omega, rfl, ho, hC.1, hC.2.1, hQ⟩, fun q => absurd (by decide) q⟩⟩⟩⟩⟩⟩⟩
  · rw [doAe_8] at hQ
    refine ⟨fun q => absurd q (by decide), fun _ => ⟨fun q => absurd q (by decide), fun _ => ⟨fun q => absurd q (by decide), fun _ => ⟨fun q => absurd q (by decide), fun _ => ⟨fun q => absurd q (by decide), fun _ => ⟨fun q => absurd q (by decide), fun _ => ⟨fun q => absurd q (by decide), fun _ => ⟨fun _ => ⟨fun c1 => ⟨fun _ => ?_, fun q => absurd rfl q⟩, fun c1 => ⟨fun q => absurd q (by decide), fun _ => ?_⟩⟩, fun q => absurd (by decide) q⟩⟩⟩⟩⟩⟩⟩⟩
    · rw [if_pos c1] at hQ; exact hQ
    · rw [if_neg c1] at hQ; exact hQ
  · exact ⟨fun q => absurd q (by decide), fun _ => ⟨fun q => absurd q (by decide), fun _ => ⟨fun q => absurd q (by decide), fun _ => ⟨fun q => absurd q (by decide), fun _ => ⟨fun q => absurd q (by decide), fun _ => ⟨fun q => absurd q (by decide), fun _ => ⟨fun q => absurd q (by decide), fun _ => ⟨fun q => absurd q (by decide), fun _ => hQ⟩⟩⟩⟩⟩⟩⟩⟩
set_option maxRecDepth 4000 in
theorem perf_of {B k : Nat} {v : zState} {a b c d : Int32} {Q : Int32 → zState → Prop} (hv : okB B v) (hB : B + 20 ≤ 400000) (hk : k < 10) (ha : aOkA k a b c d) (h0 : (doA v k a b c d).1 = 0) (hQ : Q (doN v k a b c d) (doA v k a b c d).2) : s_X5_perform v (nI k) a b c d Q := by
  have ho := hv.ok
  obtain ⟨ρ, β, mo, lm, L, S, M, hP⟩ := hv
  have hC := hP.2.2.2.2.2.2.2.2.2.1
  have hDi := hP.2.2.2.2.2.2.2.2.2.2.1
  unfold s_X5_perform
  rcases (show k = 0 ∨ k = 1 ∨ k = 2 ∨ k = 3 ∨ k = 4 ∨ k = 5 ∨ k = 6 ∨ k = 7 ∨ k = 8 ∨ k = 9 by omega) with rfl | rfl | rfl | rfl | rfl | rfl | rfl | rfl | rfl | rfl
  · exact ⟨fun _ => hQ, fun q => absurd (by decide) q⟩
  · rw [doAe_1] at h0 hQ
    obtain ⟨i1, i2, i3⟩ := ha
    obtain ⟨n, hn, rfl, en⟩ := key_n i1
    obtain ⟨ln, hl1, hl2, rfl, el⟩ := inR_n (a := 1) (b := 40) (by decide) (by decide) i2
    obtain ⟨sd, -, hs2, rfl, es⟩ := inR_n (a := 0) (b := 255) (by decide) (by decide) i3
    have hf : uFits v (4 + nI ln) = true := by
      cases q : uFits v (4 + nI ln) with
      | true => rfl
      | false => rw [if_neg (by rw [q]; decide)] at h0; exact absurd h0 (show ¬ (1 : Int32) = 0 by decide)
    rw [if_pos hf, en, el, es] at hQ
    refine ⟨fun q => absurd q (by decide), fun _ => ⟨fun _ x ex => ?_, fun q => absurd (by decide) q⟩⟩
    subst ex
    have hP1 : zP ρ β mo lm L S M (B + 1) (uTold v (4 + nI ln)) := by rw [z4n]; exact hP.told (by omega) (by omega)
    exact ⟨ρ, β, mo, lm, L, S, M, B + 1, n, ln, sd, hP1, by omega, hn, hl2, by omega, rfl, rfl, rfl, by show uFits (uTold v _) _ = true; rw [uFits_told]; exact hf, hQ⟩
  · rw [doAe_2] at h0 hQ
    obtain ⟨n, hn, rfl, en⟩ := key_n ha
    rw [en] at h0 hQ
    have hf : uFits v 4 = true := by
      cases q : uFits v 4 with
      | true => rfl
      | false => rw [if_neg (by rw [q]; decide)] at h0; exact absurd h0 (show ¬ (1 : Int32) = 0 by decide)
    rw [if_pos hf] at h0 hQ
    have hq : uVal v n = true := by
      cases q : uVal v n with
      | true => rfl
      | false => rw [if_neg (by rw [q]; decide)] at h0; exact absurd h0 (show ¬ (2 : Int32) = 0 by decide)
    rw [if_pos hq] at hQ
    refine ⟨fun q => absurd q (by decide), fun _ => ⟨fun q => absurd q (by decide), fun _ => ⟨fun _ x ex => ?_, fun q => absurd (by decide) q⟩⟩⟩
    subst ex
    have hP1 : zP ρ β mo lm L S M (B + 1) (uTold v 4) := hP.told (z := 4) (by omega) (by omega)
    exact ⟨ρ, β, mo, lm, L, S, M, B + 1, n, 0, 0, hP1, by omega, hn, by omega, by omega, rfl, rfl, rfl, by show uFits (uTold v _) _ = true; rw [uFits_told]; exact hf, hQ⟩
  · refine ⟨fun q => absurd q (by decide), fun _ => ⟨fun q => absurd q (by decide), fun _ => ⟨fun q => absurd q (by decide), fun _ => ⟨fun _ x ex y ey => ?_, fun q => absurd (by decide) q⟩⟩⟩⟩
    subst ex
    subst ey
    exact hQ
  · refine ⟨fun q => absurd q (by decide), fun _ => ⟨fun q => absurd q (by decide), fun _ => ⟨fun q => absurd q (by decide), fun _ => ⟨fun q => absurd q (by decide), fun _ => ⟨fun _ => ⟨⟨ho, hDi, ?_⟩, hQ⟩, fun q => absurd (by decide) q⟩⟩⟩⟩⟩
    have h1 : rN v ≤ lm := hP.2.2.2.2.2.2.2.1
    have h2 := hP.2.2.2.1.2.2
    omega
  · exact ⟨fun q => absurd q (by decide), fun _ => ⟨fun q => absurd q (by decide), fun _ => ⟨fun q => absurd q (by decide), fun _ => ⟨fun q => absurd q (by decide), fun _ => ⟨fun q => absurd q (by decide), fun _ => ⟨fun _ => ⟨ho, hDi, hQ⟩, fun q => absurd (by decide) q⟩⟩⟩⟩⟩⟩
  · rw [doAe_6] at h0 hQ
    have c0 : uRp v (uSel v a) = 0 := by
      by_cases c0 : uRp v (uSel v a) = 0
      · exact c0
      · rw [if_neg c0] at h0; exact h0
    rw [if_pos c0] at hQ
    have hs : ∃ s : Nat, s < 12 ∧ uSel v a = nI s := by
      rcases uSel_ok v (sel_in ha) with e | e
      · rw [e] at c0
        unfold uRp at c0
        split at c0
        · rw [if_pos rfl] at c0; exact absurd c0 (by decide)
        · exact absurd c0 (by decide)
      · exact e
    obtain ⟨s, hs, es⟩ := hs
    have hQ : Q (nI (uNt v (uSel v a).toNatClampNeg (cN v (uSel v a).toNatClampNeg)).2) (uNote v (uSel v a).toNatClampNeg) := hQ
    rw [es, nI_clamp (by omega)] at hQ
    refine ⟨fun q => absurd q (by decide), fun _ => ⟨fun q => absurd q (by decide), fun _ => ⟨fun q => absurd q (by decide), fun _ => ⟨fun q => absurd q (by decide), fun _ => ⟨fun q => absurd q (by decide), fun _ => ⟨fun q => absurd q (by decide), fun _ => ⟨fun _ => ⟨fun c1 => ⟨ho, s, hs, ?_, hQ⟩, fun c1 => ⟨ho, ho, s, hs, ?_, hQ⟩⟩, fun q => absurd (by decide) q⟩⟩⟩⟩⟩⟩⟩
    · rw [← es]; exact (if_neg c1).symm
    · rw [← es]; exact (if_pos c1).symm
  · rw [doAe_7] at h0 hQ
    obtain ⟨n, h1, h2, rfl, en⟩ := inR_n (a := 1) (b := 20) (by decide) (by decide) ha
    rw [en] at h0 hQ
    have c0 : uRst v n = 0 := by
      by_cases c0 : uRst v n = 0
      · exact c0
      · rw [if_neg c0] at h0; exact h0
    rw [if_pos c0] at hQ
    have hQ : Q (nI (uCol (nI n).toNatClampNeg v).1) (uCol n v).2 := hQ
    rw [en] at hQ
    exact ⟨fun q => absurd q (by decide), fun _ => ⟨fun q => absurd q (by decide), fun _ => ⟨fun q => absurd q (by decide), fun _ => ⟨fun q => absurd q (by decide), fun _ => ⟨fun q => absurd q (by decide), fun _ => ⟨fun q => absurd q (by decide), fun _ => ⟨fun q => absurd q (by decide), fun _ => ⟨fun _ => ⟨ρ, β, mo, lm, L, S, M, B, n, hP, by omega, by omega, rfl, hQ⟩, fun q => absurd (by decide) q⟩⟩⟩⟩⟩⟩⟩⟩
  · rw [doAe_8] at h0 hQ
    have c0 : ¬ v.2.2.2.2.1.2.1 = -1 := fun c1 => by
      rw [if_pos c1] at h0
      exact absurd h0 (show ¬ (5 : Int32) = 0 by decide)
    rw [if_neg c0] at hQ
    exact ⟨fun q => absurd q (by decide), fun _ => ⟨fun q => absurd q (by decide), fun _ => ⟨fun q => absurd q (by decide), fun _ => ⟨fun q => absurd q (by decide), fun _ => ⟨fun q => absurd q (by decide), fun _ => ⟨fun q => absurd q (by decide), fun _ => ⟨fun q => absurd q (by decide), fun _ => ⟨fun q => absurd q (by decide), fun _ => ⟨fun _ => hQ, fun q => absurd (by decide) q⟩⟩⟩⟩⟩⟩⟩⟩⟩
  · exact ⟨fun q => absurd q (by decide), fun _ => ⟨fun q => absurd q (by decide), fun _ => ⟨fun q => absurd q (by decide), fun _ => ⟨fun q => absurd q (by decide), fun _ => ⟨fun q => absurd q (by decide), fun _ => ⟨fun q => absurd q (by decide), fun _ => ⟨fun q => absurd q (by decide), fun _ => ⟨fun q => absurd q (by decide), fun _ => ⟨fun q => absurd q (by decide), fun _ => ⟨fun _ => ⟨⟨ho, hDi⟩, hQ⟩, fun q => absurd (by decide) q⟩⟩⟩⟩⟩⟩⟩⟩⟩⟩
/-- an ACT by a call, whose numbers are right -/
def fAct (G : zG) (k : Nat) (a b c d code : Int32) : Int32 × Int32 × zG := if (doA (gNow G) k a b c d).1 = 0 then (0, doN (gNow G) k a b c d, gAct G (doA (gNow G) k a b c d).2) else (code, 0, gNo G (doA (gNow G) k a b c d).1)
/-- what a call leaves: its answer, or what it throws -/
def cOut (r : Int32 × Int32 × zG) (ex : Int32 → String) (Q : Int32 → zCls → Prop) (QX : String → zCls → Prop) : Prop := ∀ u' : zCls, cG r.2.2 u' → (r.1 = 0 → Q r.2.1 u') ∧ (¬ r.1 = 0 → QX (ex r.1) u')
def exO (a b c : Nat) (x : Int32) : String := if x = 1 then exC a else if x = 2 then exC b else exC c
theorem cact_of {B k : Nat} {G : zG} {u : zCls} {a b c d code : Int32} {ex : Int32 → String} {Q : Int32 → zCls → Prop} {QX : String → zCls → Prop} (hG : okG B G) (hB : B + 20 ≤ 400000) (hc : cG G u) (hk : k < 10) (ha : aOkA k a b c d) (hcode : ¬ code = 0) (hex : ex code = "java/lang/IllegalStateException") (h : cOut (fAct G k a b c d code) ex Q QX) : s_X5_refusalOf u.1 (nI k) a b (fun r => s_X10_lookAtRefusal u r (fun u' => s_X5_perform u'.1 (nI k) a b c d (fun r4 u4 => Q r4 (u4, u'.2))) (fun E u' => QX E u')) := by
  have c1 : u.1 = gNow G := hc.1
  rw [c1]
  refine ref_of hG.1 hk ha ⟨fun h0 => getReady_of hG hc (fun u' e1 hv => ?_), fun h0 => ?_⟩
  · show s_X5_perform u'.1 (nI k) a b c d (fun r4 u4 => Q r4 (u4, u'.2))
    rw [e1]
    refine perf_of hG.1 hB hk ha h0 ?_
    unfold fAct at h
    rw [if_pos h0] at h
    exact (h _ (hv _)).1 rfl
  · unfold fAct at h
    rw [if_neg h0] at h
    have := (h (u.1, u.2.1, u.2.2.1, u.2.2.2.1, u.2.2.2.2.1, u.2.2.2.2.2.1, u.2.2.2.2.2.2.1, u.2.2.2.2.2.2.2.1, (doA (gNow G) k a b c d).1) ⟨hc.1, hc.2.1, rfl⟩).2 hcode
    rw [hex] at this
    exact this
theorem cact0_of {B k : Nat} {G : zG} {u : zCls} {a b c d : Int32} {Q : Int32 → zCls → Prop} (hG : okG B G) (hB : B + 20 ≤ 400000) (hc : cG G u) (hk : k < 10) (ha : aOkA k a b c d) (h0 : (doA (gNow G) k a b c d).1 = 0) (h : ∀ u' : zCls, cG (gAct G (doA (gNow G) k a b c d).2) u' → Q (doN (gNow G) k a b c d) u') : s_X10_getReady u (fun u' => s_X5_perform u'.1 (nI k) a b c d (fun r4 u4 => Q r4 (u4, u'.2))) :=
  getReady_of hG hc (fun u' e1 hv => by
    show s_X5_perform u'.1 (nI k) a b c d (fun r4 u4 => Q r4 (u4, u'.2))
    rw [e1]
    exact perf_of hG.1 hB hk ha h0 (h _ (hv _)))
/-! looking at arguments -/
theorem lt_le {x : Int32} {a b : Nat} (hb : b = a + 1) (h : a < 2 ^ 30) : x < nI b ↔ ¬ nI a < x := by
  rw [fa_lt, fa_lt, nI_toInt (by omega), nI_toInt (by omega)]
  omega
theorem lookKey_of {x : Int32} {Q : Unit → Prop} {QX : String → Unit → Prop} (h1 : inR x 0 63 → Q ()) (h0 : ¬ inR x 0 63 → QX "java/lang/IndexOutOfBoundsException" ()) : s_X10_lookAtKey x Q QX :=
  ⟨fun c => h0 (fun q => q.1 c), fun c => ⟨fun d => h1 ⟨c, (lt_le (a := 63) (b := 64) rfl (by decide)).mp d⟩, fun d => h0 (fun q => d ((lt_le (a := 63) (b := 64) rfl (by decide)).mpr q.2))⟩⟩
theorem lookSeg_of {x : Int32} {Q : Unit → Prop} {QX : String → Unit → Prop} (h1 : inR x 0 11 → Q ()) (h0 : ¬ inR x 0 11 → QX "java/lang/IndexOutOfBoundsException" ()) : s_X10_lookAtSegment x Q QX :=
  ⟨fun c => h0 (fun q => q.1 c), fun c => ⟨fun d => h1 ⟨c, (lt_le (a := 11) (b := 12) rfl (by decide)).mp d⟩, fun d => h0 (fun q => d ((lt_le (a := 11) (b := 12) rfl (by decide)).mpr q.2))⟩⟩
theorem lookWhat_of {x y : Int32} {Q : Unit → Prop} {QX : String → Unit → Prop} (h1 : inR x 0 y → Q ()) (h0 : ¬ inR x 0 y → QX "java/util/NoSuchElementException" ()) : s_X10_lookAtWhat x y Q QX :=
  ⟨fun c => h0 (fun q => q.1 c), fun c => ⟨fun d => h1 ⟨c, fun q => absurd q (by
    have d := Int32.le_iff_toInt_le.mp d
    rw [fa_lt]; omega)⟩, fun d => h0 (fun q => d (by
    have q := q.2
    rw [fa_lt] at q
    exact Int32.le_iff_toInt_le.mpr (by omega)))⟩⟩
theorem mb_of {P A B : Prop} [Decidable P] (h1 : P → B) (h0 : ¬ P → A) : ((if P then (1 : Int32) else 0) = 0 → A) ∧ (¬ (if P then (1 : Int32) else 0) = 0 → B) := by
  by_cases p : P
  · rw [if_pos p]; exact ⟨fun q => absurd q (by decide), fun _ => h1 p⟩
  · rw [if_neg p]; exact ⟨fun _ => h0 p, fun q => absurd rfl q⟩
theorem mb_ofr {P A B : Prop} [Decidable P] (h1 : P → B) (h0 : ¬ P → A) : (¬ (if P then (1 : Int32) else 0) = 0 → B) ∧ ((if P then (1 : Int32) else 0) = 0 → A) := (mb_of h1 h0).symm
theorem z_st3 {x a b a' b' : Int32} {rest : List Value} (h1 : a = a') (h2 : b = b') : (Value.int x :: .int b :: .int a :: rest) = [Value.int a', .int b', .int x].reverse ++ rest := by
  subst h1
  subst h2
  rfl
