/-! CRASH in the reference -/
def crT (z : zModel) (y1 y2 y3 y4 y5 : Int32) (K9 : Int32 → Int32 → Int32 → Int32 → zModel → Prop) : Prop := vp_in (((66 : Int32) + ((3 : Int32) * y4)) + (1 : Int32)) 5497 ∧ ∀ f_10 : Nat → Int32, f_10 = upd z.2.1 (((66 : Int32) + ((3 : Int32) * y4)) + (1 : Int32)).toNatClampNeg y5 → ((¬ y5 = 0 → s_X11_noted (z.1, f_10, z.2.2) y4 (y5 - (1 : Int32)) (4 : Int32) (fun r_12 : Int32 => s_X11_noted (z.1, f_10, z.2.2) y4 (y5 - (1 : Int32)) (1 : Int32) (fun r_13 : Int32 => s_X11_sizeOf r_13 (fun r_14 : Int32 => vp_in (((66 : Int32) + ((3 : Int32) * y4)) + (2 : Int32)) 5497 ∧ ∀ f_15 : Nat → Int32, f_15 = upd f_10 (((66 : Int32) + ((3 : Int32) * y4)) + (2 : Int32)).toNatClampNeg (r_12 + r_14) → ((¬ y5 = 0 → vp_in (((66 : Int32) + ((3 : Int32) * y4)) + (0 : Int32)) 5497 ∧ ∀ f_17 : Nat → Int32, f_17 = upd f_15 (((66 : Int32) + ((3 : Int32) * y4)) + (0 : Int32)).toNatClampNeg (2 : Int32) → ((y5 = 0 → ∀ x_19 : Int32, x_19 = y4 + (1 : Int32) → K9 y1 y2 y3 x_19 (z.1, f_17, z.2.2)) ∧ (¬ y5 = 0 → s_X11_noted (z.1, f_17, z.2.2) y4 (y5 - (1 : Int32)) (3 : Int32) (fun r_21 : Int32 => ((y2 < r_21 → s_X11_noted (z.1, f_17, z.2.2) y4 (y5 - (1 : Int32)) (3 : Int32) (fun r_23 : Int32 => ∀ x_24 : Int32, x_24 = y4 + (1 : Int32) → K9 y1 r_23 y4 x_24 (z.1, f_17, z.2.2))) ∧ (¬ y2 < r_21 → ∀ x_26 : Int32, x_26 = y4 + (1 : Int32) → K9 y1 y2 y3 x_26 (z.1, f_17, z.2.2))))))) ∧ (y5 = 0 → vp_in (((66 : Int32) + ((3 : Int32) * y4)) + (0 : Int32)) 5497 ∧ ∀ f_28 : Nat → Int32, f_28 = upd f_15 (((66 : Int32) + ((3 : Int32) * y4)) + (0 : Int32)).toNatClampNeg (0 : Int32) → ((y5 = 0 → ∀ x_30 : Int32, x_30 = y4 + (1 : Int32) → K9 y1 y2 y3 x_30 (z.1, f_28, z.2.2)) ∧ (¬ y5 = 0 → s_X11_noted (z.1, f_28, z.2.2) y4 (y5 - (1 : Int32)) (3 : Int32) (fun r_32 : Int32 => ((y2 < r_32 → s_X11_noted (z.1, f_28, z.2.2) y4 (y5 - (1 : Int32)) (3 : Int32) (fun r_34 : Int32 => ∀ x_35 : Int32, x_35 = y4 + (1 : Int32) → K9 y1 r_34 y4 x_35 (z.1, f_28, z.2.2))) ∧ (¬ y2 < r_32 → ∀ x_37 : Int32, x_37 = y4 + (1 : Int32) → K9 y1 y2 y3 x_37 (z.1, f_28, z.2.2)))))))))))) ∧ (y5 = 0 → vp_in (((66 : Int32) + ((3 : Int32) * y4)) + (2 : Int32)) 5497 ∧ ∀ f_39 : Nat → Int32, f_39 = upd f_10 (((66 : Int32) + ((3 : Int32) * y4)) + (2 : Int32)).toNatClampNeg (0 : Int32) → ((¬ y5 = 0 → vp_in (((66 : Int32) + ((3 : Int32) * y4)) + (0 : Int32)) 5497 ∧ ∀ f_41 : Nat → Int32, f_41 = upd f_39 (((66 : Int32) + ((3 : Int32) * y4)) + (0 : Int32)).toNatClampNeg (2 : Int32) → ((y5 = 0 → ∀ x_43 : Int32, x_43 = y4 + (1 : Int32) → K9 y1 y2 y3 x_43 (z.1, f_41, z.2.2)) ∧ (¬ y5 = 0 → s_X11_noted (z.1, f_41, z.2.2) y4 (y5 - (1 : Int32)) (3 : Int32) (fun r_45 : Int32 => ((y2 < r_45 → s_X11_noted (z.1, f_41, z.2.2) y4 (y5 - (1 : Int32)) (3 : Int32) (fun r_47 : Int32 => ∀ x_48 : Int32, x_48 = y4 + (1 : Int32) → K9 y1 r_47 y4 x_48 (z.1, f_41, z.2.2))) ∧ (¬ y2 < r_45 → ∀ x_50 : Int32, x_50 = y4 + (1 : Int32) → K9 y1 y2 y3 x_50 (z.1, f_41, z.2.2))))))) ∧ (y5 = 0 → vp_in (((66 : Int32) + ((3 : Int32) * y4)) + (0 : Int32)) 5497 ∧ ∀ f_52 : Nat → Int32, f_52 = upd f_39 (((66 : Int32) + ((3 : Int32) * y4)) + (0 : Int32)).toNatClampNeg (0 : Int32) → ((y5 = 0 → ∀ x_54 : Int32, x_54 = y4 + (1 : Int32) → K9 y1 y2 y3 x_54 (z.1, f_52, z.2.2)) ∧ (¬ y5 = 0 → s_X11_noted (z.1, f_52, z.2.2) y4 (y5 - (1 : Int32)) (3 : Int32) (fun r_56 : Int32 => ((y2 < r_56 → s_X11_noted (z.1, f_52, z.2.2) y4 (y5 - (1 : Int32)) (3 : Int32) (fun r_58 : Int32 => ∀ x_59 : Int32, x_59 = y4 + (1 : Int32) → K9 y1 r_58 y4 x_59 (z.1, f_52, z.2.2))) ∧ (¬ y2 < r_56 → ∀ x_61 : Int32, x_61 = y4 + (1 : Int32) → K9 y1 y2 y3 x_61 (z.1, f_52, z.2.2))))))))))
theorem cr_tail {z : zModel} {s n : Nat} {y1 y2 y3 T : Int32} {K9 : Int32 → Int32 → Int32 → Int32 → zModel → Prop} (hs : s < 12) (hn : n ≤ 50)
    (hlen : ∀ k, n = k + 1 → ∃ ln : Nat, ln ≤ 40 ∧ z.2.1 (102 + 5 * (50 * s + k) + 1) = lnI ln ∧ z.2.1 (102 + 5 * (50 * s + k) + 4) + (4 + nI ln) = T) (hT : n = 0 → T = 0)
    (hK : ∀ (a b : Int32) (f : Nat → Int32), f (66 + 3 * s) = (if n = 0 then 0 else 2) → f (66 + 3 * s + 1) = nI n → f (66 + 3 * s + 2) = T → (∀ j, ¬ (66 + 3 * s ≤ j ∧ j < 66 + 3 * s + 3) → f j = z.2.1 j) → ((n = 0 ∧ a = y2 ∧ b = y3) ∨ ∃ k, n = k + 1 ∧ ((y2 < z.2.1 (102 + 5 * (50 * s + k) + 3) ∧ a = z.2.1 (102 + 5 * (50 * s + k) + 3) ∧ b = nI s) ∨ (¬ y2 < z.2.1 (102 + 5 * (50 * s + k) + 3) ∧ a = y2 ∧ b = y3))) → K9 y1 a b (nI (s + 1)) (z.1, f, z.2.2)) : crT z y1 y2 y3 (nI s) (nI n) K9 := by
  unfold crT
  rw [ix_seg', nc_0 (by omega), nc_1 (by omega), nc_2 (by omega)]
  refine ⟨vi_1 (by omega) (by decide), fun f10 e10 => ?_⟩
  by_cases h0 : n = 0
  · subst h0
    refine ⟨fun c => absurd rfl c, fun _ => ⟨vi_2 (by omega) (by decide), fun f39 e39 => ⟨fun c => absurd rfl c, fun _ => ⟨vi_0 (by omega) (by decide), fun f52 e52 => ⟨fun _ x ex => ?_, fun c => absurd rfl c⟩⟩⟩⟩⟩
    rw [ex, nI_1]
    refine hK y2 y3 f52 ?_ ?_ ?_ ?_ (Or.inl ⟨rfl, rfl, rfl⟩)
    · rw [e52, up_eq rfl]; rfl
    · rw [e52, up_ne (by omega), e39, up_ne (by omega), e10, up_eq rfl]
    · rw [e52, up_ne (by omega), e39, up_eq rfl, hT rfl]
    · intro j hj
      rw [e52, up_ne (by omega), e39, up_ne (by omega), e10, up_ne (by omega)]
  · obtain ⟨k, rfl⟩ : ∃ k, n = k + 1 := ⟨n - 1, by omega⟩
    have hne : ¬ nI (k + 1) = 0 := nI_ne0 (by omega) (by omega)
    obtain ⟨ln, hl, e1, e4⟩ := hlen k rfl
    rw [nI_pred]
    refine ⟨fun _ => ⟨s, k, 4, hs, by omega, by decide, rfl, rfl, rfl, s, k, 1, hs, by omega, by decide, rfl, rfl, rfl, ?_⟩, fun c => absurd c hne⟩
    have a1 : f10 (102 + 5 * (50 * s + k) + 1) = lnI ln := by rw [e10, up_ne (by omega)]; exact e1
    have a4 : f10 (102 + 5 * (50 * s + k) + 4) = z.2.1 (102 + 5 * (50 * s + k) + 4) := by rw [e10, up_ne (by omega)]
    dsimp only
    rw [a1, a4]
    refine lnI_size hl ⟨vi_2 (by omega) (by decide), fun f15 e15 => ⟨fun _ => ⟨vi_0 (by omega) (by decide), fun f17 e17 => ⟨fun c => absurd c hne, fun _ => ⟨s, k, 3, hs, by omega, by decide, rfl, rfl, rfl, ?_⟩⟩⟩, fun c => absurd c hne⟩⟩
    have a3 : f17 (102 + 5 * (50 * s + k) + 3) = z.2.1 (102 + 5 * (50 * s + k) + 3) := by rw [e17, up_ne (by omega), e15, up_ne (by omega), e10, up_ne (by omega)]
    dsimp only
    rw [a3]
    have b0 : f17 (66 + 3 * s) = (if k + 1 = 0 then 0 else 2) := by rw [e17, up_eq rfl, if_neg (by omega)]
    have b1 : f17 (66 + 3 * s + 1) = nI (k + 1) := by rw [e17, up_ne (by omega), e15, up_ne (by omega), e10, up_eq rfl]
    have b2 : f17 (66 + 3 * s + 2) = T := by rw [e17, up_ne (by omega), e15, up_eq rfl, e4]
    have bo : ∀ j, ¬ (66 + 3 * s ≤ j ∧ j < 66 + 3 * s + 3) → f17 j = z.2.1 j := fun j hj => by rw [e17, up_ne (by omega), e15, up_ne (by omega), e10, up_ne (by omega)]
    refine ⟨fun c => ⟨s, k, 3, hs, by omega, by decide, rfl, rfl, rfl, fun x ex => ?_⟩, fun c x ex => ?_⟩
    · rw [ex, nI_1]
      dsimp only
      rw [a3]
      exact hK _ _ f17 b0 b1 b2 bo (Or.inr ⟨k, rfl, Or.inl ⟨c, rfl, rfl⟩⟩)
    · rw [ex, nI_1]
      exact hK _ _ f17 b0 b1 b2 bo (Or.inr ⟨k, rfl, Or.inr ⟨c, rfl, rfl⟩⟩)
/-- the greatest number in the first s segments -/
def crG (g : zSegs) (s : Nat) : Int32 := if s = 0 then 0 else zGr g (zLt g s)
theorem crG_step {g : zSegs} {s : Nat} (hs : s < 12) (h : ∀ q, q < 12 → ∃ n : Nat, n < 2 ^ 30 ∧ zGr g q = nI n) : (crG g (s + 1) = if crG g s < zGr g s then zGr g s else crG g s) ∧ (zLt g (s + 1) = if crG g s < zGr g s then s else zLt g s) ∧ ¬ crG g s < 0 := by
  have hu : zLt g (s + 1) = if zGr g s ≤ zGr g (zLt g s) then zLt g s else s := rfl
  obtain ⟨a, ha, ea⟩ := h s hs
  have hl := zLt_lt g s (by omega)
  obtain ⟨b, hb, eb⟩ := h (zLt g s) hl
  unfold crG
  rw [if_neg (Nat.succ_ne_zero s), hu]
  by_cases h0 : s = 0
  · subst h0
    have hz : zLt g 0 = 0 := rfl
    rw [if_pos rfl, hz, if_pos (Int32.le_refl _)]
    refine ⟨?_, ?_, by decide⟩
    · by_cases c : 0 < zGr g 0
      · rw [if_pos c]
      · rw [if_neg c, ea]
        rw [ea] at c
        have : ¬ 0 < a := fun q => c (nI_lt (a := 0) q (by omega))
        rw [show a = 0 by omega]; rfl
    · split <;> rfl
  · rw [if_neg h0, ea, eb]
    by_cases c : nI a ≤ nI b
    · have : ¬ nI b < nI a := fun q => by
        have := (nI_leI (by omega) (by omega)).mp c
        have := (nI_ltI (by omega) (by omega)).mp q
        omega
      rw [if_pos c, if_neg this, if_neg this, eb]
      exact ⟨rfl, rfl, nI_pos (by omega)⟩
    · have : nI b < nI a := by
        have : ¬ a ≤ b := fun q => c (nI_le q (by omega))
        exact nI_lt (by omega) (by omega)
      rw [if_neg c, if_pos this, if_pos this, ea]
      exact ⟨rfl, rfl, nI_pos (by omega)⟩
def crA (m : Nat → Int32) (g : zSegs) (x : Int32) (s : Nat) (mm : Nat → Int32) : Prop := (∀ q, q < s → mm (66 + 3 * q) = (if zCut g x q (gN g q) = 0 then 0 else 2) ∧ mm (66 + 3 * q + 1) = nI (zCut g x q (gN g q)) ∧ mm (66 + 3 * q + 2) = nI (gB g q (zCut g x q (gN g q)))) ∧ ∀ j, ¬ (66 ≤ j ∧ j < 66 + 3 * s) → mm j = m j
def crB (v : zState) (m : Nat → Int32) (t : zTree) (mm : Nat → Int32) : Prop := (∀ j, j < 66 → mm j = m j) ∧ mSg (uCut v) mm ∧ mRc (uCut v) mm ∧ mEn v.1.2.1 t mm ∧ ∀ j, 5406 ≤ j → mm j = m j
theorem zGr_ok {ρ L : Nat} {g : zSegs} (h : SegOk ρ L g) (hL : L < 2 ^ 30) (x : Int32) {s : Nat} (hs : s < 12) : (∃ n : Nat, n < 2 ^ 30 ∧ zGr (zCo g x 12) s = nI n) ∧ (zCut g x s (gN g s) = 0 → zGr (zCo g x 12) s = 0) ∧ ∀ k, zCut g x s (gN g s) = k + 1 → zGr (zCo g x 12) s = cNum (g.1 (50 * s + k)) := by
  have h50 := (h.2.1 s hs).2
  obtain ⟨-, -, en⟩ := zCo_n g x hs h50
  have en : gNn (zCo g x 12) s = zCut g x s (gN g s) := en
  have hle := zCut_le g x s (gN g s)
  unfold zGr
  rw [en]
  refine ⟨?_, fun q => if_pos q, fun k q => by rw [if_neg (by omega), q]; rfl⟩
  by_cases c : zCut g x s (gN g s) = 0
  · rw [if_pos c]; exact ⟨0, by omega, rfl⟩
  · rw [if_neg c]
    have hr := h.2.2.2.2.1 s hs (zCut g x s (gN g s) - 1) (by omega)
    exact ⟨cnN (g.1 (50 * s + (zCut g x s (gN g s) - 1))), by have := hr.2.2.2.2.1; omega, hr.2.2.1⟩
theorem crA_crB {ρ β mo lm L S M B : Nat} {v : zState} {m mm : Nat → Int32} (hP : zP ρ β mo lm L S M B v) (hr : mRel v m) (h : crA m v.2.2.1 (nI S) 12 mm) : crB v m (zRp0 v.2.2.2.1) (mWp (upd mm (66 + 3 * zLt (zCo v.2.2.1 (nI S) 12) 12) 1) 0 384) := by
  obtain ⟨h1, h2, h3, h4, h5, hg, ht, hR, hL, hC, hD, hT⟩ := hP
  obtain ⟨rT, rS, rR, rE, rN', rL⟩ := mRel_iff.mp hr
  obtain ⟨hA, hj⟩ := h
  have ecut : uCut v = zOpL (zCo v.2.2.1 (nI S) 12) := by unfold uCut; rw [h5.2.1]
  obtain ⟨hg2, hn2⟩ := hg.crash (S := S) (by omega) (by omega)
  rw [← ecut] at hg2 hn2
  have hl := zLt_lt (zCo v.2.2.1 (nI S) 12) 12 (Nat.le_refl _)
  generalize hlt : zLt (zCo v.2.2.1 (nI S) 12) 12 = o at hl
  have lo : ∀ j, ¬ (3102 ≤ j ∧ j < 3486) → ¬ j = 66 + 3 * o → mWp (upd mm (66 + 3 * o) 1) 0 384 j = mm j := fun j a b => by
    unfold mWp
    rw [if_neg (by omega), up_ne b]
  obtain ⟨w1, w2, w3, w4⟩ := ht.wipe (S := S)
  refine ⟨fun j a => by rw [lo j (by omega) (by omega), hj j (by omega)], fun q z hq hz => ?_, fun q k z hq hk hz => ?_, fun l k hl' hk => ?_, fun j a => by rw [lo j (by omega) (by omega), hj j (by omega)]⟩
  · obtain ⟨A0, A1, A2⟩ := hA q hq
    have h50 := (hg.2.1 q hq).2
    have hcl := zCut_le v.2.2.1 (nI S) q (gN v.2.2.1 q)
    have e1 : (zCo v.2.2.1 (nI S) 12).2.1 q = nI (zCut v.2.2.1 (nI S) q (gN v.2.2.1 q)) := if_pos hq
    rw [ecut]
    match z, hz with
    | 0, _ =>
      show _ = upd (zKd (zCo v.2.2.1 (nI S) 12) 12) (zLt (zCo v.2.2.1 (nI S) 12) 12) 1 q
      rw [hlt]
      by_cases hqo : q = o
      · subst hqo
        rw [up_eq rfl]
        unfold mWp
        rw [if_neg (by omega), up_eq (by omega)]
      · rw [up_ne hqo, lo _ (by omega) (by omega)]
        show mm (66 + 3 * q) = if q < 12 then _ else _
        rw [if_pos hq, A0, e1]
        by_cases c : zCut v.2.2.1 (nI S) q (gN v.2.2.1 q) = 0
        · rw [if_pos c, if_pos (by rw [c]; rfl)]
        · rw [if_neg c, if_neg (nI_ne0 (by omega) (by omega))]
    | 1, _ =>
      rw [lo _ (by omega) (by omega), A1]
      exact e1.symm
    | 2, _ =>
      rw [lo _ (by omega) (by omega), A2]
      have e2 : (zCo v.2.2.1 (nI S) 12).2.2.1 q = zCuT v.2.2.1 (nI S) q (gN v.2.2.1 q) (v.2.2.1.2.2.1 q) := if_pos hq
      show _ = (zCo v.2.2.1 (nI S) 12).2.2.1 q
      rw [e2, (hg.2.2.2.1 q hq).1, zCuT_eq]
    | n + 3, h => exact absurd h (by omega)
  · rw [hn2 q hq] at hk
    have h50 := (hg.2.1 q hq).2
    have hcl := zCut_le v.2.2.1 (nI S) q (gN v.2.2.1 q)
    rw [lo _ (by omega) (by omega), hj _ (by omega), ecut]
    exact rR q k z hq (by omega) hz
  · have h6 := ht.1.2
    rw [w2] at hl'
    by_cases hl0 : l = 0
    · subst hl0
      rw [show 64 * 0 + k = k by omega, w4 k hk]
      refine ⟨?_, fun q => absurd rfl q⟩
      unfold mWp
      rw [if_pos (by omega)]; rfl
    · rw [w3 l k (by omega) hk]
      exact (rE l k hl' hk).cg (fun w hw => by rw [lo _ (by omega) (by omega), hj _ (by omega)])
theorem crB_fin {ρ β mo lm L S M B : Nat} {v : zState} {m mm m' : Nat → Int32} (hP : zP ρ β mo lm L S M B v) (hr : mRel v m) (h : crB v m (zRpA (uCut v) v.2.2.2.2.2.2.2.2 (zRp0 v.2.2.2.1) 12) mm) (e5 : m' 5 = nI S) (e8 : m' 8 = -1) (e9 : m' 9 = 0) (e10 : m' 10 = 0) (hj : ∀ j, j < 5406 → ¬ j = 5 → ¬ (8 ≤ j ∧ j ≤ 10) → m' j = mm j) (hl : mLg (zTell v.2.2.2.2.2.1 (dN v.2.2.2.2.2.1) 3 (nI (zGone v.2.2.1 v.2.2.2.2.2.2.2.1 12)) v.2.2.2.2.2.2.1) m') : mRel (uCrash v) m' := by
  have hPc := zPr.crash hP
  obtain ⟨b1, b2, b3, b4, b5⟩ := h
  have tp : ∀ i, i < 16 → ¬ i = 5 → ¬ (8 ≤ i ∧ i ≤ 10) → m' i = topF v i := fun i hi a b => by rw [hj i (by omega) a b, b1 i (by omega), hr.1 i hi]
  have htr : tR (uCrash v).2.2.2.1 = tR v.2.2.2.1 := by
    obtain ⟨-, -, -, -, h5, hg, ht, -⟩ := hP
    obtain ⟨a1, a2, a3, a4, a5, a6, a7⟩ := h5
    obtain ⟨hg2, -⟩ := hg.crash a5 (by omega)
    have ecut : uCut v = zOpL (zCo v.2.2.1 (nI S) 12) := by unfold uCut; rw [a2]
    rw [← ecut] at hg2
    obtain ⟨w1, w2, w3, w4⟩ := ht.wipe (S := S)
    have hrp : RpOk M S (uCut v) (zRp0 v.2.2.2.1) (zRpA (uCut v) (nI M) (zRp0 v.2.2.2.1) 12) := RpOk.all ⟨w1, rfl, fun _ _ _ _ => rfl, fun k hk hn => absurd (w4 k hk) hn⟩ hg2 (by omega) (by omega) 12 (Nat.le_refl _)
    show tR (zRpA (uCut v) v.2.2.2.2.2.2.2.2 (zRp0 v.2.2.2.1) 12) = _
    rw [a3, hrp.2.1, w2]
  have e4 : (uCrash v).2.2.2.1.2.2 = v.2.2.2.1.2.2 := by
    rw [hPc.2.2.2.2.2.2.1.1.1, htr]; exact hP.2.2.2.2.2.2.1.1.1.symm
  have e5' : (uCrash v).2.2.2.2.2.2.1 = nI S := hPc.2.2.2.2.1.1
  refine mRel_iff.mpr ⟨lt16 ?_ ?_ ?_ ?_ ?_ ?_ ?_ ?_ ?_ ?_ ?_ ?_ ?_ ?_ ?_ ?_, ?_, ?_, ?_, fun q => absurd rfl q, hl⟩
  · exact tp 0 (by decide) (by decide) (by decide)
  · exact tp 1 (by decide) (by decide) (by decide)
  · exact tp 2 (by decide) (by decide) (by decide)
  · exact tp 3 (by decide) (by decide) (by decide)
  · rw [tp 4 (by decide) (by decide) (by decide)]; exact e4.symm
  · rw [e5]; exact e5'.symm
  · exact tp 6 (by decide) (by decide) (by decide)
  · exact tp 7 (by decide) (by decide) (by decide)
  · exact e8
  · exact e9
  · exact e10
  · exact tp 11 (by decide) (by decide) (by decide)
  · exact tp 12 (by decide) (by decide) (by decide)
  · exact tp 13 (by decide) (by decide) (by decide)
  · exact tp 14 (by decide) (by decide) (by decide)
  · exact tp 15 (by decide) (by decide) (by decide)
  · exact b2.cg (fun j a b => hj j (by omega) (by omega) (by omega))
  · exact b3.cg (fun s hs => (hPc.2.2.2.2.2.1.2.1 s hs).2) (fun j a b => hj j (by omega) (by omega) (by omega))
  · exact b4.cg hPc.2.2.2.2.2.2.1.1.2 (fun j a b => hj j (by omega) (by omega) (by omega))

def t_X11_crash0_e (u : zModel) (K9 : Int32 → Int32 → Int32 → Int32 → zModel → Prop) (K25 : Int32 → Int32 → Int32 → Int32 → Int32 → zModel → Prop) (K215 : Int32 → Int32 → Int32 → Int32 → zModel → Prop) (K225 : Int32 → Int32 → Int32 → Int32 → Int32 → zModel → Prop) (Q : Int32 → zModel → Prop) : Prop := K9 (0 : Int32) (0 : Int32) (0 : Int32) (0 : Int32) u
def t_X11_crash0_9 (y1 : Int32) (y2 : Int32) (y3 : Int32) (y4 : Int32) (z : zModel) (K9 : Int32 → Int32 → Int32 → Int32 → zModel → Prop) (K25 : Int32 → Int32 → Int32 → Int32 → Int32 → zModel → Prop) (K215 : Int32 → Int32 → Int32 → Int32 → zModel → Prop) (K225 : Int32 → Int32 → Int32 → Int32 → Int32 → zModel → Prop) (Q : Int32 → zModel → Prop) : Prop := (((12 : Int32) ≤ y4 → vp_in (((66 : Int32) + ((3 : Int32) * y3)) + (0 : Int32)) 5497 ∧ ∀ f_3 : Nat → Int32, f_3 = upd z.2.1 (((66 : Int32) + ((3 : Int32) * y3)) + (0 : Int32)).toNatClampNeg (1 : Int32) → s_X11_empties (z.1, f_3, z.2.2) (0 : Int32) (fun (u_5 : zModel) => K215 y1 y2 y3 (0 : Int32) u_5)) ∧ (¬ (12 : Int32) ≤ y4 → s_X11_segmentAt z y4 (1 : Int32) (fun r_7 : Int32 => K25 y1 y2 y3 y4 r_7 z)))
def t_X11_crash0_25 (y1 : Int32) (y2 : Int32) (y3 : Int32) (y4 : Int32) (y5 : Int32) (z : zModel) (K9 : Int32 → Int32 → Int32 → Int32 → zModel → Prop) (K25 : Int32 → Int32 → Int32 → Int32 → Int32 → zModel → Prop) (K215 : Int32 → Int32 → Int32 → Int32 → zModel → Prop) (K225 : Int32 → Int32 → Int32 → Int32 → Int32 → zModel → Prop) (Q : Int32 → zModel → Prop) : Prop := ((y5 ≤ 0 → vp_in (((66 : Int32) + ((3 : Int32) * y4)) + (1 : Int32)) 5497 ∧ ∀ f_10 : Nat → Int32, f_10 = upd z.2.1 (((66 : Int32) + ((3 : Int32) * y4)) + (1 : Int32)).toNatClampNeg y5 → ((¬ y5 = 0 → s_X11_noted (z.1, f_10, z.2.2) y4 (y5 - (1 : Int32)) (4 : Int32) (fun r_12 : Int32 => s_X11_noted (z.1, f_10, z.2.2) y4 (y5 - (1 : Int32)) (1 : Int32) (fun r_13 : Int32 => s_X11_sizeOf r_13 (fun r_14 : Int32 => vp_in (((66 : Int32) + ((3 : Int32) * y4)) + (2 : Int32)) 5497 ∧ ∀ f_15 : Nat → Int32, f_15 = upd f_10 (((66 : Int32) + ((3 : Int32) * y4)) + (2 : Int32)).toNatClampNeg (r_12 + r_14) → ((¬ y5 = 0 → vp_in (((66 : Int32) + ((3 : Int32) * y4)) + (0 : Int32)) 5497 ∧ ∀ f_17 : Nat → Int32, f_17 = upd f_15 (((66 : Int32) + ((3 : Int32) * y4)) + (0 : Int32)).toNatClampNeg (2 : Int32) → ((y5 = 0 → ∀ x_19 : Int32, x_19 = y4 + (1 : Int32) → K9 y1 y2 y3 x_19 (z.1, f_17, z.2.2)) ∧ (¬ y5 = 0 → s_X11_noted (z.1, f_17, z.2.2) y4 (y5 - (1 : Int32)) (3 : Int32) (fun r_21 : Int32 => ((y2 < r_21 → s_X11_noted (z.1, f_17, z.2.2) y4 (y5 - (1 : Int32)) (3 : Int32) (fun r_23 : Int32 => ∀ x_24 : Int32, x_24 = y4 + (1 : Int32) → K9 y1 r_23 y4 x_24 (z.1, f_17, z.2.2))) ∧ (¬ y2 < r_21 → ∀ x_26 : Int32, x_26 = y4 + (1 : Int32) → K9 y1 y2 y3 x_26 (z.1, f_17, z.2.2))))))) ∧ (y5 = 0 → vp_in (((66 : Int32) + ((3 : Int32) * y4)) + (0 : Int32)) 5497 ∧ ∀ f_28 : Nat → Int32, f_28 = upd f_15 (((66 : Int32) + ((3 : Int32) * y4)) + (0 : Int32)).toNatClampNeg (0 : Int32) → ((y5 = 0 → ∀ x_30 : Int32, x_30 = y4 + (1 : Int32) → K9 y1 y2 y3 x_30 (z.1, f_28, z.2.2)) ∧ (¬ y5 = 0 → s_X11_noted (z.1, f_28, z.2.2) y4 (y5 - (1 : Int32)) (3 : Int32) (fun r_32 : Int32 => ((y2 < r_32 → s_X11_noted (z.1, f_28, z.2.2) y4 (y5 - (1 : Int32)) (3 : Int32) (fun r_34 : Int32 => ∀ x_35 : Int32, x_35 = y4 + (1 : Int32) → K9 y1 r_34 y4 x_35 (z.1, f_28, z.2.2))) ∧ (¬ y2 < r_32 → ∀ x_37 : Int32, x_37 = y4 + (1 : Int32) → K9 y1 y2 y3 x_37 (z.1, f_28, z.2.2)))))))))))) ∧ (y5 = 0 → vp_in (((66 : Int32) + ((3 : Int32) * y4)) + (2 : Int32)) 5497 ∧ ∀ f_39 : Nat → Int32, f_39 = upd f_10 (((66 : Int32) + ((3 : Int32) * y4)) + (2 : Int32)).toNatClampNeg (0 : Int32) → ((¬ y5 = 0 → vp_in (((66 : Int32) + ((3 : Int32) * y4)) + (0 : Int32)) 5497 ∧ ∀ f_41 : Nat → Int32, f_41 = upd f_39 (((66 : Int32) + ((3 : Int32) * y4)) + (0 : Int32)).toNatClampNeg (2 : Int32) → ((y5 = 0 → ∀ x_43 : Int32, x_43 = y4 + (1 : Int32) → K9 y1 y2 y3 x_43 (z.1, f_41, z.2.2)) ∧ (¬ y5 = 0 → s_X11_noted (z.1, f_41, z.2.2) y4 (y5 - (1 : Int32)) (3 : Int32) (fun r_45 : Int32 => ((y2 < r_45 → s_X11_noted (z.1, f_41, z.2.2) y4 (y5 - (1 : Int32)) (3 : Int32) (fun r_47 : Int32 => ∀ x_48 : Int32, x_48 = y4 + (1 : Int32) → K9 y1 r_47 y4 x_48 (z.1, f_41, z.2.2))) ∧ (¬ y2 < r_45 → ∀ x_50 : Int32, x_50 = y4 + (1 : Int32) → K9 y1 y2 y3 x_50 (z.1, f_41, z.2.2))))))) ∧ (y5 = 0 → vp_in (((66 : Int32) + ((3 : Int32) * y4)) + (0 : Int32)) 5497 ∧ ∀ f_52 : Nat → Int32, f_52 = upd f_39 (((66 : Int32) + ((3 : Int32) * y4)) + (0 : Int32)).toNatClampNeg (0 : Int32) → ((y5 = 0 → ∀ x_54 : Int32, x_54 = y4 + (1 : Int32) → K9 y1 y2 y3 x_54 (z.1, f_52, z.2.2)) ∧ (¬ y5 = 0 → s_X11_noted (z.1, f_52, z.2.2) y4 (y5 - (1 : Int32)) (3 : Int32) (fun r_56 : Int32 => ((y2 < r_56 → s_X11_noted (z.1, f_52, z.2.2) y4 (y5 - (1 : Int32)) (3 : Int32) (fun r_58 : Int32 => ∀ x_59 : Int32, x_59 = y4 + (1 : Int32) → K9 y1 r_58 y4 x_59 (z.1, f_52, z.2.2))) ∧ (¬ y2 < r_56 → ∀ x_61 : Int32, x_61 = y4 + (1 : Int32) → K9 y1 y2 y3 x_61 (z.1, f_52, z.2.2))))))))))) ∧ (¬ y5 ≤ 0 → s_X11_noted z y4 (y5 - (1 : Int32)) (3 : Int32) (fun r_63 : Int32 => vp_in (6 : Int32) 5497 ∧ ((r_63 ≤ (z.2.1 (6 : Int32).toNatClampNeg) → vp_in (((66 : Int32) + ((3 : Int32) * y4)) + (1 : Int32)) 5497 ∧ ∀ f_65 : Nat → Int32, f_65 = upd z.2.1 (((66 : Int32) + ((3 : Int32) * y4)) + (1 : Int32)).toNatClampNeg y5 → ((¬ y5 = 0 → s_X11_noted (z.1, f_65, z.2.2) y4 (y5 - (1 : Int32)) (4 : Int32) (fun r_67 : Int32 => s_X11_noted (z.1, f_65, z.2.2) y4 (y5 - (1 : Int32)) (1 : Int32) (fun r_68 : Int32 => s_X11_sizeOf r_68 (fun r_69 : Int32 => vp_in (((66 : Int32) + ((3 : Int32) * y4)) + (2 : Int32)) 5497 ∧ ∀ f_70 : Nat → Int32, f_70 = upd f_65 (((66 : Int32) + ((3 : Int32) * y4)) + (2 : Int32)).toNatClampNeg (r_67 + r_69) → ((¬ y5 = 0 → vp_in (((66 : Int32) + ((3 : Int32) * y4)) + (0 : Int32)) 5497 ∧ ∀ f_72 : Nat → Int32, f_72 = upd f_70 (((66 : Int32) + ((3 : Int32) * y4)) + (0 : Int32)).toNatClampNeg (2 : Int32) → ((y5 = 0 → ∀ x_74 : Int32, x_74 = y4 + (1 : Int32) → K9 y1 y2 y3 x_74 (z.1, f_72, z.2.2)) ∧ (¬ y5 = 0 → s_X11_noted (z.1, f_72, z.2.2) y4 (y5 - (1 : Int32)) (3 : Int32) (fun r_76 : Int32 => ((y2 < r_76 → s_X11_noted (z.1, f_72, z.2.2) y4 (y5 - (1 : Int32)) (3 : Int32) (fun r_78 : Int32 => ∀ x_79 : Int32, x_79 = y4 + (1 : Int32) → K9 y1 r_78 y4 x_79 (z.1, f_72, z.2.2))) ∧ (¬ y2 < r_76 → ∀ x_81 : Int32, x_81 = y4 + (1 : Int32) → K9 y1 y2 y3 x_81 (z.1, f_72, z.2.2))))))) ∧ (y5 = 0 → vp_in (((66 : Int32) + ((3 : Int32) * y4)) + (0 : Int32)) 5497 ∧ ∀ f_83 : Nat → Int32, f_83 = upd f_70 (((66 : Int32) + ((3 : Int32) * y4)) + (0 : Int32)).toNatClampNeg (0 : Int32) → ((y5 = 0 → ∀ x_85 : Int32, x_85 = y4 + (1 : Int32) → K9 y1 y2 y3 x_85 (z.1, f_83, z.2.2)) ∧ (¬ y5 = 0 → s_X11_noted (z.1, f_83, z.2.2) y4 (y5 - (1 : Int32)) (3 : Int32) (fun r_87 : Int32 => ((y2 < r_87 → s_X11_noted (z.1, f_83, z.2.2) y4 (y5 - (1 : Int32)) (3 : Int32) (fun r_89 : Int32 => ∀ x_90 : Int32, x_90 = y4 + (1 : Int32) → K9 y1 r_89 y4 x_90 (z.1, f_83, z.2.2))) ∧ (¬ y2 < r_87 → ∀ x_92 : Int32, x_92 = y4 + (1 : Int32) → K9 y1 y2 y3 x_92 (z.1, f_83, z.2.2)))))))))))) ∧ (y5 = 0 → vp_in (((66 : Int32) + ((3 : Int32) * y4)) + (2 : Int32)) 5497 ∧ ∀ f_94 : Nat → Int32, f_94 = upd f_65 (((66 : Int32) + ((3 : Int32) * y4)) + (2 : Int32)).toNatClampNeg (0 : Int32) → ((¬ y5 = 0 → vp_in (((66 : Int32) + ((3 : Int32) * y4)) + (0 : Int32)) 5497 ∧ ∀ f_96 : Nat → Int32, f_96 = upd f_94 (((66 : Int32) + ((3 : Int32) * y4)) + (0 : Int32)).toNatClampNeg (2 : Int32) → ((y5 = 0 → ∀ x_98 : Int32, x_98 = y4 + (1 : Int32) → K9 y1 y2 y3 x_98 (z.1, f_96, z.2.2)) ∧ (¬ y5 = 0 → s_X11_noted (z.1, f_96, z.2.2) y4 (y5 - (1 : Int32)) (3 : Int32) (fun r_100 : Int32 => ((y2 < r_100 → s_X11_noted (z.1, f_96, z.2.2) y4 (y5 - (1 : Int32)) (3 : Int32) (fun r_102 : Int32 => ∀ x_103 : Int32, x_103 = y4 + (1 : Int32) → K9 y1 r_102 y4 x_103 (z.1, f_96, z.2.2))) ∧ (¬ y2 < r_100 → ∀ x_105 : Int32, x_105 = y4 + (1 : Int32) → K9 y1 y2 y3 x_105 (z.1, f_96, z.2.2))))))) ∧ (y5 = 0 → vp_in (((66 : Int32) + ((3 : Int32) * y4)) + (0 : Int32)) 5497 ∧ ∀ f_107 : Nat → Int32, f_107 = upd f_94 (((66 : Int32) + ((3 : Int32) * y4)) + (0 : Int32)).toNatClampNeg (0 : Int32) → ((y5 = 0 → ∀ x_109 : Int32, x_109 = y4 + (1 : Int32) → K9 y1 y2 y3 x_109 (z.1, f_107, z.2.2)) ∧ (¬ y5 = 0 → s_X11_noted (z.1, f_107, z.2.2) y4 (y5 - (1 : Int32)) (3 : Int32) (fun r_111 : Int32 => ((y2 < r_111 → s_X11_noted (z.1, f_107, z.2.2) y4 (y5 - (1 : Int32)) (3 : Int32) (fun r_113 : Int32 => ∀ x_114 : Int32, x_114 = y4 + (1 : Int32) → K9 y1 r_113 y4 x_114 (z.1, f_107, z.2.2))) ∧ (¬ y2 < r_111 → ∀ x_116 : Int32, x_116 = y4 + (1 : Int32) → K9 y1 y2 y3 x_116 (z.1, f_107, z.2.2))))))))))) ∧ (¬ r_63 ≤ (z.2.1 (6 : Int32).toNatClampNeg) → ∀ x_118 : Int32, x_118 = y5 + (-1 : Int32) → ∀ x_119 : Int32, x_119 = y1 + (1 : Int32) → K25 x_119 y2 y3 y4 x_118 z)))))
def t_X11_crash0_215 (y1 : Int32) (y2 : Int32) (y3 : Int32) (y4 : Int32) (z : zModel) (K9 : Int32 → Int32 → Int32 → Int32 → zModel → Prop) (K25 : Int32 → Int32 → Int32 → Int32 → Int32 → zModel → Prop) (K215 : Int32 → Int32 → Int32 → Int32 → zModel → Prop) (K225 : Int32 → Int32 → Int32 → Int32 → Int32 → zModel → Prop) (Q : Int32 → zModel → Prop) : Prop := (((12 : Int32) ≤ y4 → vp_in (8 : Int32) 5497 ∧ ∀ f_122 : Nat → Int32, f_122 = upd z.2.1 (8 : Int32).toNatClampNeg (-1 : Int32) → vp_in (9 : Int32) 5497 ∧ ∀ f_123 : Nat → Int32, f_123 = upd f_122 (9 : Int32).toNatClampNeg (0 : Int32) → vp_in (10 : Int32) 5497 ∧ ∀ f_124 : Nat → Int32, f_124 = upd f_123 (10 : Int32).toNatClampNeg (0 : Int32) → s_X11_logs (z.1, f_124, z.2.2) (3 : Int32) y1 (fun (u_126 : zModel) => vp_in (6 : Int32) 5497 ∧ vp_in (7 : Int32) 5497 ∧ s_X11_greater (u_126.2.1 (6 : Int32).toNatClampNeg) (u_126.2.1 (7 : Int32).toNatClampNeg) (fun r_127 : Int32 => vp_in (5 : Int32) 5497 ∧ ∀ f_128 : Nat → Int32, f_128 = upd u_126.2.1 (5 : Int32).toNatClampNeg r_127 → Q y1 (u_126.1, f_128, u_126.2.2)))) ∧ (¬ (12 : Int32) ≤ y4 → K225 y1 y2 y3 y4 (0 : Int32) z))
def t_X11_crash0_225 (y1 : Int32) (y2 : Int32) (y3 : Int32) (y4 : Int32) (y5 : Int32) (z : zModel) (K9 : Int32 → Int32 → Int32 → Int32 → zModel → Prop) (K25 : Int32 → Int32 → Int32 → Int32 → Int32 → zModel → Prop) (K215 : Int32 → Int32 → Int32 → Int32 → zModel → Prop) (K225 : Int32 → Int32 → Int32 → Int32 → Int32 → zModel → Prop) (Q : Int32 → zModel → Prop) : Prop := s_X11_segmentAt z y4 (1 : Int32) (fun r_130 : Int32 => ((r_130 ≤ y5 → ∀ x_132 : Int32, x_132 = y4 + (1 : Int32) → K215 y1 y2 y3 x_132 z) ∧ (¬ r_130 ≤ y5 → s_X11_noted z y4 y5 (3 : Int32) (fun r_134 : Int32 => s_X11_noted z y4 y5 (0 : Int32) (fun r_135 : Int32 => vp_in (7 : Int32) 5497 ∧ ((r_134 ≤ (z.2.1 (7 : Int32).toNatClampNeg) → ∀ x_137 : Int32, x_137 = y5 + (1 : Int32) → K225 y1 y2 y3 y4 x_137 z) ∧ (¬ r_134 ≤ (z.2.1 (7 : Int32).toNatClampNeg) → s_X11_hasEntry z (0 : Int32) r_135 (fun r_139 : Int32 => ((r_139 = 0 → s_X11_enters z y4 y5 (fun (u_142 : zModel) => ∀ x_143 : Int32, x_143 = y5 + (1 : Int32) → K225 y1 y2 y3 y4 x_143 u_142)) ∧ (¬ r_139 = 0 → s_X11_entryAt (0 : Int32) r_135 (fun r_145 : Int32 => vp_in (r_145 + (0 : Int32)) 5497 ∧ ((r_134 ≤ (z.2.1 (r_145 + (0 : Int32)).toNatClampNeg) → ∀ x_147 : Int32, x_147 = y5 + (1 : Int32) → K225 y1 y2 y3 y4 x_147 z) ∧ (¬ r_134 ≤ (z.2.1 (r_145 + (0 : Int32)).toNatClampNeg) → s_X11_enters z y4 y5 (fun (u_150 : zModel) => ∀ x_151 : Int32, x_151 = y5 + (1 : Int32) → K225 y1 y2 y3 y4 x_151 u_150))))))))))))))
theorem zc_X11_crash0 : zCalV RX11 yX11_crash0 cX11_crash0 8 (some .int) 0 := ⟨q_im_X11_crash0, q_se_X11_crash0, q_in_X11, q_cd_X11_crash0, ⟨by decide, by decide, by decide +kernel⟩, rfl⟩
abbrev rm_X11_crash0 : Room := { frames := 2, cells := 0, slots := 0, locals := 46 }
def v_X11_crash0 (u : zModel) (Q : Int32 → zModel → Prop) : Prop := ∃ I9 : Nat → Int32 → Int32 → Int32 → Int32 → zModel → Prop, ∃ I25 : Nat → Int32 → Int32 → Int32 → Int32 → Int32 → zModel → Prop, ∃ I215 : Nat → Int32 → Int32 → Int32 → Int32 → zModel → Prop, ∃ I225 : Nat → Int32 → Int32 → Int32 → Int32 → Int32 → zModel → Prop, (∀ (n : Nat) (y1 : Int32) (y2 : Int32) (y3 : Int32) (y4 : Int32) (z : zModel), I9 n y1 y2 y3 y4 z → t_X11_crash0_9 y1 y2 y3 y4 z (fun q0 q1 q2 q3 q4 => ∃ k : Nat, k < n ∧ I9 k q0 q1 q2 q3 q4) (fun q0 q1 q2 q3 q4 q5 => ∃ k : Nat, k < n ∧ I25 k q0 q1 q2 q3 q4 q5) (fun q0 q1 q2 q3 q4 => ∃ k : Nat, k < n ∧ I215 k q0 q1 q2 q3 q4) (fun q0 q1 q2 q3 q4 q5 => ∃ k : Nat, k < n ∧ I225 k q0 q1 q2 q3 q4 q5) Q) ∧ (∀ (n : Nat) (y1 : Int32) (y2 : Int32) (y3 : Int32) (y4 : Int32) (y5 : Int32) (z : zModel), I25 n y1 y2 y3 y4 y5 z → t_X11_crash0_25 y1 y2 y3 y4 y5 z (fun q0 q1 q2 q3 q4 => ∃ k : Nat, k < n ∧ I9 k q0 q1 q2 q3 q4) (fun q0 q1 q2 q3 q4 q5 => ∃ k : Nat, k < n ∧ I25 k q0 q1 q2 q3 q4 q5) (fun q0 q1 q2 q3 q4 => ∃ k : Nat, k < n ∧ I215 k q0 q1 q2 q3 q4) (fun q0 q1 q2 q3 q4 q5 => ∃ k : Nat, k < n ∧ I225 k q0 q1 q2 q3 q4 q5) Q) ∧ (∀ (n : Nat) (y1 : Int32) (y2 : Int32) (y3 : Int32) (y4 : Int32) (z : zModel), I215 n y1 y2 y3 y4 z → t_X11_crash0_215 y1 y2 y3 y4 z (fun q0 q1 q2 q3 q4 => ∃ k : Nat, k < n ∧ I9 k q0 q1 q2 q3 q4) (fun q0 q1 q2 q3 q4 q5 => ∃ k : Nat, k < n ∧ I25 k q0 q1 q2 q3 q4 q5) (fun q0 q1 q2 q3 q4 => ∃ k : Nat, k < n ∧ I215 k q0 q1 q2 q3 q4) (fun q0 q1 q2 q3 q4 q5 => ∃ k : Nat, k < n ∧ I225 k q0 q1 q2 q3 q4 q5) Q) ∧ (∀ (n : Nat) (y1 : Int32) (y2 : Int32) (y3 : Int32) (y4 : Int32) (y5 : Int32) (z : zModel), I225 n y1 y2 y3 y4 y5 z → t_X11_crash0_225 y1 y2 y3 y4 y5 z (fun q0 q1 q2 q3 q4 => ∃ k : Nat, k < n ∧ I9 k q0 q1 q2 q3 q4) (fun q0 q1 q2 q3 q4 q5 => ∃ k : Nat, k < n ∧ I25 k q0 q1 q2 q3 q4 q5) (fun q0 q1 q2 q3 q4 => ∃ k : Nat, k < n ∧ I215 k q0 q1 q2 q3 q4) (fun q0 q1 q2 q3 q4 q5 => ∃ k : Nat, k < n ∧ I225 k q0 q1 q2 q3 q4 q5) Q) ∧ t_X11_crash0_e u (fun q0 q1 q2 q3 q4 => ∃ k : Nat, I9 k q0 q1 q2 q3 q4) (fun q0 q1 q2 q3 q4 q5 => ∃ k : Nat, I25 k q0 q1 q2 q3 q4 q5) (fun q0 q1 q2 q3 q4 => ∃ k : Nat, I215 k q0 q1 q2 q3 q4) (fun q0 q1 q2 q3 q4 q5 => ∃ k : Nat, I225 k q0 q1 q2 q3 q4 q5) Q
set_option maxHeartbeats 4000000 in
set_option maxRecDepth 100000 in
theorem L_X11_crash0 (l : Launch) (dC : Nat → ClassId) (dI : Nat → Nat → Nat) (cI cJ cS : ClassId) (a : Nat → Nat) (u : zModel) (Q : Int32 → zModel → Prop) (I9 : Nat → Int32 → Int32 → Int32 → Int32 → zModel → Prop) (I25 : Nat → Int32 → Int32 → Int32 → Int32 → Int32 → zModel → Prop) (I215 : Nat → Int32 → Int32 → Int32 → Int32 → zModel → Prop) (I225 : Nat → Int32 → Int32 → Int32 → Int32 → Int32 → zModel → Prop) (h9 : ∀ (n : Nat) (y1 : Int32) (y2 : Int32) (y3 : Int32) (y4 : Int32) (z : zModel), I9 n y1 y2 y3 y4 z → t_X11_crash0_9 y1 y2 y3 y4 z (fun q0 q1 q2 q3 q4 => ∃ k : Nat, k < n ∧ I9 k q0 q1 q2 q3 q4) (fun q0 q1 q2 q3 q4 q5 => ∃ k : Nat, k < n ∧ I25 k q0 q1 q2 q3 q4 q5) (fun q0 q1 q2 q3 q4 => ∃ k : Nat, k < n ∧ I215 k q0 q1 q2 q3 q4) (fun q0 q1 q2 q3 q4 q5 => ∃ k : Nat, k < n ∧ I225 k q0 q1 q2 q3 q4 q5) Q) (h25 : ∀ (n : Nat) (y1 : Int32) (y2 : Int32) (y3 : Int32) (y4 : Int32) (y5 : Int32) (z : zModel), I25 n y1 y2 y3 y4 y5 z → t_X11_crash0_25 y1 y2 y3 y4 y5 z (fun q0 q1 q2 q3 q4 => ∃ k : Nat, k < n ∧ I9 k q0 q1 q2 q3 q4) (fun q0 q1 q2 q3 q4 q5 => ∃ k : Nat, k < n ∧ I25 k q0 q1 q2 q3 q4 q5) (fun q0 q1 q2 q3 q4 => ∃ k : Nat, k < n ∧ I215 k q0 q1 q2 q3 q4) (fun q0 q1 q2 q3 q4 q5 => ∃ k : Nat, k < n ∧ I225 k q0 q1 q2 q3 q4 q5) Q) (h215 : ∀ (n : Nat) (y1 : Int32) (y2 : Int32) (y3 : Int32) (y4 : Int32) (z : zModel), I215 n y1 y2 y3 y4 z → t_X11_crash0_215 y1 y2 y3 y4 z (fun q0 q1 q2 q3 q4 => ∃ k : Nat, k < n ∧ I9 k q0 q1 q2 q3 q4) (fun q0 q1 q2 q3 q4 q5 => ∃ k : Nat, k < n ∧ I25 k q0 q1 q2 q3 q4 q5) (fun q0 q1 q2 q3 q4 => ∃ k : Nat, k < n ∧ I215 k q0 q1 q2 q3 q4) (fun q0 q1 q2 q3 q4 q5 => ∃ k : Nat, k < n ∧ I225 k q0 q1 q2 q3 q4 q5) Q) (h225 : ∀ (n : Nat) (y1 : Int32) (y2 : Int32) (y3 : Int32) (y4 : Int32) (y5 : Int32) (z : zModel), I225 n y1 y2 y3 y4 y5 z → t_X11_crash0_225 y1 y2 y3 y4 y5 z (fun q0 q1 q2 q3 q4 => ∃ k : Nat, k < n ∧ I9 k q0 q1 q2 q3 q4) (fun q0 q1 q2 q3 q4 q5 => ∃ k : Nat, k < n ∧ I25 k q0 q1 q2 q3 q4 q5) (fun q0 q1 q2 q3 q4 => ∃ k : Nat, k < n ∧ I215 k q0 q1 q2 q3 q4) (fun q0 q1 q2 q3 q4 q5 => ∃ k : Nat, k < n ∧ I225 k q0 q1 q2 q3 q4 q5) Q) (hf : t_X11_crash0_e u (fun q0 q1 q2 q3 q4 => ∃ k : Nat, I9 k q0 q1 q2 q3 q4) (fun q0 q1 q2 q3 q4 q5 => ∃ k : Nat, I25 k q0 q1 q2 q3 q4 q5) (fun q0 q1 q2 q3 q4 => ∃ k : Nat, I215 k q0 q1 q2 q3 q4) (fun q0 q1 q2 q3 q4 q5 => ∃ k : Nat, I225 k q0 q1 q2 q3 q4 q5) Q) : ∀ sz : Nat, Met l yX11_crash0 (Cond.code yX11_crash0 cX11_crash0 8 (some .int) :: zT) rm_X11_crash0 (zPm dC dI cI cJ cS (cl_X11 cI cJ a u) [.ref (a 0)] sz) (va_Qi Q (zB dC dI cI cJ cS (va_A (cl_X11 cI cJ a u) sz) (fun z => cl_X11 cI cJ a z)) (va_A (cl_X11 cI cJ a u) sz)) 0 0 (va_A (cl_X11 cI cJ a u) sz) := by
  intro sz
  refine z_enterM (Qc := fun A => va_Qi Q (zB dC dI cI cJ cS A (fun z => cl_X11 cI cJ a z)) A) (cc := cX11_crash0) (maxL := 8) (ret := (some .int)) (by decide) (Nat.le_of_ble_eq_true rfl) ?_
  intro p e s m below meth c ls A X hP hD hS hA hl
  obtain ⟨⟨hx, hb, hml, hown, hts⟩, hr, hlk, hK⟩ := id X
  have hl : lv_has ls 8 [(0, .ref (a 0))] := hl
  have LP : ∀ n : Nat, (∀ (y1 : Int32) (y2 : Int32) (y3 : Int32) (y4 : Int32) (z : zModel) (H : Heap) (locs : List Loc) (ls : Array Slot), I9 n y1 y2 y3 y4 z → va_P (dC, dI) vwCl (cl_X11 cI cJ a z) H → va_D A (cl_X11 cI cJ a z) → va_S A s.heap H locs → lv_has ls 8 [(0, .ref (a 0)), (1, .int y1), (2, .int y2), (3, .int y3), (4, .int y4)] → W p l e rm_X11_crash0 s m [.ref (a 0)].toArray below meth c H locs 0 0 (MQ below (va_Qi Q (zB dC dI cI cJ cS A (fun z => cl_X11 cI cJ a z)) A) [.ref (a 0)].toArray s 0 0 A) (F0 m 9 ls [])) ∧ (∀ (y1 : Int32) (y2 : Int32) (y3 : Int32) (y4 : Int32) (y5 : Int32) (z : zModel) (H : Heap) (locs : List Loc) (ls : Array Slot), I25 n y1 y2 y3 y4 y5 z → va_P (dC, dI) vwCl (cl_X11 cI cJ a z) H → va_D A (cl_X11 cI cJ a z) → va_S A s.heap H locs → lv_has ls 8 [(0, .ref (a 0)), (1, .int y1), (2, .int y2), (3, .int y3), (4, .int y4), (5, .int y5)] → W p l e rm_X11_crash0 s m [.ref (a 0)].toArray below meth c H locs 0 0 (MQ below (va_Qi Q (zB dC dI cI cJ cS A (fun z => cl_X11 cI cJ a z)) A) [.ref (a 0)].toArray s 0 0 A) (F0 m 25 ls [])) ∧ (∀ (y1 : Int32) (y2 : Int32) (y3 : Int32) (y4 : Int32) (z : zModel) (H : Heap) (locs : List Loc) (ls : Array Slot), I215 n y1 y2 y3 y4 z → va_P (dC, dI) vwCl (cl_X11 cI cJ a z) H → va_D A (cl_X11 cI cJ a z) → va_S A s.heap H locs → lv_has ls 8 [(0, .ref (a 0)), (1, .int y1), (2, .int y2), (3, .int y3), (4, .int y4)] → W p l e rm_X11_crash0 s m [.ref (a 0)].toArray below meth c H locs 0 0 (MQ below (va_Qi Q (zB dC dI cI cJ cS A (fun z => cl_X11 cI cJ a z)) A) [.ref (a 0)].toArray s 0 0 A) (F0 m 215 ls [])) ∧ (∀ (y1 : Int32) (y2 : Int32) (y3 : Int32) (y4 : Int32) (y5 : Int32) (z : zModel) (H : Heap) (locs : List Loc) (ls : Array Slot), I225 n y1 y2 y3 y4 y5 z → va_P (dC, dI) vwCl (cl_X11 cI cJ a z) H → va_D A (cl_X11 cI cJ a z) → va_S A s.heap H locs → lv_has ls 8 [(0, .ref (a 0)), (1, .int y1), (2, .int y2), (3, .int y3), (4, .int y4), (5, .int y5)] → W p l e rm_X11_crash0 s m [.ref (a 0)].toArray below meth c H locs 0 0 (MQ below (va_Qi Q (zB dC dI cI cJ cS A (fun z => cl_X11 cI cJ a z)) A) [.ref (a 0)].toArray s 0 0 A) (F0 m 225 ls [])) := by
    intro n
    induction n using Nat.strongRecOn with
    | _ n ih =>
      refine ⟨?_, ?_, ?_, ?_⟩
      · intro y1 y2 y3 y4 z H locs ls hI hP hD hS hl
        have hf := h9 n y1 y2 y3 y4 z hI
        unfold t_X11_crash0_9 at hf
        refine lv_iload hx hb dX11_crash0_9 (lv_at hl 4 rfl) ?_
        refine lv_bipush (v := 12) hx hb dX11_crash0_11 (by decide) ?_
        refine lv_icmp_ge (tgt := 193) hx hb dX11_crash0_13 (by decide) (fun c_2 => ?_) (fun c_2 => ?_)
        · have hf := hf.1 c_2
          refine lv_aload_n hx hb dX11_crash0_193 rfl (lv_at hl 0 rfl) ?_
          refine va_get (D := (dC, dI)) (ci := 10) (v := .ref (a 1)) (C := RX11) (T := TX11) (N := 17) hx hb hts inX11 hown hK hP 0 rfl rfl 1 (by decide) (hts _ q_fl_X11_7) (fun _ h9 => h9) rfl dX11_crash0_194 ?_
          refine lv_bipush (v := 66) hx hb dX11_crash0_197 (by decide) ?_
          refine lv_iconst (v := 3) hx hb dX11_crash0_199 (by decide) ?_
          refine lv_iload_n hx hb dX11_crash0_200 rfl (lv_at hl 3 rfl) ?_
          refine lv_imul hx hb dX11_crash0_201 ?_
          refine lv_iadd hx hb dX11_crash0_202 ?_
          refine lv_iconst (v := 0) hx hb dX11_crash0_203 (by decide) ?_
          refine lv_iadd hx hb dX11_crash0_204 ?_
          refine lv_iconst (v := 1) hx hb dX11_crash0_205 (by decide) ?_
          obtain ⟨hg, hf⟩ := hf
          refine z_iast (Wn := fun f_3 => cl_X11 cI cJ a (z.1, f_3, z.2.2)) X hP hD hS 1 0 rfl rfl hg (fun _ => rfl) dX11_crash0_206 (fun f_3 H locs ef_3 hP hD hS => ?_)
          have hf := hf f_3 ef_3
          refine lv_aload_n hx hb dX11_crash0_207 rfl (lv_at hl 0 rfl) ?_
          refine lv_iconst (v := 0) hx hb dX11_crash0_208 (by decide) ?_
          refine z_mVv (Wn := (fun u_5 => cl_X11 cI cJ a u_5)) (As := [.int (0 : Int32)]) (rest := []) (wr := []) X (c_X11_empties l dC dI cI cJ cS a (z.1, f_3, z.2.2) (0 : Int32) _ hf _) zc_X11_empties q_ml_X11_111 ⟨rfl, rfl⟩ ⟨Nat.le_of_ble_eq_true rfl, Nat.le_of_ble_eq_true rfl⟩ hP hD hS hA [0, 1, 2, 3, 4, 5, 6, 7, 8] [] rfl (by decide) rfl (by decide) (by decide) [0, 1, 2, 3, 4, 5, 6, 7, 8] (by decide) (fun _ => rfl) 10 rfl rfl hl.1 rfl rfl (Nat.le_of_ble_eq_true rfl) ⟨Nat.zero_le _, Nat.zero_le _⟩ dX11_crash0_209 (fun u_5 H locs hf hP hD hS => ?_)
          refine lv_iconst (v := 0) hx hb dX11_crash0_212 (by decide) ?_
          refine lv_istore (lv' := [(4, .int (0 : Int32)), (0, .ref (a 0)), (1, .int y1), (2, .int y2), (3, .int y3)]) hx hb dX11_crash0_213 hl (by decide) rfl (fun ls hl => ?_)
          obtain ⟨k_6, hk_6, hf⟩ := hf
          exact (ih k_6 hk_6).2.2.1 _ _ _ _ u_5 _ _ ls hf hP hD hS (lv_sub hl [1, 2, 3, 4, 0] rfl)
        · have hf := hf.2 c_2
          refine lv_aload_n hx hb dX11_crash0_16 rfl (lv_at hl 0 rfl) ?_
          refine lv_iload hx hb dX11_crash0_17 (lv_at hl 4 rfl) ?_
          refine lv_iconst (v := 1) hx hb dX11_crash0_19 (by decide) ?_
          refine z_cVi (As := [.int y4, .int (1 : Int32)]) (rest := []) X (c_X11_segmentAt l dC dI cI cJ cS a z y4 (1 : Int32) _ hf) zc_X11_segmentAt q_ml_X11_53 ⟨rfl, rfl⟩ ⟨Nat.le_of_ble_eq_true rfl, Nat.le_of_ble_eq_true rfl⟩ hP [0, 1, 2, 3, 4, 5, 6, 7, 8] rfl 10 rfl rfl hl.1 rfl rfl (Nat.le_of_ble_eq_true rfl) ⟨Nat.zero_le _, Nat.zero_le _⟩ dX11_crash0_20 (fun r_7 hf => ?_)
          refine lv_istore (lv' := [(5, .int r_7), (0, .ref (a 0)), (1, .int y1), (2, .int y2), (3, .int y3), (4, .int y4)]) hx hb dX11_crash0_23 hl (by decide) rfl (fun ls hl => ?_)
          obtain ⟨k_8, hk_8, hf⟩ := hf
          exact (ih k_8 hk_8).2.1 _ _ _ _ _ z _ _ ls hf hP hD hS (lv_sub hl [1, 2, 3, 4, 5, 0] rfl)
      · intro y1 y2 y3 y4 y5 z H locs ls hI hP hD hS hl
        have hf := h25 n y1 y2 y3 y4 y5 z hI
        unfold t_X11_crash0_25 at hf
        refine lv_iload hx hb dX11_crash0_25 (lv_at hl 5 rfl) ?_
        refine lv_if_le (tgt := 60) hx hb dX11_crash0_27 (by decide) (fun c_9 => ?_) (fun c_9 => ?_)
        · have hf := hf.1 c_9
          refine lv_aload_n hx hb dX11_crash0_60 rfl (lv_at hl 0 rfl) ?_
          refine va_get (D := (dC, dI)) (ci := 10) (v := .ref (a 1)) (C := RX11) (T := TX11) (N := 17) hx hb hts inX11 hown hK hP 0 rfl rfl 1 (by decide) (hts _ q_fl_X11_7) (fun _ h9 => h9) rfl dX11_crash0_61 ?_
          refine lv_bipush (v := 66) hx hb dX11_crash0_64 (by decide) ?_
          refine lv_iconst (v := 3) hx hb dX11_crash0_66 (by decide) ?_
          refine lv_iload hx hb dX11_crash0_67 (lv_at hl 4 rfl) ?_
          refine lv_imul hx hb dX11_crash0_69 ?_
          refine lv_iadd hx hb dX11_crash0_70 ?_
          refine lv_iconst (v := 1) hx hb dX11_crash0_71 (by decide) ?_
          refine lv_iadd hx hb dX11_crash0_72 ?_
          refine lv_iload hx hb dX11_crash0_73 (lv_at hl 5 rfl) ?_
          obtain ⟨hg, hf⟩ := hf
          refine z_iast (Wn := fun f_10 => cl_X11 cI cJ a (z.1, f_10, z.2.2)) X hP hD hS 1 0 rfl rfl hg (fun _ => rfl) dX11_crash0_75 (fun f_10 H locs ef_10 hP hD hS => ?_)
          have hf := hf f_10 ef_10
          refine lv_aload_n hx hb dX11_crash0_76 rfl (lv_at hl 0 rfl) ?_
          refine va_get (D := (dC, dI)) (ci := 10) (v := .ref (a 1)) (C := RX11) (T := TX11) (N := 17) hx hb hts inX11 hown hK hP 0 rfl rfl 1 (by decide) (hts _ q_fl_X11_7) (fun _ h9 => h9) rfl dX11_crash0_77 ?_
          refine lv_bipush (v := 66) hx hb dX11_crash0_80 (by decide) ?_
          refine lv_iconst (v := 3) hx hb dX11_crash0_82 (by decide) ?_
          refine lv_iload hx hb dX11_crash0_83 (lv_at hl 4 rfl) ?_
          refine lv_imul hx hb dX11_crash0_85 ?_
          refine lv_iadd hx hb dX11_crash0_86 ?_
          refine lv_iconst (v := 2) hx hb dX11_crash0_87 (by decide) ?_
          refine lv_iadd hx hb dX11_crash0_88 ?_
          refine lv_iload hx hb dX11_crash0_89 (lv_at hl 5 rfl) ?_
          refine lv_if_ne (tgt := 98) hx hb dX11_crash0_91 (by decide) (fun c_11 => ?_) (fun c_11 => ?_)
          · have hf := hf.1 c_11
            refine lv_aload_n hx hb dX11_crash0_98 rfl (lv_at hl 0 rfl) ?_
            refine lv_iload hx hb dX11_crash0_99 (lv_at hl 4 rfl) ?_
            refine lv_iload hx hb dX11_crash0_101 (lv_at hl 5 rfl) ?_
            refine lv_iconst (v := 1) hx hb dX11_crash0_103 (by decide) ?_
            refine lv_isub hx hb dX11_crash0_104 ?_
            refine lv_iconst (v := 4) hx hb dX11_crash0_105 (by decide) ?_
            refine z_cVi (As := [.int y4, .int (y5 - (1 : Int32)), .int (4 : Int32)]) (rest := [.int (((66 : Int32) + ((3 : Int32) * y4)) + (2 : Int32)), .ref (a 1)]) X (c_X11_noted l dC dI cI cJ cS a (z.1, f_10, z.2.2) y4 (y5 - (1 : Int32)) (4 : Int32) _ hf) zc_X11_noted q_ml_X11_77 ⟨rfl, rfl⟩ ⟨Nat.le_of_ble_eq_true rfl, Nat.le_of_ble_eq_true rfl⟩ hP [0, 1, 2, 3, 4, 5, 6, 7, 8] rfl 10 rfl rfl hl.1 rfl rfl (Nat.le_of_ble_eq_true rfl) ⟨Nat.zero_le _, Nat.zero_le _⟩ dX11_crash0_106 (fun r_12 hf => ?_)
            refine lv_aload_n hx hb dX11_crash0_109 rfl (lv_at hl 0 rfl) ?_
            refine lv_iload hx hb dX11_crash0_110 (lv_at hl 4 rfl) ?_
            refine lv_iload hx hb dX11_crash0_112 (lv_at hl 5 rfl) ?_
            refine lv_iconst (v := 1) hx hb dX11_crash0_114 (by decide) ?_
            refine lv_isub hx hb dX11_crash0_115 ?_
            refine lv_iconst (v := 1) hx hb dX11_crash0_116 (by decide) ?_
            refine z_cVi (As := [.int y4, .int (y5 - (1 : Int32)), .int (1 : Int32)]) (rest := [.int r_12, .int (((66 : Int32) + ((3 : Int32) * y4)) + (2 : Int32)), .ref (a 1)]) X (c_X11_noted l dC dI cI cJ cS a (z.1, f_10, z.2.2) y4 (y5 - (1 : Int32)) (1 : Int32) _ hf) zc_X11_noted q_ml_X11_77 ⟨rfl, rfl⟩ ⟨Nat.le_of_ble_eq_true rfl, Nat.le_of_ble_eq_true rfl⟩ hP [0, 1, 2, 3, 4, 5, 6, 7, 8] rfl 10 rfl rfl hl.1 rfl rfl (Nat.le_of_ble_eq_true rfl) ⟨Nat.zero_le _, Nat.zero_le _⟩ dX11_crash0_117 (fun r_13 hf => ?_)
            refine z_cSi (As := [.int r_13]) (rest := [.int r_12, .int (((66 : Int32) + ((3 : Int32) * y4)) + (2 : Int32)), .ref (a 1)]) X (c_X11_sizeOf l dC dI cI cJ cS   r_13 _ hf) zc_X11_sizeOf q_ml_X11_91 ⟨rfl, rfl⟩ ⟨Nat.le_of_ble_eq_true rfl, Nat.le_of_ble_eq_true rfl⟩ hP [] rfl hl.1 rfl rfl (Nat.le_of_ble_eq_true rfl) ⟨Nat.zero_le _, Nat.zero_le _⟩ dX11_crash0_120 (fun r_14 hf => ?_)
            refine lv_iadd hx hb dX11_crash0_123 ?_
            obtain ⟨hg, hf⟩ := hf
            refine z_iast (Wn := fun f_15 => cl_X11 cI cJ a (z.1, f_15, z.2.2)) X hP hD hS 1 0 rfl rfl hg (fun _ => rfl) dX11_crash0_124 (fun f_15 H locs ef_15 hP hD hS => ?_)
            have hf := hf f_15 ef_15
            refine lv_aload_n hx hb dX11_crash0_125 rfl (lv_at hl 0 rfl) ?_
            refine va_get (D := (dC, dI)) (ci := 10) (v := .ref (a 1)) (C := RX11) (T := TX11) (N := 17) hx hb hts inX11 hown hK hP 0 rfl rfl 1 (by decide) (hts _ q_fl_X11_7) (fun _ h9 => h9) rfl dX11_crash0_126 ?_
            refine lv_bipush (v := 66) hx hb dX11_crash0_129 (by decide) ?_
            refine lv_iconst (v := 3) hx hb dX11_crash0_131 (by decide) ?_
            refine lv_iload hx hb dX11_crash0_132 (lv_at hl 4 rfl) ?_
            refine lv_imul hx hb dX11_crash0_134 ?_
            refine lv_iadd hx hb dX11_crash0_135 ?_
            refine lv_iconst (v := 0) hx hb dX11_crash0_136 (by decide) ?_
            refine lv_iadd hx hb dX11_crash0_137 ?_
            refine lv_iload hx hb dX11_crash0_138 (lv_at hl 5 rfl) ?_
            refine lv_if_ne (tgt := 147) hx hb dX11_crash0_140 (by decide) (fun c_16 => ?_) (fun c_16 => ?_)
            · have hf := hf.1 c_16
              refine lv_iconst (v := 2) hx hb dX11_crash0_147 (by decide) ?_
              obtain ⟨hg, hf⟩ := hf
              refine z_iast (Wn := fun f_17 => cl_X11 cI cJ a (z.1, f_17, z.2.2)) X hP hD hS 1 0 rfl rfl hg (fun _ => rfl) dX11_crash0_148 (fun f_17 H locs ef_17 hP hD hS => ?_)
              have hf := hf f_17 ef_17
              refine lv_iload hx hb dX11_crash0_149 (lv_at hl 5 rfl) ?_
              refine lv_if_eq (tgt := 187) hx hb dX11_crash0_151 (by decide) (fun c_18 => ?_) (fun c_18 => ?_)
              · have hf := hf.1 c_18
                obtain ⟨x_19, ex_19⟩ : ∃ y : Int32, y = y4 + (1 : Int32) := ⟨_, rfl⟩
                have hf := hf x_19 ex_19
                refine lv_iinc (v := x_19) (lv' := [(4, .int x_19), (0, .ref (a 0)), (1, .int y1), (2, .int y2), (3, .int y3), (5, .int y5)]) hx hb dX11_crash0_187 hl (k := 4) rfl (by rw [ex_19]; rfl) (by decide) rfl (fun ls hl => ?_)
                refine lv_goto (tgt := 9) hx hb dX11_crash0_190 (by decide) ?_
                obtain ⟨k_20, hk_20, hf⟩ := hf
                exact (ih k_20 hk_20).1 _ _ _ _ (z.1, f_17, z.2.2) _ _ ls hf hP hD hS (lv_sub hl [1, 2, 3, 4, 0] rfl)
              · have hf := hf.2 c_18
                refine lv_aload_n hx hb dX11_crash0_154 rfl (lv_at hl 0 rfl) ?_
                refine lv_iload hx hb dX11_crash0_155 (lv_at hl 4 rfl) ?_
                refine lv_iload hx hb dX11_crash0_157 (lv_at hl 5 rfl) ?_
                refine lv_iconst (v := 1) hx hb dX11_crash0_159 (by decide) ?_
                refine lv_isub hx hb dX11_crash0_160 ?_
                refine lv_iconst (v := 3) hx hb dX11_crash0_161 (by decide) ?_
                refine z_cVi (As := [.int y4, .int (y5 - (1 : Int32)), .int (3 : Int32)]) (rest := []) X (c_X11_noted l dC dI cI cJ cS a (z.1, f_17, z.2.2) y4 (y5 - (1 : Int32)) (3 : Int32) _ hf) zc_X11_noted q_ml_X11_77 ⟨rfl, rfl⟩ ⟨Nat.le_of_ble_eq_true rfl, Nat.le_of_ble_eq_true rfl⟩ hP [0, 1, 2, 3, 4, 5, 6, 7, 8] rfl 10 rfl rfl hl.1 rfl rfl (Nat.le_of_ble_eq_true rfl) ⟨Nat.zero_le _, Nat.zero_le _⟩ dX11_crash0_162 (fun r_21 hf => ?_)
                refine lv_iload_n hx hb dX11_crash0_165 rfl (lv_at hl 2 rfl) ?_
                refine lv_icmp_gt (tgt := 172) hx hb dX11_crash0_166 (by decide) (fun c_22 => ?_) (fun c_22 => ?_)
                · have hf := hf.1 c_22
                  refine lv_aload_n hx hb dX11_crash0_172 rfl (lv_at hl 0 rfl) ?_
                  refine lv_iload hx hb dX11_crash0_173 (lv_at hl 4 rfl) ?_
                  refine lv_iload hx hb dX11_crash0_175 (lv_at hl 5 rfl) ?_
                  refine lv_iconst (v := 1) hx hb dX11_crash0_177 (by decide) ?_
                  refine lv_isub hx hb dX11_crash0_178 ?_
                  refine lv_iconst (v := 3) hx hb dX11_crash0_179 (by decide) ?_
                  refine z_cVi (As := [.int y4, .int (y5 - (1 : Int32)), .int (3 : Int32)]) (rest := []) X (c_X11_noted l dC dI cI cJ cS a (z.1, f_17, z.2.2) y4 (y5 - (1 : Int32)) (3 : Int32) _ hf) zc_X11_noted q_ml_X11_77 ⟨rfl, rfl⟩ ⟨Nat.le_of_ble_eq_true rfl, Nat.le_of_ble_eq_true rfl⟩ hP [0, 1, 2, 3, 4, 5, 6, 7, 8] rfl 10 rfl rfl hl.1 rfl rfl (Nat.le_of_ble_eq_true rfl) ⟨Nat.zero_le _, Nat.zero_le _⟩ dX11_crash0_180 (fun r_23 hf => ?_)
                  refine lv_istore_n (lv' := [(2, .int r_23), (0, .ref (a 0)), (1, .int y1), (3, .int y3), (4, .int y4), (5, .int y5)]) hx hb dX11_crash0_183 rfl hl (by decide) rfl (fun ls hl => ?_)
                  refine lv_iload hx hb dX11_crash0_184 (lv_at hl 4 rfl) ?_
                  refine lv_istore_n (lv' := [(3, .int y4), (2, .int r_23), (0, .ref (a 0)), (1, .int y1), (4, .int y4), (5, .int y5)]) hx hb dX11_crash0_186 rfl hl (by decide) rfl (fun ls hl => ?_)
                  obtain ⟨x_24, ex_24⟩ : ∃ y : Int32, y = y4 + (1 : Int32) := ⟨_, rfl⟩
                  have hf := hf x_24 ex_24
                  refine lv_iinc (v := x_24) (lv' := [(4, .int x_24), (3, .int y4), (2, .int r_23), (0, .ref (a 0)), (1, .int y1), (5, .int y5)]) hx hb dX11_crash0_187 hl (k := 4) rfl (by rw [ex_24]; rfl) (by decide) rfl (fun ls hl => ?_)
                  refine lv_goto (tgt := 9) hx hb dX11_crash0_190 (by decide) ?_
                  obtain ⟨k_25, hk_25, hf⟩ := hf
                  exact (ih k_25 hk_25).1 _ _ _ _ (z.1, f_17, z.2.2) _ _ ls hf hP hD hS (lv_sub hl [3, 4, 2, 1, 0] rfl)
                · have hf := hf.2 c_22
                  refine lv_goto (tgt := 187) hx hb dX11_crash0_169 (by decide) ?_
                  obtain ⟨x_26, ex_26⟩ : ∃ y : Int32, y = y4 + (1 : Int32) := ⟨_, rfl⟩
                  have hf := hf x_26 ex_26
                  refine lv_iinc (v := x_26) (lv' := [(4, .int x_26), (0, .ref (a 0)), (1, .int y1), (2, .int y2), (3, .int y3), (5, .int y5)]) hx hb dX11_crash0_187 hl (k := 4) rfl (by rw [ex_26]; rfl) (by decide) rfl (fun ls hl => ?_)
                  refine lv_goto (tgt := 9) hx hb dX11_crash0_190 (by decide) ?_
                  obtain ⟨k_27, hk_27, hf⟩ := hf
                  exact (ih k_27 hk_27).1 _ _ _ _ (z.1, f_17, z.2.2) _ _ ls hf hP hD hS (lv_sub hl [1, 2, 3, 4, 0] rfl)
            · have hf := hf.2 c_16
              refine lv_iconst (v := 0) hx hb dX11_crash0_143 (by decide) ?_
              refine lv_goto (tgt := 148) hx hb dX11_crash0_144 (by decide) ?_
              obtain ⟨hg, hf⟩ := hf
              refine z_iast (Wn := fun f_28 => cl_X11 cI cJ a (z.1, f_28, z.2.2)) X hP hD hS 1 0 rfl rfl hg (fun _ => rfl) dX11_crash0_148 (fun f_28 H locs ef_28 hP hD hS => ?_)
              have hf := hf f_28 ef_28
              refine lv_iload hx hb dX11_crash0_149 (lv_at hl 5 rfl) ?_
              refine lv_if_eq (tgt := 187) hx hb dX11_crash0_151 (by decide) (fun c_29 => ?_) (fun c_29 => ?_)
              · have hf := hf.1 c_29
                obtain ⟨x_30, ex_30⟩ : ∃ y : Int32, y = y4 + (1 : Int32) := ⟨_, rfl⟩
                have hf := hf x_30 ex_30
                refine lv_iinc (v := x_30) (lv' := [(4, .int x_30), (0, .ref (a 0)), (1, .int y1), (2, .int y2), (3, .int y3), (5, .int y5)]) hx hb dX11_crash0_187 hl (k := 4) rfl (by rw [ex_30]; rfl) (by decide) rfl (fun ls hl => ?_)
                refine lv_goto (tgt := 9) hx hb dX11_crash0_190 (by decide) ?_
                obtain ⟨k_31, hk_31, hf⟩ := hf
                exact (ih k_31 hk_31).1 _ _ _ _ (z.1, f_28, z.2.2) _ _ ls hf hP hD hS (lv_sub hl [1, 2, 3, 4, 0] rfl)
              · have hf := hf.2 c_29
                refine lv_aload_n hx hb dX11_crash0_154 rfl (lv_at hl 0 rfl) ?_
                refine lv_iload hx hb dX11_crash0_155 (lv_at hl 4 rfl) ?_
                refine lv_iload hx hb dX11_crash0_157 (lv_at hl 5 rfl) ?_
                refine lv_iconst (v := 1) hx hb dX11_crash0_159 (by decide) ?_
                refine lv_isub hx hb dX11_crash0_160 ?_
                refine lv_iconst (v := 3) hx hb dX11_crash0_161 (by decide) ?_
                refine z_cVi (As := [.int y4, .int (y5 - (1 : Int32)), .int (3 : Int32)]) (rest := []) X (c_X11_noted l dC dI cI cJ cS a (z.1, f_28, z.2.2) y4 (y5 - (1 : Int32)) (3 : Int32) _ hf) zc_X11_noted q_ml_X11_77 ⟨rfl, rfl⟩ ⟨Nat.le_of_ble_eq_true rfl, Nat.le_of_ble_eq_true rfl⟩ hP [0, 1, 2, 3, 4, 5, 6, 7, 8] rfl 10 rfl rfl hl.1 rfl rfl (Nat.le_of_ble_eq_true rfl) ⟨Nat.zero_le _, Nat.zero_le _⟩ dX11_crash0_162 (fun r_32 hf => ?_)
                refine lv_iload_n hx hb dX11_crash0_165 rfl (lv_at hl 2 rfl) ?_
                refine lv_icmp_gt (tgt := 172) hx hb dX11_crash0_166 (by decide) (fun c_33 => ?_) (fun c_33 => ?_)
                · have hf := hf.1 c_33
                  refine lv_aload_n hx hb dX11_crash0_172 rfl (lv_at hl 0 rfl) ?_
                  refine lv_iload hx hb dX11_crash0_173 (lv_at hl 4 rfl) ?_
                  refine lv_iload hx hb dX11_crash0_175 (lv_at hl 5 rfl) ?_
                  refine lv_iconst (v := 1) hx hb dX11_crash0_177 (by decide) ?_
                  refine lv_isub hx hb dX11_crash0_178 ?_
                  refine lv_iconst (v := 3) hx hb dX11_crash0_179 (by decide) ?_
                  refine z_cVi (As := [.int y4, .int (y5 - (1 : Int32)), .int (3 : Int32)]) (rest := []) X (c_X11_noted l dC dI cI cJ cS a (z.1, f_28, z.2.2) y4 (y5 - (1 : Int32)) (3 : Int32) _ hf) zc_X11_noted q_ml_X11_77 ⟨rfl, rfl⟩ ⟨Nat.le_of_ble_eq_true rfl, Nat.le_of_ble_eq_true rfl⟩ hP [0, 1, 2, 3, 4, 5, 6, 7, 8] rfl 10 rfl rfl hl.1 rfl rfl (Nat.le_of_ble_eq_true rfl) ⟨Nat.zero_le _, Nat.zero_le _⟩ dX11_crash0_180 (fun r_34 hf => ?_)
                  refine lv_istore_n (lv' := [(2, .int r_34), (0, .ref (a 0)), (1, .int y1), (3, .int y3), (4, .int y4), (5, .int y5)]) hx hb dX11_crash0_183 rfl hl (by decide) rfl (fun ls hl => ?_)
                  refine lv_iload hx hb dX11_crash0_184 (lv_at hl 4 rfl) ?_
                  refine lv_istore_n (lv' := [(3, .int y4), (2, .int r_34), (0, .ref (a 0)), (1, .int y1), (4, .int y4), (5, .int y5)]) hx hb dX11_crash0_186 rfl hl (by decide) rfl (fun ls hl => ?_)
                  obtain ⟨x_35, ex_35⟩ : ∃ y : Int32, y = y4 + (1 : Int32) := ⟨_, rfl⟩
                  have hf := hf x_35 ex_35
                  refine lv_iinc (v := x_35) (lv' := [(4, .int x_35), (3, .int y4), (2, .int r_34), (0, .ref (a 0)), (1, .int y1), (5, .int y5)]) hx hb dX11_crash0_187 hl (k := 4) rfl (by rw [ex_35]; rfl) (by decide) rfl (fun ls hl => ?_)
                  refine lv_goto (tgt := 9) hx hb dX11_crash0_190 (by decide) ?_
                  obtain ⟨k_36, hk_36, hf⟩ := hf
                  exact (ih k_36 hk_36).1 _ _ _ _ (z.1, f_28, z.2.2) _ _ ls hf hP hD hS (lv_sub hl [3, 4, 2, 1, 0] rfl)
                · have hf := hf.2 c_33
                  refine lv_goto (tgt := 187) hx hb dX11_crash0_169 (by decide) ?_
                  obtain ⟨x_37, ex_37⟩ : ∃ y : Int32, y = y4 + (1 : Int32) := ⟨_, rfl⟩
                  have hf := hf x_37 ex_37
                  refine lv_iinc (v := x_37) (lv' := [(4, .int x_37), (0, .ref (a 0)), (1, .int y1), (2, .int y2), (3, .int y3), (5, .int y5)]) hx hb dX11_crash0_187 hl (k := 4) rfl (by rw [ex_37]; rfl) (by decide) rfl (fun ls hl => ?_)
                  refine lv_goto (tgt := 9) hx hb dX11_crash0_190 (by decide) ?_
                  obtain ⟨k_38, hk_38, hf⟩ := hf
                  exact (ih k_38 hk_38).1 _ _ _ _ (z.1, f_28, z.2.2) _ _ ls hf hP hD hS (lv_sub hl [1, 2, 3, 4, 0] rfl)
          · have hf := hf.2 c_11
            refine lv_iconst (v := 0) hx hb dX11_crash0_94 (by decide) ?_
            refine lv_goto (tgt := 124) hx hb dX11_crash0_95 (by decide) ?_
            obtain ⟨hg, hf⟩ := hf
            refine z_iast (Wn := fun f_39 => cl_X11 cI cJ a (z.1, f_39, z.2.2)) X hP hD hS 1 0 rfl rfl hg (fun _ => rfl) dX11_crash0_124 (fun f_39 H locs ef_39 hP hD hS => ?_)
            have hf := hf f_39 ef_39
            refine lv_aload_n hx hb dX11_crash0_125 rfl (lv_at hl 0 rfl) ?_
            refine va_get (D := (dC, dI)) (ci := 10) (v := .ref (a 1)) (C := RX11) (T := TX11) (N := 17) hx hb hts inX11 hown hK hP 0 rfl rfl 1 (by decide) (hts _ q_fl_X11_7) (fun _ h9 => h9) rfl dX11_crash0_126 ?_
            refine lv_bipush (v := 66) hx hb dX11_crash0_129 (by decide) ?_
            refine lv_iconst (v := 3) hx hb dX11_crash0_131 (by decide) ?_
            refine lv_iload hx hb dX11_crash0_132 (lv_at hl 4 rfl) ?_
            refine lv_imul hx hb dX11_crash0_134 ?_
            refine lv_iadd hx hb dX11_crash0_135 ?_
            refine lv_iconst (v := 0) hx hb dX11_crash0_136 (by decide) ?_
            refine lv_iadd hx hb dX11_crash0_137 ?_
            refine lv_iload hx hb dX11_crash0_138 (lv_at hl 5 rfl) ?_
            refine lv_if_ne (tgt := 147) hx hb dX11_crash0_140 (by decide) (fun c_40 => ?_) (fun c_40 => ?_)
            · have hf := hf.1 c_40
              refine lv_iconst (v := 2) hx hb dX11_crash0_147 (by decide) ?_
              obtain ⟨hg, hf⟩ := hf
              refine z_iast (Wn := fun f_41 => cl_X11 cI cJ a (z.1, f_41, z.2.2)) X hP hD hS 1 0 rfl rfl hg (fun _ => rfl) dX11_crash0_148 (fun f_41 H locs ef_41 hP hD hS => ?_)
              have hf := hf f_41 ef_41
              refine lv_iload hx hb dX11_crash0_149 (lv_at hl 5 rfl) ?_
              refine lv_if_eq (tgt := 187) hx hb dX11_crash0_151 (by decide) (fun c_42 => ?_) (fun c_42 => ?_)
              · have hf := hf.1 c_42
                obtain ⟨x_43, ex_43⟩ : ∃ y : Int32, y = y4 + (1 : Int32) := ⟨_, rfl⟩
                have hf := hf x_43 ex_43
                refine lv_iinc (v := x_43) (lv' := [(4, .int x_43), (0, .ref (a 0)), (1, .int y1), (2, .int y2), (3, .int y3), (5, .int y5)]) hx hb dX11_crash0_187 hl (k := 4) rfl (by rw [ex_43]; rfl) (by decide) rfl (fun ls hl => ?_)
                refine lv_goto (tgt := 9) hx hb dX11_crash0_190 (by decide) ?_
                obtain ⟨k_44, hk_44, hf⟩ := hf
                exact (ih k_44 hk_44).1 _ _ _ _ (z.1, f_41, z.2.2) _ _ ls hf hP hD hS (lv_sub hl [1, 2, 3, 4, 0] rfl)
              · have hf := hf.2 c_42
                refine lv_aload_n hx hb dX11_crash0_154 rfl (lv_at hl 0 rfl) ?_
                refine lv_iload hx hb dX11_crash0_155 (lv_at hl 4 rfl) ?_
                refine lv_iload hx hb dX11_crash0_157 (lv_at hl 5 rfl) ?_
                refine lv_iconst (v := 1) hx hb dX11_crash0_159 (by decide) ?_
                refine lv_isub hx hb dX11_crash0_160 ?_
                refine lv_iconst (v := 3) hx hb dX11_crash0_161 (by decide) ?_
                refine z_cVi (As := [.int y4, .int (y5 - (1 : Int32)), .int (3 : Int32)]) (rest := []) X (c_X11_noted l dC dI cI cJ cS a (z.1, f_41, z.2.2) y4 (y5 - (1 : Int32)) (3 : Int32) _ hf) zc_X11_noted q_ml_X11_77 ⟨rfl, rfl⟩ ⟨Nat.le_of_ble_eq_true rfl, Nat.le_of_ble_eq_true rfl⟩ hP [0, 1, 2, 3, 4, 5, 6, 7, 8] rfl 10 rfl rfl hl.1 rfl rfl (Nat.le_of_ble_eq_true rfl) ⟨Nat.zero_le _, Nat.zero_le _⟩ dX11_crash0_162 (fun r_45 hf => ?_)
                refine lv_iload_n hx hb dX11_crash0_165 rfl (lv_at hl 2 rfl) ?_
                refine lv_icmp_gt (tgt := 172) hx hb dX11_crash0_166 (by decide) (fun c_46 => ?_) (fun c_46 => ?_)
                · have hf := hf.1 c_46
                  refine lv_aload_n hx hb dX11_crash0_172 rfl (lv_at hl 0 rfl) ?_
                  refine lv_iload hx hb dX11_crash0_173 (lv_at hl 4 rfl) ?_
                  refine lv_iload hx hb dX11_crash0_175 (lv_at hl 5 rfl) ?_
                  refine lv_iconst (v := 1) hx hb dX11_crash0_177 (by decide) ?_
                  refine lv_isub hx hb dX11_crash0_178 ?_
                  refine lv_iconst (v := 3) hx hb dX11_crash0_179 (by decide) ?_
                  refine z_cVi (As := [.int y4, .int (y5 - (1 : Int32)), .int (3 : Int32)]) (rest := []) X (c_X11_noted l dC dI cI cJ cS a (z.1, f_41, z.2.2) y4 (y5 - (1 : Int32)) (3 : Int32) _ hf) zc_X11_noted q_ml_X11_77 ⟨rfl, rfl⟩ ⟨Nat.le_of_ble_eq_true rfl, Nat.le_of_ble_eq_true rfl⟩ hP [0, 1, 2, 3, 4, 5, 6, 7, 8] rfl 10 rfl rfl hl.1 rfl rfl (Nat.le_of_ble_eq_true rfl) ⟨Nat.zero_le _, Nat.zero_le _⟩ dX11_crash0_180 (fun r_47 hf => ?_)
                  refine lv_istore_n (lv' := [(2, .int r_47), (0, .ref (a 0)), (1, .int y1), (3, .int y3), (4, .int y4), (5, .int y5)]) hx hb dX11_crash0_183 rfl hl (by decide) rfl (fun ls hl => ?_)
                  refine lv_iload hx hb dX11_crash0_184 (lv_at hl 4 rfl) ?_
                  refine lv_istore_n (lv' := [(3, .int y4), (2, .int r_47), (0, .ref (a 0)), (1, .int y1), (4, .int y4), (5, .int y5)]) hx hb dX11_crash0_186 rfl hl (by decide) rfl (fun ls hl => ?_)
                  obtain ⟨x_48, ex_48⟩ : ∃ y : Int32, y = y4 + (1 : Int32) := ⟨_, rfl⟩
                  have hf := hf x_48 ex_48
                  refine lv_iinc (v := x_48) (lv' := [(4, .int x_48), (3, .int y4), (2, .int r_47), (0, .ref (a 0)), (1, .int y1), (5, .int y5)]) hx hb dX11_crash0_187 hl (k := 4) rfl (by rw [ex_48]; rfl) (by decide) rfl (fun ls hl => ?_)
                  refine lv_goto (tgt := 9) hx hb dX11_crash0_190 (by decide) ?_
                  obtain ⟨k_49, hk_49, hf⟩ := hf
                  exact (ih k_49 hk_49).1 _ _ _ _ (z.1, f_41, z.2.2) _ _ ls hf hP hD hS (lv_sub hl [3, 4, 2, 1, 0] rfl)
                · have hf := hf.2 c_46
                  refine lv_goto (tgt := 187) hx hb dX11_crash0_169 (by decide) ?_
                  obtain ⟨x_50, ex_50⟩ : ∃ y : Int32, y = y4 + (1 : Int32) := ⟨_, rfl⟩
                  have hf := hf x_50 ex_50
                  refine lv_iinc (v := x_50) (lv' := [(4, .int x_50), (0, .ref (a 0)), (1, .int y1), (2, .int y2), (3, .int y3), (5, .int y5)]) hx hb dX11_crash0_187 hl (k := 4) rfl (by rw [ex_50]; rfl) (by decide) rfl (fun ls hl => ?_)
                  refine lv_goto (tgt := 9) hx hb dX11_crash0_190 (by decide) ?_
                  obtain ⟨k_51, hk_51, hf⟩ := hf
                  exact (ih k_51 hk_51).1 _ _ _ _ (z.1, f_41, z.2.2) _ _ ls hf hP hD hS (lv_sub hl [1, 2, 3, 4, 0] rfl)
            · have hf := hf.2 c_40
              refine lv_iconst (v := 0) hx hb dX11_crash0_143 (by decide) ?_
              refine lv_goto (tgt := 148) hx hb dX11_crash0_144 (by decide) ?_
              obtain ⟨hg, hf⟩ := hf
              refine z_iast (Wn := fun f_52 => cl_X11 cI cJ a (z.1, f_52, z.2.2)) X hP hD hS 1 0 rfl rfl hg (fun _ => rfl) dX11_crash0_148 (fun f_52 H locs ef_52 hP hD hS => ?_)
              have hf := hf f_52 ef_52
              refine lv_iload hx hb dX11_crash0_149 (lv_at hl 5 rfl) ?_
              refine lv_if_eq (tgt := 187) hx hb dX11_crash0_151 (by decide) (fun c_53 => ?_) (fun c_53 => ?_)
              · have hf := hf.1 c_53
                obtain ⟨x_54, ex_54⟩ : ∃ y : Int32, y = y4 + (1 : Int32) := ⟨_, rfl⟩
                have hf := hf x_54 ex_54
                refine lv_iinc (v := x_54) (lv' := [(4, .int x_54), (0, .ref (a 0)), (1, .int y1), (2, .int y2), (3, .int y3), (5, .int y5)]) hx hb dX11_crash0_187 hl (k := 4) rfl (by rw [ex_54]; rfl) (by decide) rfl (fun ls hl => ?_)
                refine lv_goto (tgt := 9) hx hb dX11_crash0_190 (by decide) ?_
                obtain ⟨k_55, hk_55, hf⟩ := hf
                exact (ih k_55 hk_55).1 _ _ _ _ (z.1, f_52, z.2.2) _ _ ls hf hP hD hS (lv_sub hl [1, 2, 3, 4, 0] rfl)
              · have hf := hf.2 c_53
                refine lv_aload_n hx hb dX11_crash0_154 rfl (lv_at hl 0 rfl) ?_
                refine lv_iload hx hb dX11_crash0_155 (lv_at hl 4 rfl) ?_
                refine lv_iload hx hb dX11_crash0_157 (lv_at hl 5 rfl) ?_
                refine lv_iconst (v := 1) hx hb dX11_crash0_159 (by decide) ?_
                refine lv_isub hx hb dX11_crash0_160 ?_
                refine lv_iconst (v := 3) hx hb dX11_crash0_161 (by decide) ?_
                refine z_cVi (As := [.int y4, .int (y5 - (1 : Int32)), .int (3 : Int32)]) (rest := []) X (c_X11_noted l dC dI cI cJ cS a (z.1, f_52, z.2.2) y4 (y5 - (1 : Int32)) (3 : Int32) _ hf) zc_X11_noted q_ml_X11_77 ⟨rfl, rfl⟩ ⟨Nat.le_of_ble_eq_true rfl, Nat.le_of_ble_eq_true rfl⟩ hP [0, 1, 2, 3, 4, 5, 6, 7, 8] rfl 10 rfl rfl hl.1 rfl rfl (Nat.le_of_ble_eq_true rfl) ⟨Nat.zero_le _, Nat.zero_le _⟩ dX11_crash0_162 (fun r_56 hf => ?_)
                refine lv_iload_n hx hb dX11_crash0_165 rfl (lv_at hl 2 rfl) ?_
                refine lv_icmp_gt (tgt := 172) hx hb dX11_crash0_166 (by decide) (fun c_57 => ?_) (fun c_57 => ?_)
                · have hf := hf.1 c_57
                  refine lv_aload_n hx hb dX11_crash0_172 rfl (lv_at hl 0 rfl) ?_
                  refine lv_iload hx hb dX11_crash0_173 (lv_at hl 4 rfl) ?_
                  refine lv_iload hx hb dX11_crash0_175 (lv_at hl 5 rfl) ?_
                  refine lv_iconst (v := 1) hx hb dX11_crash0_177 (by decide) ?_
                  refine lv_isub hx hb dX11_crash0_178 ?_
                  refine lv_iconst (v := 3) hx hb dX11_crash0_179 (by decide) ?_
                  refine z_cVi (As := [.int y4, .int (y5 - (1 : Int32)), .int (3 : Int32)]) (rest := []) X (c_X11_noted l dC dI cI cJ cS a (z.1, f_52, z.2.2) y4 (y5 - (1 : Int32)) (3 : Int32) _ hf) zc_X11_noted q_ml_X11_77 ⟨rfl, rfl⟩ ⟨Nat.le_of_ble_eq_true rfl, Nat.le_of_ble_eq_true rfl⟩ hP [0, 1, 2, 3, 4, 5, 6, 7, 8] rfl 10 rfl rfl hl.1 rfl rfl (Nat.le_of_ble_eq_true rfl) ⟨Nat.zero_le _, Nat.zero_le _⟩ dX11_crash0_180 (fun r_58 hf => ?_)
                  refine lv_istore_n (lv' := [(2, .int r_58), (0, .ref (a 0)), (1, .int y1), (3, .int y3), (4, .int y4), (5, .int y5)]) hx hb dX11_crash0_183 rfl hl (by decide) rfl (fun ls hl => ?_)
                  refine lv_iload hx hb dX11_crash0_184 (lv_at hl 4 rfl) ?_
                  refine lv_istore_n (lv' := [(3, .int y4), (2, .int r_58), (0, .ref (a 0)), (1, .int y1), (4, .int y4), (5, .int y5)]) hx hb dX11_crash0_186 rfl hl (by decide) rfl (fun ls hl => ?_)
                  obtain ⟨x_59, ex_59⟩ : ∃ y : Int32, y = y4 + (1 : Int32) := ⟨_, rfl⟩
                  have hf := hf x_59 ex_59
                  refine lv_iinc (v := x_59) (lv' := [(4, .int x_59), (3, .int y4), (2, .int r_58), (0, .ref (a 0)), (1, .int y1), (5, .int y5)]) hx hb dX11_crash0_187 hl (k := 4) rfl (by rw [ex_59]; rfl) (by decide) rfl (fun ls hl => ?_)
                  refine lv_goto (tgt := 9) hx hb dX11_crash0_190 (by decide) ?_
                  obtain ⟨k_60, hk_60, hf⟩ := hf
                  exact (ih k_60 hk_60).1 _ _ _ _ (z.1, f_52, z.2.2) _ _ ls hf hP hD hS (lv_sub hl [3, 4, 2, 1, 0] rfl)
                · have hf := hf.2 c_57
                  refine lv_goto (tgt := 187) hx hb dX11_crash0_169 (by decide) ?_
                  obtain ⟨x_61, ex_61⟩ : ∃ y : Int32, y = y4 + (1 : Int32) := ⟨_, rfl⟩
                  have hf := hf x_61 ex_61
                  refine lv_iinc (v := x_61) (lv' := [(4, .int x_61), (0, .ref (a 0)), (1, .int y1), (2, .int y2), (3, .int y3), (5, .int y5)]) hx hb dX11_crash0_187 hl (k := 4) rfl (by rw [ex_61]; rfl) (by decide) rfl (fun ls hl => ?_)
                  refine lv_goto (tgt := 9) hx hb dX11_crash0_190 (by decide) ?_
                  obtain ⟨k_62, hk_62, hf⟩ := hf
                  exact (ih k_62 hk_62).1 _ _ _ _ (z.1, f_52, z.2.2) _ _ ls hf hP hD hS (lv_sub hl [1, 2, 3, 4, 0] rfl)
        · have hf := hf.2 c_9
          refine lv_aload_n hx hb dX11_crash0_30 rfl (lv_at hl 0 rfl) ?_
          refine lv_iload hx hb dX11_crash0_31 (lv_at hl 4 rfl) ?_
          refine lv_iload hx hb dX11_crash0_33 (lv_at hl 5 rfl) ?_
          refine lv_iconst (v := 1) hx hb dX11_crash0_35 (by decide) ?_
          refine lv_isub hx hb dX11_crash0_36 ?_
          refine lv_iconst (v := 3) hx hb dX11_crash0_37 (by decide) ?_
          refine z_cVi (As := [.int y4, .int (y5 - (1 : Int32)), .int (3 : Int32)]) (rest := []) X (c_X11_noted l dC dI cI cJ cS a z y4 (y5 - (1 : Int32)) (3 : Int32) _ hf) zc_X11_noted q_ml_X11_77 ⟨rfl, rfl⟩ ⟨Nat.le_of_ble_eq_true rfl, Nat.le_of_ble_eq_true rfl⟩ hP [0, 1, 2, 3, 4, 5, 6, 7, 8] rfl 10 rfl rfl hl.1 rfl rfl (Nat.le_of_ble_eq_true rfl) ⟨Nat.zero_le _, Nat.zero_le _⟩ dX11_crash0_38 (fun r_63 hf => ?_)
          refine lv_aload_n hx hb dX11_crash0_41 rfl (lv_at hl 0 rfl) ?_
          refine va_get (D := (dC, dI)) (ci := 10) (v := .ref (a 1)) (C := RX11) (T := TX11) (N := 17) hx hb hts inX11 hown hK hP 0 rfl rfl 1 (by decide) (hts _ q_fl_X11_7) (fun _ h9 => h9) rfl dX11_crash0_42 ?_
          refine lv_bipush (v := 6) hx hb dX11_crash0_45 (by decide) ?_
          obtain ⟨hg, hf⟩ := hf
          refine va_iald hx hb hK hP 1 0 rfl rfl hg dX11_crash0_47 ?_
          refine lv_icmp_le (tgt := 60) hx hb dX11_crash0_48 (by decide) (fun c_64 => ?_) (fun c_64 => ?_)
          · have hf := hf.1 c_64
            refine lv_aload_n hx hb dX11_crash0_60 rfl (lv_at hl 0 rfl) ?_
            refine va_get (D := (dC, dI)) (ci := 10) (v := .ref (a 1)) (C := RX11) (T := TX11) (N := 17) hx hb hts inX11 hown hK hP 0 rfl rfl 1 (by decide) (hts _ q_fl_X11_7) (fun _ h9 => h9) rfl dX11_crash0_61 ?_
            refine lv_bipush (v := 66) hx hb dX11_crash0_64 (by decide) ?_
            refine lv_iconst (v := 3) hx hb dX11_crash0_66 (by decide) ?_
            refine lv_iload hx hb dX11_crash0_67 (lv_at hl 4 rfl) ?_
            refine lv_imul hx hb dX11_crash0_69 ?_
            refine lv_iadd hx hb dX11_crash0_70 ?_
            refine lv_iconst (v := 1) hx hb dX11_crash0_71 (by decide) ?_
            refine lv_iadd hx hb dX11_crash0_72 ?_
            refine lv_iload hx hb dX11_crash0_73 (lv_at hl 5 rfl) ?_
            obtain ⟨hg, hf⟩ := hf
            refine z_iast (Wn := fun f_65 => cl_X11 cI cJ a (z.1, f_65, z.2.2)) X hP hD hS 1 0 rfl rfl hg (fun _ => rfl) dX11_crash0_75 (fun f_65 H locs ef_65 hP hD hS => ?_)
            have hf := hf f_65 ef_65
            refine lv_aload_n hx hb dX11_crash0_76 rfl (lv_at hl 0 rfl) ?_
            refine va_get (D := (dC, dI)) (ci := 10) (v := .ref (a 1)) (C := RX11) (T := TX11) (N := 17) hx hb hts inX11 hown hK hP 0 rfl rfl 1 (by decide) (hts _ q_fl_X11_7) (fun _ h9 => h9) rfl dX11_crash0_77 ?_
            refine lv_bipush (v := 66) hx hb dX11_crash0_80 (by decide) ?_
            refine lv_iconst (v := 3) hx hb dX11_crash0_82 (by decide) ?_
            refine lv_iload hx hb dX11_crash0_83 (lv_at hl 4 rfl) ?_
            refine lv_imul hx hb dX11_crash0_85 ?_
            refine lv_iadd hx hb dX11_crash0_86 ?_
            refine lv_iconst (v := 2) hx hb dX11_crash0_87 (by decide) ?_
            refine lv_iadd hx hb dX11_crash0_88 ?_
            refine lv_iload hx hb dX11_crash0_89 (lv_at hl 5 rfl) ?_
            refine lv_if_ne (tgt := 98) hx hb dX11_crash0_91 (by decide) (fun c_66 => ?_) (fun c_66 => ?_)
            · have hf := hf.1 c_66
              refine lv_aload_n hx hb dX11_crash0_98 rfl (lv_at hl 0 rfl) ?_
              refine lv_iload hx hb dX11_crash0_99 (lv_at hl 4 rfl) ?_
              refine lv_iload hx hb dX11_crash0_101 (lv_at hl 5 rfl) ?_
              refine lv_iconst (v := 1) hx hb dX11_crash0_103 (by decide) ?_
              refine lv_isub hx hb dX11_crash0_104 ?_
              refine lv_iconst (v := 4) hx hb dX11_crash0_105 (by decide) ?_
              refine z_cVi (As := [.int y4, .int (y5 - (1 : Int32)), .int (4 : Int32)]) (rest := [.int (((66 : Int32) + ((3 : Int32) * y4)) + (2 : Int32)), .ref (a 1)]) X (c_X11_noted l dC dI cI cJ cS a (z.1, f_65, z.2.2) y4 (y5 - (1 : Int32)) (4 : Int32) _ hf) zc_X11_noted q_ml_X11_77 ⟨rfl, rfl⟩ ⟨Nat.le_of_ble_eq_true rfl, Nat.le_of_ble_eq_true rfl⟩ hP [0, 1, 2, 3, 4, 5, 6, 7, 8] rfl 10 rfl rfl hl.1 rfl rfl (Nat.le_of_ble_eq_true rfl) ⟨Nat.zero_le _, Nat.zero_le _⟩ dX11_crash0_106 (fun r_67 hf => ?_)
              refine lv_aload_n hx hb dX11_crash0_109 rfl (lv_at hl 0 rfl) ?_
              refine lv_iload hx hb dX11_crash0_110 (lv_at hl 4 rfl) ?_
              refine lv_iload hx hb dX11_crash0_112 (lv_at hl 5 rfl) ?_
              refine lv_iconst (v := 1) hx hb dX11_crash0_114 (by decide) ?_
              refine lv_isub hx hb dX11_crash0_115 ?_
              refine lv_iconst (v := 1) hx hb dX11_crash0_116 (by decide) ?_
              refine z_cVi (As := [.int y4, .int (y5 - (1 : Int32)), .int (1 : Int32)]) (rest := [.int r_67, .int (((66 : Int32) + ((3 : Int32) * y4)) + (2 : Int32)), .ref (a 1)]) X (c_X11_noted l dC dI cI cJ cS a (z.1, f_65, z.2.2) y4 (y5 - (1 : Int32)) (1 : Int32) _ hf) zc_X11_noted q_ml_X11_77 ⟨rfl, rfl⟩ ⟨Nat.le_of_ble_eq_true rfl, Nat.le_of_ble_eq_true rfl⟩ hP [0, 1, 2, 3, 4, 5, 6, 7, 8] rfl 10 rfl rfl hl.1 rfl rfl (Nat.le_of_ble_eq_true rfl) ⟨Nat.zero_le _, Nat.zero_le _⟩ dX11_crash0_117 (fun r_68 hf => ?_)
              refine z_cSi (As := [.int r_68]) (rest := [.int r_67, .int (((66 : Int32) + ((3 : Int32) * y4)) + (2 : Int32)), .ref (a 1)]) X (c_X11_sizeOf l dC dI cI cJ cS   r_68 _ hf) zc_X11_sizeOf q_ml_X11_91 ⟨rfl, rfl⟩ ⟨Nat.le_of_ble_eq_true rfl, Nat.le_of_ble_eq_true rfl⟩ hP [] rfl hl.1 rfl rfl (Nat.le_of_ble_eq_true rfl) ⟨Nat.zero_le _, Nat.zero_le _⟩ dX11_crash0_120 (fun r_69 hf => ?_)
              refine lv_iadd hx hb dX11_crash0_123 ?_
              obtain ⟨hg, hf⟩ := hf
              refine z_iast (Wn := fun f_70 => cl_X11 cI cJ a (z.1, f_70, z.2.2)) X hP hD hS 1 0 rfl rfl hg (fun _ => rfl) dX11_crash0_124 (fun f_70 H locs ef_70 hP hD hS => ?_)
              have hf := hf f_70 ef_70
              refine lv_aload_n hx hb dX11_crash0_125 rfl (lv_at hl 0 rfl) ?_
              refine va_get (D := (dC, dI)) (ci := 10) (v := .ref (a 1)) (C := RX11) (T := TX11) (N := 17) hx hb hts inX11 hown hK hP 0 rfl rfl 1 (by decide) (hts _ q_fl_X11_7) (fun _ h9 => h9) rfl dX11_crash0_126 ?_
              refine lv_bipush (v := 66) hx hb dX11_crash0_129 (by decide) ?_
              refine lv_iconst (v := 3) hx hb dX11_crash0_131 (by decide) ?_
              refine lv_iload hx hb dX11_crash0_132 (lv_at hl 4 rfl) ?_
              refine lv_imul hx hb dX11_crash0_134 ?_
              refine lv_iadd hx hb dX11_crash0_135 ?_
              refine lv_iconst (v := 0) hx hb dX11_crash0_136 (by decide) ?_
              refine lv_iadd hx hb dX11_crash0_137 ?_
              refine lv_iload hx hb dX11_crash0_138 (lv_at hl 5 rfl) ?_
              refine lv_if_ne (tgt := 147) hx hb dX11_crash0_140 (by decide) (fun c_71 => ?_) (fun c_71 => ?_)
              · have hf := hf.1 c_71
                refine lv_iconst (v := 2) hx hb dX11_crash0_147 (by decide) ?_
                obtain ⟨hg, hf⟩ := hf
                refine z_iast (Wn := fun f_72 => cl_X11 cI cJ a (z.1, f_72, z.2.2)) X hP hD hS 1 0 rfl rfl hg (fun _ => rfl) dX11_crash0_148 (fun f_72 H locs ef_72 hP hD hS => ?_)
                have hf := hf f_72 ef_72
                refine lv_iload hx hb dX11_crash0_149 (lv_at hl 5 rfl) ?_
                refine lv_if_eq (tgt := 187) hx hb dX11_crash0_151 (by decide) (fun c_73 => ?_) (fun c_73 => ?_)
                · have hf := hf.1 c_73
                  obtain ⟨x_74, ex_74⟩ : ∃ y : Int32, y = y4 + (1 : Int32) := ⟨_, rfl⟩
                  have hf := hf x_74 ex_74
                  refine lv_iinc (v := x_74) (lv' := [(4, .int x_74), (0, .ref (a 0)), (1, .int y1), (2, .int y2), (3, .int y3), (5, .int y5)]) hx hb dX11_crash0_187 hl (k := 4) rfl (by rw [ex_74]; rfl) (by decide) rfl (fun ls hl => ?_)
                  refine lv_goto (tgt := 9) hx hb dX11_crash0_190 (by decide) ?_
                  obtain ⟨k_75, hk_75, hf⟩ := hf
                  exact (ih k_75 hk_75).1 _ _ _ _ (z.1, f_72, z.2.2) _ _ ls hf hP hD hS (lv_sub hl [1, 2, 3, 4, 0] rfl)
                · have hf := hf.2 c_73
                  refine lv_aload_n hx hb dX11_crash0_154 rfl (lv_at hl 0 rfl) ?_
                  refine lv_iload hx hb dX11_crash0_155 (lv_at hl 4 rfl) ?_
                  refine lv_iload hx hb dX11_crash0_157 (lv_at hl 5 rfl) ?_
                  refine lv_iconst (v := 1) hx hb dX11_crash0_159 (by decide) ?_
                  refine lv_isub hx hb dX11_crash0_160 ?_
                  refine lv_iconst (v := 3) hx hb dX11_crash0_161 (by decide) ?_
                  refine z_cVi (As := [.int y4, .int (y5 - (1 : Int32)), .int (3 : Int32)]) (rest := []) X (c_X11_noted l dC dI cI cJ cS a (z.1, f_72, z.2.2) y4 (y5 - (1 : Int32)) (3 : Int32) _ hf) zc_X11_noted q_ml_X11_77 ⟨rfl, rfl⟩ ⟨Nat.le_of_ble_eq_true rfl, Nat.le_of_ble_eq_true rfl⟩ hP [0, 1, 2, 3, 4, 5, 6, 7, 8] rfl 10 rfl rfl hl.1 rfl rfl (Nat.le_of_ble_eq_true rfl) ⟨Nat.zero_le _, Nat.zero_le _⟩ dX11_crash0_162 (fun r_76 hf => ?_)
                  refine lv_iload_n hx hb dX11_crash0_165 rfl (lv_at hl 2 rfl) ?_
                  refine lv_icmp_gt (tgt := 172) hx hb dX11_crash0_166 (by decide) (fun c_77 => ?_) (fun c_77 => ?_)
                  · have hf := hf.1 c_77
                    refine lv_aload_n hx hb dX11_crash0_172 rfl (lv_at hl 0 rfl) ?_
                    refine lv_iload hx hb dX11_crash0_173 (lv_at hl 4 rfl) ?_
                    refine lv_iload hx hb dX11_crash0_175 (lv_at hl 5 rfl) ?_
                    refine lv_iconst (v := 1) hx hb dX11_crash0_177 (by decide) ?_
                    refine lv_isub hx hb dX11_crash0_178 ?_
                    refine lv_iconst (v := 3) hx hb dX11_crash0_179 (by decide) ?_
                    refine z_cVi (As := [.int y4, .int (y5 - (1 : Int32)), .int (3 : Int32)]) (rest := []) X (c_X11_noted l dC dI cI cJ cS a (z.1, f_72, z.2.2) y4 (y5 - (1 : Int32)) (3 : Int32) _ hf) zc_X11_noted q_ml_X11_77 ⟨rfl, rfl⟩ ⟨Nat.le_of_ble_eq_true rfl, Nat.le_of_ble_eq_true rfl⟩ hP [0, 1, 2, 3, 4, 5, 6, 7, 8] rfl 10 rfl rfl hl.1 rfl rfl (Nat.le_of_ble_eq_true rfl) ⟨Nat.zero_le _, Nat.zero_le _⟩ dX11_crash0_180 (fun r_78 hf => ?_)
                    refine lv_istore_n (lv' := [(2, .int r_78), (0, .ref (a 0)), (1, .int y1), (3, .int y3), (4, .int y4), (5, .int y5)]) hx hb dX11_crash0_183 rfl hl (by decide) rfl (fun ls hl => ?_)
                    refine lv_iload hx hb dX11_crash0_184 (lv_at hl 4 rfl) ?_
                    refine lv_istore_n (lv' := [(3, .int y4), (2, .int r_78), (0, .ref (a 0)), (1, .int y1), (4, .int y4), (5, .int y5)]) hx hb dX11_crash0_186 rfl hl (by decide) rfl (fun ls hl => ?_)
                    obtain ⟨x_79, ex_79⟩ : ∃ y : Int32, y = y4 + (1 : Int32) := ⟨_, rfl⟩
                    have hf := hf x_79 ex_79
                    refine lv_iinc (v := x_79) (lv' := [(4, .int x_79), (3, .int y4), (2, .int r_78), (0, .ref (a 0)), (1, .int y1), (5, .int y5)]) hx hb dX11_crash0_187 hl (k := 4) rfl (by rw [ex_79]; rfl) (by decide) rfl (fun ls hl => ?_)
                    refine lv_goto (tgt := 9) hx hb dX11_crash0_190 (by decide) ?_
                    obtain ⟨k_80, hk_80, hf⟩ := hf
                    exact (ih k_80 hk_80).1 _ _ _ _ (z.1, f_72, z.2.2) _ _ ls hf hP hD hS (lv_sub hl [3, 4, 2, 1, 0] rfl)
                  · have hf := hf.2 c_77
                    refine lv_goto (tgt := 187) hx hb dX11_crash0_169 (by decide) ?_
                    obtain ⟨x_81, ex_81⟩ : ∃ y : Int32, y = y4 + (1 : Int32) := ⟨_, rfl⟩
                    have hf := hf x_81 ex_81
                    refine lv_iinc (v := x_81) (lv' := [(4, .int x_81), (0, .ref (a 0)), (1, .int y1), (2, .int y2), (3, .int y3), (5, .int y5)]) hx hb dX11_crash0_187 hl (k := 4) rfl (by rw [ex_81]; rfl) (by decide) rfl (fun ls hl => ?_)
                    refine lv_goto (tgt := 9) hx hb dX11_crash0_190 (by decide) ?_
                    obtain ⟨k_82, hk_82, hf⟩ := hf
                    exact (ih k_82 hk_82).1 _ _ _ _ (z.1, f_72, z.2.2) _ _ ls hf hP hD hS (lv_sub hl [1, 2, 3, 4, 0] rfl)
              · have hf := hf.2 c_71
                refine lv_iconst (v := 0) hx hb dX11_crash0_143 (by decide) ?_
                refine lv_goto (tgt := 148) hx hb dX11_crash0_144 (by decide) ?_
                obtain ⟨hg, hf⟩ := hf
                refine z_iast (Wn := fun f_83 => cl_X11 cI cJ a (z.1, f_83, z.2.2)) X hP hD hS 1 0 rfl rfl hg (fun _ => rfl) dX11_crash0_148 (fun f_83 H locs ef_83 hP hD hS => ?_)
                have hf := hf f_83 ef_83
                refine lv_iload hx hb dX11_crash0_149 (lv_at hl 5 rfl) ?_
                refine lv_if_eq (tgt := 187) hx hb dX11_crash0_151 (by decide) (fun c_84 => ?_) (fun c_84 => ?_)
                · have hf := hf.1 c_84
                  obtain ⟨x_85, ex_85⟩ : ∃ y : Int32, y = y4 + (1 : Int32) := ⟨_, rfl⟩
                  have hf := hf x_85 ex_85
                  refine lv_iinc (v := x_85) (lv' := [(4, .int x_85), (0, .ref (a 0)), (1, .int y1), (2, .int y2), (3, .int y3), (5, .int y5)]) hx hb dX11_crash0_187 hl (k := 4) rfl (by rw [ex_85]; rfl) (by decide) rfl (fun ls hl => ?_)
                  refine lv_goto (tgt := 9) hx hb dX11_crash0_190 (by decide) ?_
                  obtain ⟨k_86, hk_86, hf⟩ := hf
                  exact (ih k_86 hk_86).1 _ _ _ _ (z.1, f_83, z.2.2) _ _ ls hf hP hD hS (lv_sub hl [1, 2, 3, 4, 0] rfl)
                · have hf := hf.2 c_84
                  refine lv_aload_n hx hb dX11_crash0_154 rfl (lv_at hl 0 rfl) ?_
                  refine lv_iload hx hb dX11_crash0_155 (lv_at hl 4 rfl) ?_
                  refine lv_iload hx hb dX11_crash0_157 (lv_at hl 5 rfl) ?_
                  refine lv_iconst (v := 1) hx hb dX11_crash0_159 (by decide) ?_
                  refine lv_isub hx hb dX11_crash0_160 ?_
                  refine lv_iconst (v := 3) hx hb dX11_crash0_161 (by decide) ?_
                  refine z_cVi (As := [.int y4, .int (y5 - (1 : Int32)), .int (3 : Int32)]) (rest := []) X (c_X11_noted l dC dI cI cJ cS a (z.1, f_83, z.2.2) y4 (y5 - (1 : Int32)) (3 : Int32) _ hf) zc_X11_noted q_ml_X11_77 ⟨rfl, rfl⟩ ⟨Nat.le_of_ble_eq_true rfl, Nat.le_of_ble_eq_true rfl⟩ hP [0, 1, 2, 3, 4, 5, 6, 7, 8] rfl 10 rfl rfl hl.1 rfl rfl (Nat.le_of_ble_eq_true rfl) ⟨Nat.zero_le _, Nat.zero_le _⟩ dX11_crash0_162 (fun r_87 hf => ?_)
                  refine lv_iload_n hx hb dX11_crash0_165 rfl (lv_at hl 2 rfl) ?_
                  refine lv_icmp_gt (tgt := 172) hx hb dX11_crash0_166 (by decide) (fun c_88 => ?_) (fun c_88 => ?_)
                  · have hf := hf.1 c_88
                    refine lv_aload_n hx hb dX11_crash0_172 rfl (lv_at hl 0 rfl) ?_
                    refine lv_iload hx hb dX11_crash0_173 (lv_at hl 4 rfl) ?_
                    refine lv_iload hx hb dX11_crash0_175 (lv_at hl 5 rfl) ?_
                    refine lv_iconst (v := 1) hx hb dX11_crash0_177 (by decide) ?_
                    refine lv_isub hx hb dX11_crash0_178 ?_
                    refine lv_iconst (v := 3) hx hb dX11_crash0_179 (by decide) ?_
                    refine z_cVi (As := [.int y4, .int (y5 - (1 : Int32)), .int (3 : Int32)]) (rest := []) X (c_X11_noted l dC dI cI cJ cS a (z.1, f_83, z.2.2) y4 (y5 - (1 : Int32)) (3 : Int32) _ hf) zc_X11_noted q_ml_X11_77 ⟨rfl, rfl⟩ ⟨Nat.le_of_ble_eq_true rfl, Nat.le_of_ble_eq_true rfl⟩ hP [0, 1, 2, 3, 4, 5, 6, 7, 8] rfl 10 rfl rfl hl.1 rfl rfl (Nat.le_of_ble_eq_true rfl) ⟨Nat.zero_le _, Nat.zero_le _⟩ dX11_crash0_180 (fun r_89 hf => ?_)
                    refine lv_istore_n (lv' := [(2, .int r_89), (0, .ref (a 0)), (1, .int y1), (3, .int y3), (4, .int y4), (5, .int y5)]) hx hb dX11_crash0_183 rfl hl (by decide) rfl (fun ls hl => ?_)
                    refine lv_iload hx hb dX11_crash0_184 (lv_at hl 4 rfl) ?_
                    refine lv_istore_n (lv' := [(3, .int y4), (2, .int r_89), (0, .ref (a 0)), (1, .int y1), (4, .int y4), (5, .int y5)]) hx hb dX11_crash0_186 rfl hl (by decide) rfl (fun ls hl => ?_)
                    obtain ⟨x_90, ex_90⟩ : ∃ y : Int32, y = y4 + (1 : Int32) := ⟨_, rfl⟩
                    have hf := hf x_90 ex_90
                    refine lv_iinc (v := x_90) (lv' := [(4, .int x_90), (3, .int y4), (2, .int r_89), (0, .ref (a 0)), (1, .int y1), (5, .int y5)]) hx hb dX11_crash0_187 hl (k := 4) rfl (by rw [ex_90]; rfl) (by decide) rfl (fun ls hl => ?_)
                    refine lv_goto (tgt := 9) hx hb dX11_crash0_190 (by decide) ?_
                    obtain ⟨k_91, hk_91, hf⟩ := hf
                    exact (ih k_91 hk_91).1 _ _ _ _ (z.1, f_83, z.2.2) _ _ ls hf hP hD hS (lv_sub hl [3, 4, 2, 1, 0] rfl)
                  · have hf := hf.2 c_88
                    refine lv_goto (tgt := 187) hx hb dX11_crash0_169 (by decide) ?_
                    obtain ⟨x_92, ex_92⟩ : ∃ y : Int32, y = y4 + (1 : Int32) := ⟨_, rfl⟩
                    have hf := hf x_92 ex_92
                    refine lv_iinc (v := x_92) (lv' := [(4, .int x_92), (0, .ref (a 0)), (1, .int y1), (2, .int y2), (3, .int y3), (5, .int y5)]) hx hb dX11_crash0_187 hl (k := 4) rfl (by rw [ex_92]; rfl) (by decide) rfl (fun ls hl => ?_)
                    refine lv_goto (tgt := 9) hx hb dX11_crash0_190 (by decide) ?_
                    obtain ⟨k_93, hk_93, hf⟩ := hf
                    exact (ih k_93 hk_93).1 _ _ _ _ (z.1, f_83, z.2.2) _ _ ls hf hP hD hS (lv_sub hl [1, 2, 3, 4, 0] rfl)
            · have hf := hf.2 c_66
              refine lv_iconst (v := 0) hx hb dX11_crash0_94 (by decide) ?_
              refine lv_goto (tgt := 124) hx hb dX11_crash0_95 (by decide) ?_
              obtain ⟨hg, hf⟩ := hf
              refine z_iast (Wn := fun f_94 => cl_X11 cI cJ a (z.1, f_94, z.2.2)) X hP hD hS 1 0 rfl rfl hg (fun _ => rfl) dX11_crash0_124 (fun f_94 H locs ef_94 hP hD hS => ?_)
              have hf := hf f_94 ef_94
              refine lv_aload_n hx hb dX11_crash0_125 rfl (lv_at hl 0 rfl) ?_
              refine va_get (D := (dC, dI)) (ci := 10) (v := .ref (a 1)) (C := RX11) (T := TX11) (N := 17) hx hb hts inX11 hown hK hP 0 rfl rfl 1 (by decide) (hts _ q_fl_X11_7) (fun _ h9 => h9) rfl dX11_crash0_126 ?_
              refine lv_bipush (v := 66) hx hb dX11_crash0_129 (by decide) ?_
              refine lv_iconst (v := 3) hx hb dX11_crash0_131 (by decide) ?_
              refine lv_iload hx hb dX11_crash0_132 (lv_at hl 4 rfl) ?_
              refine lv_imul hx hb dX11_crash0_134 ?_
              refine lv_iadd hx hb dX11_crash0_135 ?_
              refine lv_iconst (v := 0) hx hb dX11_crash0_136 (by decide) ?_
              refine lv_iadd hx hb dX11_crash0_137 ?_
              refine lv_iload hx hb dX11_crash0_138 (lv_at hl 5 rfl) ?_
              refine lv_if_ne (tgt := 147) hx hb dX11_crash0_140 (by decide) (fun c_95 => ?_) (fun c_95 => ?_)
              · have hf := hf.1 c_95
                refine lv_iconst (v := 2) hx hb dX11_crash0_147 (by decide) ?_
                obtain ⟨hg, hf⟩ := hf
                refine z_iast (Wn := fun f_96 => cl_X11 cI cJ a (z.1, f_96, z.2.2)) X hP hD hS 1 0 rfl rfl hg (fun _ => rfl) dX11_crash0_148 (fun f_96 H locs ef_96 hP hD hS => ?_)
                have hf := hf f_96 ef_96
                refine lv_iload hx hb dX11_crash0_149 (lv_at hl 5 rfl) ?_
                refine lv_if_eq (tgt := 187) hx hb dX11_crash0_151 (by decide) (fun c_97 => ?_) (fun c_97 => ?_)
                · have hf := hf.1 c_97
                  obtain ⟨x_98, ex_98⟩ : ∃ y : Int32, y = y4 + (1 : Int32) := ⟨_, rfl⟩
                  have hf := hf x_98 ex_98
                  refine lv_iinc (v := x_98) (lv' := [(4, .int x_98), (0, .ref (a 0)), (1, .int y1), (2, .int y2), (3, .int y3), (5, .int y5)]) hx hb dX11_crash0_187 hl (k := 4) rfl (by rw [ex_98]; rfl) (by decide) rfl (fun ls hl => ?_)
                  refine lv_goto (tgt := 9) hx hb dX11_crash0_190 (by decide) ?_
                  obtain ⟨k_99, hk_99, hf⟩ := hf
                  exact (ih k_99 hk_99).1 _ _ _ _ (z.1, f_96, z.2.2) _ _ ls hf hP hD hS (lv_sub hl [1, 2, 3, 4, 0] rfl)
                · have hf := hf.2 c_97
                  refine lv_aload_n hx hb dX11_crash0_154 rfl (lv_at hl 0 rfl) ?_
                  refine lv_iload hx hb dX11_crash0_155 (lv_at hl 4 rfl) ?_
                  refine lv_iload hx hb dX11_crash0_157 (lv_at hl 5 rfl) ?_
                  refine lv_iconst (v := 1) hx hb dX11_crash0_159 (by decide) ?_
                  refine lv_isub hx hb dX11_crash0_160 ?_
                  refine lv_iconst (v := 3) hx hb dX11_crash0_161 (by decide) ?_
                  refine z_cVi (As := [.int y4, .int (y5 - (1 : Int32)), .int (3 : Int32)]) (rest := []) X (c_X11_noted l dC dI cI cJ cS a (z.1, f_96, z.2.2) y4 (y5 - (1 : Int32)) (3 : Int32) _ hf) zc_X11_noted q_ml_X11_77 ⟨rfl, rfl⟩ ⟨Nat.le_of_ble_eq_true rfl, Nat.le_of_ble_eq_true rfl⟩ hP [0, 1, 2, 3, 4, 5, 6, 7, 8] rfl 10 rfl rfl hl.1 rfl rfl (Nat.le_of_ble_eq_true rfl) ⟨Nat.zero_le _, Nat.zero_le _⟩ dX11_crash0_162 (fun r_100 hf => ?_)
                  refine lv_iload_n hx hb dX11_crash0_165 rfl (lv_at hl 2 rfl) ?_
                  refine lv_icmp_gt (tgt := 172) hx hb dX11_crash0_166 (by decide) (fun c_101 => ?_) (fun c_101 => ?_)
                  · have hf := hf.1 c_101
                    refine lv_aload_n hx hb dX11_crash0_172 rfl (lv_at hl 0 rfl) ?_
                    refine lv_iload hx hb dX11_crash0_173 (lv_at hl 4 rfl) ?_
                    refine lv_iload hx hb dX11_crash0_175 (lv_at hl 5 rfl) ?_
                    refine lv_iconst (v := 1) hx hb dX11_crash0_177 (by decide) ?_
                    refine lv_isub hx hb dX11_crash0_178 ?_
                    refine lv_iconst (v := 3) hx hb dX11_crash0_179 (by decide) ?_
                    refine z_cVi (As := [.int y4, .int (y5 - (1 : Int32)), .int (3 : Int32)]) (rest := []) X (c_X11_noted l dC dI cI cJ cS a (z.1, f_96, z.2.2) y4 (y5 - (1 : Int32)) (3 : Int32) _ hf) zc_X11_noted q_ml_X11_77 ⟨rfl, rfl⟩ ⟨Nat.le_of_ble_eq_true rfl, Nat.le_of_ble_eq_true rfl⟩ hP [0, 1, 2, 3, 4, 5, 6, 7, 8] rfl 10 rfl rfl hl.1 rfl rfl (Nat.le_of_ble_eq_true rfl) ⟨Nat.zero_le _, Nat.zero_le _⟩ dX11_crash0_180 (fun r_102 hf => ?_)
                    refine lv_istore_n (lv' := [(2, .int r_102), (0, .ref (a 0)), (1, .int y1), (3, .int y3), (4, .int y4), (5, .int y5)]) hx hb dX11_crash0_183 rfl hl (by decide) rfl (fun ls hl => ?_)
                    refine lv_iload hx hb dX11_crash0_184 (lv_at hl 4 rfl) ?_
                    refine lv_istore_n (lv' := [(3, .int y4), (2, .int r_102), (0, .ref (a 0)), (1, .int y1), (4, .int y4), (5, .int y5)]) hx hb dX11_crash0_186 rfl hl (by decide) rfl (fun ls hl => ?_)
                    obtain ⟨x_103, ex_103⟩ : ∃ y : Int32, y = y4 + (1 : Int32) := ⟨_, rfl⟩
                    have hf := hf x_103 ex_103
                    refine lv_iinc (v := x_103) (lv' := [(4, .int x_103), (3, .int y4), (2, .int r_102), (0, .ref (a 0)), (1, .int y1), (5, .int y5)]) hx hb dX11_crash0_187 hl (k := 4) rfl (by rw [ex_103]; rfl) (by decide) rfl (fun ls hl => ?_)
                    refine lv_goto (tgt := 9) hx hb dX11_crash0_190 (by decide) ?_
                    obtain ⟨k_104, hk_104, hf⟩ := hf
                    exact (ih k_104 hk_104).1 _ _ _ _ (z.1, f_96, z.2.2) _ _ ls hf hP hD hS (lv_sub hl [3, 4, 2, 1, 0] rfl)
                  · have hf := hf.2 c_101
                    refine lv_goto (tgt := 187) hx hb dX11_crash0_169 (by decide) ?_
                    obtain ⟨x_105, ex_105⟩ : ∃ y : Int32, y = y4 + (1 : Int32) := ⟨_, rfl⟩
                    have hf := hf x_105 ex_105
                    refine lv_iinc (v := x_105) (lv' := [(4, .int x_105), (0, .ref (a 0)), (1, .int y1), (2, .int y2), (3, .int y3), (5, .int y5)]) hx hb dX11_crash0_187 hl (k := 4) rfl (by rw [ex_105]; rfl) (by decide) rfl (fun ls hl => ?_)
                    refine lv_goto (tgt := 9) hx hb dX11_crash0_190 (by decide) ?_
                    obtain ⟨k_106, hk_106, hf⟩ := hf
                    exact (ih k_106 hk_106).1 _ _ _ _ (z.1, f_96, z.2.2) _ _ ls hf hP hD hS (lv_sub hl [1, 2, 3, 4, 0] rfl)
              · have hf := hf.2 c_95
                refine lv_iconst (v := 0) hx hb dX11_crash0_143 (by decide) ?_
                refine lv_goto (tgt := 148) hx hb dX11_crash0_144 (by decide) ?_
                obtain ⟨hg, hf⟩ := hf
                refine z_iast (Wn := fun f_107 => cl_X11 cI cJ a (z.1, f_107, z.2.2)) X hP hD hS 1 0 rfl rfl hg (fun _ => rfl) dX11_crash0_148 (fun f_107 H locs ef_107 hP hD hS => ?_)
                have hf := hf f_107 ef_107
                refine lv_iload hx hb dX11_crash0_149 (lv_at hl 5 rfl) ?_
                refine lv_if_eq (tgt := 187) hx hb dX11_crash0_151 (by decide) (fun c_108 => ?_) (fun c_108 => ?_)
                · have hf := hf.1 c_108
                  obtain ⟨x_109, ex_109⟩ : ∃ y : Int32, y = y4 + (1 : Int32) := ⟨_, rfl⟩
                  have hf := hf x_109 ex_109
                  refine lv_iinc (v := x_109) (lv' := [(4, .int x_109), (0, .ref (a 0)), (1, .int y1), (2, .int y2), (3, .int y3), (5, .int y5)]) hx hb dX11_crash0_187 hl (k := 4) rfl (by rw [ex_109]; rfl) (by decide) rfl (fun ls hl => ?_)
                  refine lv_goto (tgt := 9) hx hb dX11_crash0_190 (by decide) ?_
                  obtain ⟨k_110, hk_110, hf⟩ := hf
                  exact (ih k_110 hk_110).1 _ _ _ _ (z.1, f_107, z.2.2) _ _ ls hf hP hD hS (lv_sub hl [1, 2, 3, 4, 0] rfl)
                · have hf := hf.2 c_108
                  refine lv_aload_n hx hb dX11_crash0_154 rfl (lv_at hl 0 rfl) ?_
                  refine lv_iload hx hb dX11_crash0_155 (lv_at hl 4 rfl) ?_
                  refine lv_iload hx hb dX11_crash0_157 (lv_at hl 5 rfl) ?_
                  refine lv_iconst (v := 1) hx hb dX11_crash0_159 (by decide) ?_
                  refine lv_isub hx hb dX11_crash0_160 ?_
                  refine lv_iconst (v := 3) hx hb dX11_crash0_161 (by decide) ?_
                  refine z_cVi (As := [.int y4, .int (y5 - (1 : Int32)), .int (3 : Int32)]) (rest := []) X (c_X11_noted l dC dI cI cJ cS a (z.1, f_107, z.2.2) y4 (y5 - (1 : Int32)) (3 : Int32) _ hf) zc_X11_noted q_ml_X11_77 ⟨rfl, rfl⟩ ⟨Nat.le_of_ble_eq_true rfl, Nat.le_of_ble_eq_true rfl⟩ hP [0, 1, 2, 3, 4, 5, 6, 7, 8] rfl 10 rfl rfl hl.1 rfl rfl (Nat.le_of_ble_eq_true rfl) ⟨Nat.zero_le _, Nat.zero_le _⟩ dX11_crash0_162 (fun r_111 hf => ?_)
                  refine lv_iload_n hx hb dX11_crash0_165 rfl (lv_at hl 2 rfl) ?_
                  refine lv_icmp_gt (tgt := 172) hx hb dX11_crash0_166 (by decide) (fun c_112 => ?_) (fun c_112 => ?_)
                  · have hf := hf.1 c_112
                    refine lv_aload_n hx hb dX11_crash0_172 rfl (lv_at hl 0 rfl) ?_
                    refine lv_iload hx hb dX11_crash0_173 (lv_at hl 4 rfl) ?_
                    refine lv_iload hx hb dX11_crash0_175 (lv_at hl 5 rfl) ?_
                    refine lv_iconst (v := 1) hx hb dX11_crash0_177 (by decide) ?_
                    refine lv_isub hx hb dX11_crash0_178 ?_
                    refine lv_iconst (v := 3) hx hb dX11_crash0_179 (by decide) ?_
                    refine z_cVi (As := [.int y4, .int (y5 - (1 : Int32)), .int (3 : Int32)]) (rest := []) X (c_X11_noted l dC dI cI cJ cS a (z.1, f_107, z.2.2) y4 (y5 - (1 : Int32)) (3 : Int32) _ hf) zc_X11_noted q_ml_X11_77 ⟨rfl, rfl⟩ ⟨Nat.le_of_ble_eq_true rfl, Nat.le_of_ble_eq_true rfl⟩ hP [0, 1, 2, 3, 4, 5, 6, 7, 8] rfl 10 rfl rfl hl.1 rfl rfl (Nat.le_of_ble_eq_true rfl) ⟨Nat.zero_le _, Nat.zero_le _⟩ dX11_crash0_180 (fun r_113 hf => ?_)
                    refine lv_istore_n (lv' := [(2, .int r_113), (0, .ref (a 0)), (1, .int y1), (3, .int y3), (4, .int y4), (5, .int y5)]) hx hb dX11_crash0_183 rfl hl (by decide) rfl (fun ls hl => ?_)
                    refine lv_iload hx hb dX11_crash0_184 (lv_at hl 4 rfl) ?_
                    refine lv_istore_n (lv' := [(3, .int y4), (2, .int r_113), (0, .ref (a 0)), (1, .int y1), (4, .int y4), (5, .int y5)]) hx hb dX11_crash0_186 rfl hl (by decide) rfl (fun ls hl => ?_)
                    obtain ⟨x_114, ex_114⟩ : ∃ y : Int32, y = y4 + (1 : Int32) := ⟨_, rfl⟩
                    have hf := hf x_114 ex_114
                    refine lv_iinc (v := x_114) (lv' := [(4, .int x_114), (3, .int y4), (2, .int r_113), (0, .ref (a 0)), (1, .int y1), (5, .int y5)]) hx hb dX11_crash0_187 hl (k := 4) rfl (by rw [ex_114]; rfl) (by decide) rfl (fun ls hl => ?_)
                    refine lv_goto (tgt := 9) hx hb dX11_crash0_190 (by decide) ?_
                    obtain ⟨k_115, hk_115, hf⟩ := hf
                    exact (ih k_115 hk_115).1 _ _ _ _ (z.1, f_107, z.2.2) _ _ ls hf hP hD hS (lv_sub hl [3, 4, 2, 1, 0] rfl)
                  · have hf := hf.2 c_112
                    refine lv_goto (tgt := 187) hx hb dX11_crash0_169 (by decide) ?_
                    obtain ⟨x_116, ex_116⟩ : ∃ y : Int32, y = y4 + (1 : Int32) := ⟨_, rfl⟩
                    have hf := hf x_116 ex_116
                    refine lv_iinc (v := x_116) (lv' := [(4, .int x_116), (0, .ref (a 0)), (1, .int y1), (2, .int y2), (3, .int y3), (5, .int y5)]) hx hb dX11_crash0_187 hl (k := 4) rfl (by rw [ex_116]; rfl) (by decide) rfl (fun ls hl => ?_)
                    refine lv_goto (tgt := 9) hx hb dX11_crash0_190 (by decide) ?_
                    obtain ⟨k_117, hk_117, hf⟩ := hf
                    exact (ih k_117 hk_117).1 _ _ _ _ (z.1, f_107, z.2.2) _ _ ls hf hP hD hS (lv_sub hl [1, 2, 3, 4, 0] rfl)
          · have hf := hf.2 c_64
            obtain ⟨x_118, ex_118⟩ : ∃ y : Int32, y = y5 + (-1 : Int32) := ⟨_, rfl⟩
            have hf := hf x_118 ex_118
            refine lv_iinc (v := x_118) (lv' := [(5, .int x_118), (0, .ref (a 0)), (1, .int y1), (2, .int y2), (3, .int y3), (4, .int y4)]) hx hb dX11_crash0_51 hl (k := 5) rfl (by rw [ex_118]; rfl) (by decide) rfl (fun ls hl => ?_)
            obtain ⟨x_119, ex_119⟩ : ∃ y : Int32, y = y1 + (1 : Int32) := ⟨_, rfl⟩
            have hf := hf x_119 ex_119
            refine lv_iinc (v := x_119) (lv' := [(1, .int x_119), (5, .int x_118), (0, .ref (a 0)), (2, .int y2), (3, .int y3), (4, .int y4)]) hx hb dX11_crash0_54 hl (k := 2) rfl (by rw [ex_119]; rfl) (by decide) rfl (fun ls hl => ?_)
            refine lv_goto (tgt := 25) hx hb dX11_crash0_57 (by decide) ?_
            obtain ⟨k_120, hk_120, hf⟩ := hf
            exact (ih k_120 hk_120).2.1 _ _ _ _ _ z _ _ ls hf hP hD hS (lv_sub hl [2, 0, 3, 4, 5, 1] rfl)
      · intro y1 y2 y3 y4 z H locs ls hI hP hD hS hl
        have hf := h215 n y1 y2 y3 y4 z hI
        unfold t_X11_crash0_215 at hf
        refine lv_iload hx hb dX11_crash0_215 (lv_at hl 4 rfl) ?_
        refine lv_bipush (v := 12) hx hb dX11_crash0_217 (by decide) ?_
        refine lv_icmp_ge (tgt := 319) hx hb dX11_crash0_219 (by decide) (fun c_121 => ?_) (fun c_121 => ?_)
        · have hf := hf.1 c_121
          refine lv_aload_n hx hb dX11_crash0_319 rfl (lv_at hl 0 rfl) ?_
          refine va_get (D := (dC, dI)) (ci := 10) (v := .ref (a 1)) (C := RX11) (T := TX11) (N := 17) hx hb hts inX11 hown hK hP 0 rfl rfl 1 (by decide) (hts _ q_fl_X11_7) (fun _ h9 => h9) rfl dX11_crash0_320 ?_
          refine lv_bipush (v := 8) hx hb dX11_crash0_323 (by decide) ?_
          refine lv_iconst (v := (-1)) hx hb dX11_crash0_325 (by decide) ?_
          obtain ⟨hg, hf⟩ := hf
          refine z_iast (Wn := fun f_122 => cl_X11 cI cJ a (z.1, f_122, z.2.2)) X hP hD hS 1 0 rfl rfl hg (fun _ => rfl) dX11_crash0_326 (fun f_122 H locs ef_122 hP hD hS => ?_)
          have hf := hf f_122 ef_122
          refine lv_aload_n hx hb dX11_crash0_327 rfl (lv_at hl 0 rfl) ?_
          refine va_get (D := (dC, dI)) (ci := 10) (v := .ref (a 1)) (C := RX11) (T := TX11) (N := 17) hx hb hts inX11 hown hK hP 0 rfl rfl 1 (by decide) (hts _ q_fl_X11_7) (fun _ h9 => h9) rfl dX11_crash0_328 ?_
          refine lv_bipush (v := 9) hx hb dX11_crash0_331 (by decide) ?_
          refine lv_iconst (v := 0) hx hb dX11_crash0_333 (by decide) ?_
          obtain ⟨hg, hf⟩ := hf
          refine z_iast (Wn := fun f_123 => cl_X11 cI cJ a (z.1, f_123, z.2.2)) X hP hD hS 1 0 rfl rfl hg (fun _ => rfl) dX11_crash0_334 (fun f_123 H locs ef_123 hP hD hS => ?_)
          have hf := hf f_123 ef_123
          refine lv_aload_n hx hb dX11_crash0_335 rfl (lv_at hl 0 rfl) ?_
          refine va_get (D := (dC, dI)) (ci := 10) (v := .ref (a 1)) (C := RX11) (T := TX11) (N := 17) hx hb hts inX11 hown hK hP 0 rfl rfl 1 (by decide) (hts _ q_fl_X11_7) (fun _ h9 => h9) rfl dX11_crash0_336 ?_
          refine lv_bipush (v := 10) hx hb dX11_crash0_339 (by decide) ?_
          refine lv_iconst (v := 0) hx hb dX11_crash0_341 (by decide) ?_
          obtain ⟨hg, hf⟩ := hf
          refine z_iast (Wn := fun f_124 => cl_X11 cI cJ a (z.1, f_124, z.2.2)) X hP hD hS 1 0 rfl rfl hg (fun _ => rfl) dX11_crash0_342 (fun f_124 H locs ef_124 hP hD hS => ?_)
          have hf := hf f_124 ef_124
          refine lv_aload_n hx hb dX11_crash0_343 rfl (lv_at hl 0 rfl) ?_
          refine lv_iconst (v := 3) hx hb dX11_crash0_344 (by decide) ?_
          refine lv_iload_n hx hb dX11_crash0_345 rfl (lv_at hl 1 rfl) ?_
          refine z_mVv (Wn := (fun u_126 => cl_X11 cI cJ a u_126)) (As := [.int (3 : Int32), .int y1]) (rest := []) (wr := []) X (c_X11_logs l dC dI cI cJ cS a (z.1, f_124, z.2.2) (3 : Int32) y1 _ hf _) zc_X11_logs q_ml_X11_94 ⟨rfl, rfl⟩ ⟨Nat.le_of_ble_eq_true rfl, Nat.le_of_ble_eq_true rfl⟩ hP hD hS hA [0, 1, 2, 3, 4, 5, 6, 7, 8] [] rfl (by decide) rfl (by decide) (by decide) [0, 1, 2, 3, 4, 5, 6, 7, 8] (by decide) (fun _ => rfl) 10 rfl rfl hl.1 rfl rfl (Nat.le_of_ble_eq_true rfl) ⟨Nat.zero_le _, Nat.zero_le _⟩ dX11_crash0_346 (fun u_126 H locs hf hP hD hS => ?_)
          refine lv_aload_n hx hb dX11_crash0_349 rfl (lv_at hl 0 rfl) ?_
          refine va_get (D := (dC, dI)) (ci := 10) (v := .ref (a 1)) (C := RX11) (T := TX11) (N := 17) hx hb hts inX11 hown hK hP 0 rfl rfl 1 (by decide) (hts _ q_fl_X11_7) (fun _ h9 => h9) rfl dX11_crash0_350 ?_
          refine lv_iconst (v := 5) hx hb dX11_crash0_353 (by decide) ?_
          refine lv_aload_n hx hb dX11_crash0_354 rfl (lv_at hl 0 rfl) ?_
          refine va_get (D := (dC, dI)) (ci := 10) (v := .ref (a 1)) (C := RX11) (T := TX11) (N := 17) hx hb hts inX11 hown hK hP 0 rfl rfl 1 (by decide) (hts _ q_fl_X11_7) (fun _ h9 => h9) rfl dX11_crash0_355 ?_
          refine lv_bipush (v := 6) hx hb dX11_crash0_358 (by decide) ?_
          obtain ⟨hg, hf⟩ := hf
          refine va_iald hx hb hK hP 1 0 rfl rfl hg dX11_crash0_360 ?_
          refine lv_aload_n hx hb dX11_crash0_361 rfl (lv_at hl 0 rfl) ?_
          refine va_get (D := (dC, dI)) (ci := 10) (v := .ref (a 1)) (C := RX11) (T := TX11) (N := 17) hx hb hts inX11 hown hK hP 0 rfl rfl 1 (by decide) (hts _ q_fl_X11_7) (fun _ h9 => h9) rfl dX11_crash0_362 ?_
          refine lv_bipush (v := 7) hx hb dX11_crash0_365 (by decide) ?_
          obtain ⟨hg, hf⟩ := hf
          refine va_iald hx hb hK hP 1 0 rfl rfl hg dX11_crash0_367 ?_
          refine z_cSi (As := [.int (u_126.2.1 (6 : Int32).toNatClampNeg), .int (u_126.2.1 (7 : Int32).toNatClampNeg)]) (rest := [.int (5 : Int32), .ref (a 1)]) X (c_X11_greater l dC dI cI cJ cS   (u_126.2.1 (6 : Int32).toNatClampNeg) (u_126.2.1 (7 : Int32).toNatClampNeg) _ hf) zc_X11_greater q_ml_X11_50 ⟨rfl, rfl⟩ ⟨Nat.le_of_ble_eq_true rfl, Nat.le_of_ble_eq_true rfl⟩ hP [] rfl hl.1 rfl rfl (Nat.le_of_ble_eq_true rfl) ⟨Nat.zero_le _, Nat.zero_le _⟩ dX11_crash0_368 (fun r_127 hf => ?_)
          obtain ⟨hg, hf⟩ := hf
          refine z_iast (Wn := fun f_128 => cl_X11 cI cJ a (u_126.1, f_128, u_126.2.2)) X hP hD hS 1 0 rfl rfl hg (fun _ => rfl) dX11_crash0_371 (fun f_128 H locs ef_128 hP hD hS => ?_)
          have hf := hf f_128 ef_128
          refine lv_iload_n hx hb dX11_crash0_372 rfl (lv_at hl 1 rfl) ?_
          exact z_retMi (Wf := (fun z => cl_X11 cI cJ a z)) (u := (u_126.1, f_128, u_126.2.2)) X hf hP hD hS dX11_crash0_373
        · have hf := hf.2 c_121
          refine lv_iconst (v := 0) hx hb dX11_crash0_222 (by decide) ?_
          refine lv_istore (lv' := [(5, .int (0 : Int32)), (0, .ref (a 0)), (1, .int y1), (2, .int y2), (3, .int y3), (4, .int y4)]) hx hb dX11_crash0_223 hl (by decide) rfl (fun ls hl => ?_)
          obtain ⟨k_129, hk_129, hf⟩ := hf
          exact (ih k_129 hk_129).2.2.2 _ _ _ _ _ z _ _ ls hf hP hD hS (lv_sub hl [1, 2, 3, 4, 5, 0] rfl)
      · intro y1 y2 y3 y4 y5 z H locs ls hI hP hD hS hl
        have hf := h225 n y1 y2 y3 y4 y5 z hI
        unfold t_X11_crash0_225 at hf
        refine lv_iload hx hb dX11_crash0_225 (lv_at hl 5 rfl) ?_
        refine lv_aload_n hx hb dX11_crash0_227 rfl (lv_at hl 0 rfl) ?_
        refine lv_iload hx hb dX11_crash0_228 (lv_at hl 4 rfl) ?_
        refine lv_iconst (v := 1) hx hb dX11_crash0_230 (by decide) ?_
        refine z_cVi (As := [.int y4, .int (1 : Int32)]) (rest := [.int y5]) X (c_X11_segmentAt l dC dI cI cJ cS a z y4 (1 : Int32) _ hf) zc_X11_segmentAt q_ml_X11_53 ⟨rfl, rfl⟩ ⟨Nat.le_of_ble_eq_true rfl, Nat.le_of_ble_eq_true rfl⟩ hP [0, 1, 2, 3, 4, 5, 6, 7, 8] rfl 10 rfl rfl hl.1 rfl rfl (Nat.le_of_ble_eq_true rfl) ⟨Nat.zero_le _, Nat.zero_le _⟩ dX11_crash0_231 (fun r_130 hf => ?_)
        refine lv_icmp_ge (tgt := 313) hx hb dX11_crash0_234 (by decide) (fun c_131 => ?_) (fun c_131 => ?_)
        · have hf := hf.1 c_131
          obtain ⟨x_132, ex_132⟩ : ∃ y : Int32, y = y4 + (1 : Int32) := ⟨_, rfl⟩
          have hf := hf x_132 ex_132
          refine lv_iinc (v := x_132) (lv' := [(4, .int x_132), (0, .ref (a 0)), (1, .int y1), (2, .int y2), (3, .int y3), (5, .int y5)]) hx hb dX11_crash0_313 hl (k := 4) rfl (by rw [ex_132]; rfl) (by decide) rfl (fun ls hl => ?_)
          refine lv_goto (tgt := 215) hx hb dX11_crash0_316 (by decide) ?_
          obtain ⟨k_133, hk_133, hf⟩ := hf
          exact (ih k_133 hk_133).2.2.1 _ _ _ _ z _ _ ls hf hP hD hS (lv_sub hl [1, 2, 3, 4, 0] rfl)
        · have hf := hf.2 c_131
          refine lv_aload_n hx hb dX11_crash0_237 rfl (lv_at hl 0 rfl) ?_
          refine lv_iload hx hb dX11_crash0_238 (lv_at hl 4 rfl) ?_
          refine lv_iload hx hb dX11_crash0_240 (lv_at hl 5 rfl) ?_
          refine lv_iconst (v := 3) hx hb dX11_crash0_242 (by decide) ?_
          refine z_cVi (As := [.int y4, .int y5, .int (3 : Int32)]) (rest := []) X (c_X11_noted l dC dI cI cJ cS a z y4 y5 (3 : Int32) _ hf) zc_X11_noted q_ml_X11_77 ⟨rfl, rfl⟩ ⟨Nat.le_of_ble_eq_true rfl, Nat.le_of_ble_eq_true rfl⟩ hP [0, 1, 2, 3, 4, 5, 6, 7, 8] rfl 10 rfl rfl hl.1 rfl rfl (Nat.le_of_ble_eq_true rfl) ⟨Nat.zero_le _, Nat.zero_le _⟩ dX11_crash0_243 (fun r_134 hf => ?_)
          refine lv_istore (lv' := [(6, .int r_134), (0, .ref (a 0)), (1, .int y1), (2, .int y2), (3, .int y3), (4, .int y4), (5, .int y5)]) hx hb dX11_crash0_246 hl (by decide) rfl (fun ls hl => ?_)
          refine lv_aload_n hx hb dX11_crash0_248 rfl (lv_at hl 1 rfl) ?_
          refine lv_iload hx hb dX11_crash0_249 (lv_at hl 5 rfl) ?_
          refine lv_iload hx hb dX11_crash0_251 (lv_at hl 6 rfl) ?_
          refine lv_iconst (v := 0) hx hb dX11_crash0_253 (by decide) ?_
          refine z_cVi (As := [.int y4, .int y5, .int (0 : Int32)]) (rest := []) X (c_X11_noted l dC dI cI cJ cS a z y4 y5 (0 : Int32) _ hf) zc_X11_noted q_ml_X11_77 ⟨rfl, rfl⟩ ⟨Nat.le_of_ble_eq_true rfl, Nat.le_of_ble_eq_true rfl⟩ hP [0, 1, 2, 3, 4, 5, 6, 7, 8] rfl 10 rfl rfl hl.1 rfl rfl (Nat.le_of_ble_eq_true rfl) ⟨Nat.zero_le _, Nat.zero_le _⟩ dX11_crash0_254 (fun r_135 hf => ?_)
          refine lv_istore (lv' := [(7, .int r_135), (6, .int r_134), (0, .ref (a 0)), (1, .int y1), (2, .int y2), (3, .int y3), (4, .int y4), (5, .int y5)]) hx hb dX11_crash0_257 hl (by decide) rfl (fun ls hl => ?_)
          refine lv_iload hx hb dX11_crash0_259 (lv_at hl 1 rfl) ?_
          refine lv_aload_n hx hb dX11_crash0_261 rfl (lv_at hl 2 rfl) ?_
          refine va_get (D := (dC, dI)) (ci := 10) (v := .ref (a 1)) (C := RX11) (T := TX11) (N := 17) hx hb hts inX11 hown hK hP 0 rfl rfl 1 (by decide) (hts _ q_fl_X11_7) (fun _ h9 => h9) rfl dX11_crash0_262 ?_
          refine lv_bipush (v := 7) hx hb dX11_crash0_265 (by decide) ?_
          obtain ⟨hg, hf⟩ := hf
          refine va_iald hx hb hK hP 1 0 rfl rfl hg dX11_crash0_267 ?_
          refine lv_icmp_le (tgt := 307) hx hb dX11_crash0_268 (by decide) (fun c_136 => ?_) (fun c_136 => ?_)
          · have hf := hf.1 c_136
            obtain ⟨x_137, ex_137⟩ : ∃ y : Int32, y = y5 + (1 : Int32) := ⟨_, rfl⟩
            have hf := hf x_137 ex_137
            refine lv_iinc (v := x_137) (lv' := [(5, .int x_137), (7, .int r_135), (6, .int r_134), (0, .ref (a 0)), (1, .int y1), (2, .int y2), (3, .int y3), (4, .int y4)]) hx hb dX11_crash0_307 hl (k := 7) rfl (by rw [ex_137]; rfl) (by decide) rfl (fun ls hl => ?_)
            refine lv_goto (tgt := 225) hx hb dX11_crash0_310 (by decide) ?_
            obtain ⟨k_138, hk_138, hf⟩ := hf
            exact (ih k_138 hk_138).2.2.2 _ _ _ _ _ z _ _ ls hf hP hD hS (lv_sub hl [3, 4, 5, 6, 7, 0] rfl)
          · have hf := hf.2 c_136
            refine lv_aload_n hx hb dX11_crash0_271 rfl (lv_at hl 2 rfl) ?_
            refine lv_iconst (v := 0) hx hb dX11_crash0_272 (by decide) ?_
            refine lv_iload hx hb dX11_crash0_273 (lv_at hl 0 rfl) ?_
            refine z_cVi (As := [.int (0 : Int32), .int r_135]) (rest := []) X (c_X11_hasEntry l dC dI cI cJ cS a z (0 : Int32) r_135 _ hf) zc_X11_hasEntry q_ml_X11_66 ⟨rfl, rfl⟩ ⟨Nat.le_of_ble_eq_true rfl, Nat.le_of_ble_eq_true rfl⟩ hP [0, 1, 2, 3, 4, 5, 6, 7, 8] rfl 10 rfl rfl hl.1 rfl rfl (Nat.le_of_ble_eq_true rfl) ⟨Nat.zero_le _, Nat.zero_le _⟩ dX11_crash0_275 (fun r_139 hf => ?_)
            obtain ⟨hbr_139, hf⟩ := hf
            refine lv_if_eq (tgt := 299) hx hb dX11_crash0_278 (by decide) (fun c_140 => ?_) (fun c_140 => ?_)
            · have hf := hf.1 c_140
              refine lv_aload_n hx hb dX11_crash0_299 rfl (lv_at hl 2 rfl) ?_
              refine lv_iload hx hb dX11_crash0_300 (lv_at hl 6 rfl) ?_
              refine lv_iload hx hb dX11_crash0_302 (lv_at hl 7 rfl) ?_
              refine z_mVv (Wn := (fun u_142 => cl_X11 cI cJ a u_142)) (As := [.int y4, .int y5]) (rest := []) (wr := []) X (c_X11_enters l dC dI cI cJ cS a z y4 y5 _ hf _) zc_X11_enters q_ml_X11_101 ⟨rfl, rfl⟩ ⟨Nat.le_of_ble_eq_true rfl, Nat.le_of_ble_eq_true rfl⟩ hP hD hS hA [0, 1, 2, 3, 4, 5, 6, 7, 8] [] rfl (by decide) rfl (by decide) (by decide) [0, 1, 2, 3, 4, 5, 6, 7, 8] (by decide) (fun _ => rfl) 10 rfl rfl hl.1 rfl rfl (Nat.le_of_ble_eq_true rfl) ⟨Nat.zero_le _, Nat.zero_le _⟩ dX11_crash0_304 (fun u_142 H locs hf hP hD hS => ?_)
              obtain ⟨x_143, ex_143⟩ : ∃ y : Int32, y = y5 + (1 : Int32) := ⟨_, rfl⟩
              have hf := hf x_143 ex_143
              refine lv_iinc (v := x_143) (lv' := [(5, .int x_143), (7, .int r_135), (6, .int r_134), (0, .ref (a 0)), (1, .int y1), (2, .int y2), (3, .int y3), (4, .int y4)]) hx hb dX11_crash0_307 hl (k := 7) rfl (by rw [ex_143]; rfl) (by decide) rfl (fun ls hl => ?_)
              refine lv_goto (tgt := 225) hx hb dX11_crash0_310 (by decide) ?_
              obtain ⟨k_144, hk_144, hf⟩ := hf
              exact (ih k_144 hk_144).2.2.2 _ _ _ _ _ u_142 _ _ ls hf hP hD hS (lv_sub hl [3, 4, 5, 6, 7, 0] rfl)
            · have hf := hf.2 c_140
              refine lv_aload_n hx hb dX11_crash0_281 rfl (lv_at hl 2 rfl) ?_
              refine va_get (D := (dC, dI)) (ci := 10) (v := .ref (a 1)) (C := RX11) (T := TX11) (N := 17) hx hb hts inX11 hown hK hP 0 rfl rfl 1 (by decide) (hts _ q_fl_X11_7) (fun _ h9 => h9) rfl dX11_crash0_282 ?_
              refine lv_iconst (v := 0) hx hb dX11_crash0_285 (by decide) ?_
              refine lv_iload hx hb dX11_crash0_286 (lv_at hl 0 rfl) ?_
              refine z_cSi (As := [.int (0 : Int32), .int r_135]) (rest := [.ref (a 1)]) X (c_X11_entryAt l dC dI cI cJ cS   (0 : Int32) r_135 _ hf) zc_X11_entryAt q_ml_X11_63 ⟨rfl, rfl⟩ ⟨Nat.le_of_ble_eq_true rfl, Nat.le_of_ble_eq_true rfl⟩ hP [] rfl hl.1 rfl rfl (Nat.le_of_ble_eq_true rfl) ⟨Nat.zero_le _, Nat.zero_le _⟩ dX11_crash0_288 (fun r_145 hf => ?_)
              refine lv_iconst (v := 0) hx hb dX11_crash0_291 (by decide) ?_
              refine lv_iadd hx hb dX11_crash0_292 ?_
              obtain ⟨hg, hf⟩ := hf
              refine va_iald hx hb hK hP 1 0 rfl rfl hg dX11_crash0_293 ?_
              refine lv_iload hx hb dX11_crash0_294 (lv_at hl 1 rfl) ?_
              refine lv_icmp_ge (tgt := 307) hx hb dX11_crash0_296 (by decide) (fun c_146 => ?_) (fun c_146 => ?_)
              · have hf := hf.1 c_146
                obtain ⟨x_147, ex_147⟩ : ∃ y : Int32, y = y5 + (1 : Int32) := ⟨_, rfl⟩
                have hf := hf x_147 ex_147
                refine lv_iinc (v := x_147) (lv' := [(5, .int x_147), (7, .int r_135), (6, .int r_134), (0, .ref (a 0)), (1, .int y1), (2, .int y2), (3, .int y3), (4, .int y4)]) hx hb dX11_crash0_307 hl (k := 7) rfl (by rw [ex_147]; rfl) (by decide) rfl (fun ls hl => ?_)
                refine lv_goto (tgt := 225) hx hb dX11_crash0_310 (by decide) ?_
                obtain ⟨k_148, hk_148, hf⟩ := hf
                exact (ih k_148 hk_148).2.2.2 _ _ _ _ _ z _ _ ls hf hP hD hS (lv_sub hl [3, 4, 5, 6, 7, 0] rfl)
              · have hf := hf.2 c_146
                refine lv_aload_n hx hb dX11_crash0_299 rfl (lv_at hl 2 rfl) ?_
                refine lv_iload hx hb dX11_crash0_300 (lv_at hl 6 rfl) ?_
                refine lv_iload hx hb dX11_crash0_302 (lv_at hl 7 rfl) ?_
                refine z_mVv (Wn := (fun u_150 => cl_X11 cI cJ a u_150)) (As := [.int y4, .int y5]) (rest := []) (wr := []) X (c_X11_enters l dC dI cI cJ cS a z y4 y5 _ hf _) zc_X11_enters q_ml_X11_101 ⟨rfl, rfl⟩ ⟨Nat.le_of_ble_eq_true rfl, Nat.le_of_ble_eq_true rfl⟩ hP hD hS hA [0, 1, 2, 3, 4, 5, 6, 7, 8] [] rfl (by decide) rfl (by decide) (by decide) [0, 1, 2, 3, 4, 5, 6, 7, 8] (by decide) (fun _ => rfl) 10 rfl rfl hl.1 rfl rfl (Nat.le_of_ble_eq_true rfl) ⟨Nat.zero_le _, Nat.zero_le _⟩ dX11_crash0_304 (fun u_150 H locs hf hP hD hS => ?_)
                obtain ⟨x_151, ex_151⟩ : ∃ y : Int32, y = y5 + (1 : Int32) := ⟨_, rfl⟩
                have hf := hf x_151 ex_151
                refine lv_iinc (v := x_151) (lv' := [(5, .int x_151), (7, .int r_135), (6, .int r_134), (0, .ref (a 0)), (1, .int y1), (2, .int y2), (3, .int y3), (4, .int y4)]) hx hb dX11_crash0_307 hl (k := 7) rfl (by rw [ex_151]; rfl) (by decide) rfl (fun ls hl => ?_)
                refine lv_goto (tgt := 225) hx hb dX11_crash0_310 (by decide) ?_
                obtain ⟨k_152, hk_152, hf⟩ := hf
                exact (ih k_152 hk_152).2.2.2 _ _ _ _ _ u_150 _ _ ls hf hP hD hS (lv_sub hl [3, 4, 5, 6, 7, 0] rfl)
  unfold t_X11_crash0_e at hf
  refine lv_iconst (v := 0) hx hb dX11_crash0_0 (by decide) ?_
  refine lv_istore_n (lv' := [(1, .int (0 : Int32)), (0, .ref (a 0))]) hx hb dX11_crash0_1 rfl hl (by decide) rfl (fun ls hl => ?_)
  refine lv_iconst (v := 0) hx hb dX11_crash0_2 (by decide) ?_
  refine lv_istore_n (lv' := [(2, .int (0 : Int32)), (1, .int (0 : Int32)), (0, .ref (a 0))]) hx hb dX11_crash0_3 rfl hl (by decide) rfl (fun ls hl => ?_)
  refine lv_iconst (v := 0) hx hb dX11_crash0_4 (by decide) ?_
  refine lv_istore_n (lv' := [(3, .int (0 : Int32)), (2, .int (0 : Int32)), (1, .int (0 : Int32)), (0, .ref (a 0))]) hx hb dX11_crash0_5 rfl hl (by decide) rfl (fun ls hl => ?_)
  refine lv_iconst (v := 0) hx hb dX11_crash0_6 (by decide) ?_
  refine lv_istore (lv' := [(4, .int (0 : Int32)), (3, .int (0 : Int32)), (2, .int (0 : Int32)), (1, .int (0 : Int32)), (0, .ref (a 0))]) hx hb dX11_crash0_7 hl (by decide) rfl (fun ls hl => ?_)
  obtain ⟨k_1, hf⟩ := hf
  exact (LP k_1).1 _ _ _ _ u _ _ ls hf hP hD hS (lv_sub hl [4, 3, 2, 1, 0] rfl)
def s_X11_crash0 (u : zModel) (Q : Int32 → zModel → Prop) : Prop := ∃ (v : zState) (ρ β mo lm L S M B : Nat), zP ρ β mo lm L S M B v ∧ mRel v u.2.1 ∧ ∀ m' : Nat → Int32, mRel (uCrash v) m' → Q (nI (zGone v.2.2.1 v.2.2.2.2.2.2.2.1 12)) (u.1, m', u.2.2)
theorem st_X11_crash0 {u : zModel} {Q : Int32 → zModel → Prop} (h : s_X11_crash0 u Q) : v_X11_crash0 u Q := by
  obtain ⟨v, ρ, β, mo, lm, L, S, M, B, hP, hr, hQ⟩ := h
  obtain ⟨h1, h2, h3, h4, h5, hg, ht, hR, hL, hC, hD, hT⟩ := id hP
  obtain ⟨a1, a2, a3, a4, a5, a6, a7⟩ := h5
  obtain ⟨rT, rS, rR, rE, rN', rL⟩ := mRel_iff.mp hr
  have m6 : u.2.1 6 = nI S := (rT 6 (by decide)).trans a2
  have m7 : u.2.1 7 = nI M := (rT 7 (by decide)).trans a3
  have hgr := fun q hq => zGr_ok (s := q) hg (by omega) (nI S) hq
  have ecut : uCut v = zOpL (zCo v.2.2.1 (nI S) 12) := by unfold uCut; rw [a2]
  obtain ⟨hg2, hn2⟩ := hg.crash (S := S) a5 (by omega)
  rw [← ecut] at hg2 hn2
  have hc1 : (uCut v).1 = v.2.2.1.1 := by rw [ecut]; rfl
  rw [a2] at hQ
  refine ⟨fun k y1 y2 y3 y4 z => ∃ (s : Nat) (mm : Nat → Int32), s ≤ 12 ∧ k = 1000000 + 1000 * (12 - s) + 500 ∧ y1 = nI (zGone v.2.2.1 (nI S) s) ∧ y2 = crG (zCo v.2.2.1 (nI S) 12) s ∧ y3 = nI (zLt (zCo v.2.2.1 (nI S) 12) s) ∧ y4 = nI s ∧ z = (u.1, mm, u.2.2) ∧ crA u.2.1 v.2.2.1 (nI S) s mm,
    fun k y1 y2 y3 y4 y5 z => ∃ (s n : Nat) (mm : Nat → Int32), s < 12 ∧ n ≤ gN v.2.2.1 s ∧ k = 1000000 + 1000 * (12 - s) + n ∧ y1 = nI (zGone v.2.2.1 (nI S) s + (gN v.2.2.1 s - n)) ∧ y2 = crG (zCo v.2.2.1 (nI S) 12) s ∧ y3 = nI (zLt (zCo v.2.2.1 (nI S) 12) s) ∧ y4 = nI s ∧ y5 = nI n ∧ z = (u.1, mm, u.2.2) ∧ crA u.2.1 v.2.2.1 (nI S) s mm ∧ zCut v.2.2.1 (nI S) s n = zCut v.2.2.1 (nI S) s (gN v.2.2.1 s),
    fun k y1 y2 y3 y4 z => ∃ (s : Nat) (mm : Nat → Int32), s ≤ 12 ∧ k = 1000 * (12 - s) + 500 ∧ y1 = nI (zGone v.2.2.1 (nI S) 12) ∧ y4 = nI s ∧ z = (u.1, mm, u.2.2) ∧ crB v u.2.1 (zRpA (uCut v) v.2.2.2.2.2.2.2.2 (zRp0 v.2.2.2.1) s) mm,
    fun k y1 y2 y3 y4 y5 z => ∃ (s j : Nat) (mm : Nat → Int32), s < 12 ∧ j ≤ gN (uCut v) s ∧ k = 1000 * (12 - s) + (60 - j) ∧ y1 = nI (zGone v.2.2.1 (nI S) 12) ∧ y4 = nI s ∧ y5 = nI j ∧ z = (u.1, mm, u.2.2) ∧ crB v u.2.1 (zRpS (uCut v) v.2.2.2.2.2.2.2.2 s (zRpA (uCut v) v.2.2.2.2.2.2.2.2 (zRp0 v.2.2.2.1) s) j) mm, ?_, ?_, ?_, ?_, ?_⟩
  · rintro k y1 y2 y3 y4 z ⟨s, mm, hs, rfl, rfl, rfl, rfl, rfl, rfl, hA⟩
    unfold t_X11_crash0_9
    refine ⟨fun c => ?_, fun c => ?_⟩
    · have : s = 12 := by
        have := (nI_leI (a := 12) (b := s) (by decide) (by omega)).mp c
        omega
      subst this
      have hl := zLt_lt (zCo v.2.2.1 (nI S) 12) 12 (Nat.le_refl _)
      rw [ix_seg', nc_0 (by omega)]
      refine ⟨vi_0 (by omega) (by decide), fun f3 e3 => ⟨0, by decide, rfl, 1000 * (12 - 0) + 500, by omega, 0, mWp f3 0 384, by omega, rfl, rfl, rfl, rfl, ?_⟩⟩
      rw [e3]
      exact crA_crB hP hr hA
    · have hs : s < 12 := by
        have : ¬ 12 ≤ s := fun q => c (le12 q (by omega))
        omega
      refine ⟨s, 1, hs, by decide, rfl, rfl, ?_⟩
      have e : mm (66 + 3 * s + 1) = nI (gN v.2.2.1 s) := by rw [hA.2 _ (by omega)]; exact (rS s 1 hs (by decide)).trans (hg.2.1 s hs).1
      have h50 := (hg.2.1 s hs).2
      refine ⟨1000000 + 1000 * (12 - s) + gN v.2.2.1 s, by omega, s, gN v.2.2.1 s, mm, hs, Nat.le_refl _, rfl, by rw [Nat.sub_self]; rfl, rfl, rfl, rfl, e, rfl, hA, rfl⟩
  · rintro k y1 y2 y3 y4 y5 z ⟨s, n, mm, hs, hn, rfl, rfl, rfl, rfl, rfl, rfl, rfl, hA, ec⟩
    have h50 := (hg.2.1 s hs).2
    have hrc : ∀ j w, j < gN v.2.2.1 s → w < 5 → mm (102 + 5 * (50 * s + j) + w) = recF (uRec v s j) w := fun j w hj hw => by
      rw [hA.2 _ (by omega)]; exact rR s j w hs hj hw
    obtain ⟨st1, st2, st3⟩ := crG_step (g := zCo v.2.2.1 (nI S) 12) hs (fun q hq => (hgr q hq).1)
    have tail : zCut v.2.2.1 (nI S) s n = n → ∀ K9 : Int32 → Int32 → Int32 → Int32 → zModel → Prop, (∀ mm', crA u.2.1 v.2.2.1 (nI S) (s + 1) mm' → K9 (nI (zGone v.2.2.1 (nI S) (s + 1))) (crG (zCo v.2.2.1 (nI S) 12) (s + 1)) (nI (zLt (zCo v.2.2.1 (nI S) 12) (s + 1))) (nI (s + 1)) (u.1, mm', u.2.2)) → crT (u.1, mm, u.2.2) (nI (zGone v.2.2.1 (nI S) s + (gN v.2.2.1 s - n))) (crG (zCo v.2.2.1 (nI S) 12) s) (nI (zLt (zCo v.2.2.1 (nI S) 12) s)) (nI s) (nI n) K9 := by
      intro en K9 hK
      rw [en] at ec
      have egone : zGone v.2.2.1 (nI S) (s + 1) = zGone v.2.2.1 (nI S) s + (gN v.2.2.1 s - n) := by
        show zGone v.2.2.1 (nI S) s + (gNn v.2.2.1 s - zCut v.2.2.1 (nI S) s (gNn v.2.2.1 s)) = _
        show zGone v.2.2.1 (nI S) s + (gN v.2.2.1 s - zCut v.2.2.1 (nI S) s (gN v.2.2.1 s)) = _
        rw [← ec]
      rw [egone] at hK
      refine cr_tail (T := nI (gB v.2.2.1 s n)) hs (by omega) (fun k hk => ?_) (fun h0 => by rw [h0]; rfl) (fun a b f f0 f1 f2 fo hab => ?_)
      · subst hk
        have hro := hg.2.2.2.2.1 s hs k (by omega)
        refine ⟨lnN (uRec v s k), hro.2.2.2.2.2, ?_, ?_⟩
        · show mm _ = _
          rw [hrc k 1 (by omega) (by decide)]; exact lnI_c (lnN_eq _).1 hro.2.2.2.2.2
        · show mm _ + _ = _
          rw [hrc k 4 (by omega) (by decide)]
          show cBeg (uRec v s k) + _ = _
          rw [hro.2.1, n_lit4, nI_add, nI_add]; rfl
      · have hA2 : crA u.2.1 v.2.2.1 (nI S) (s + 1) f := by
          refine ⟨fun q hq => ?_, fun j hj => by rw [fo j (by omega)]; exact hA.2 j (by omega)⟩
          by_cases hqs : q = s
          · subst hqs
            rw [← ec]; exact ⟨f0, f1, f2⟩
          · obtain ⟨x0, x1, x2⟩ := hA.1 q (by omega)
            rw [fo _ (by omega), fo _ (by omega), fo _ (by omega)]; exact ⟨x0, x1, x2⟩
        have := hK f hA2
        rw [st1, st2] at this
        rcases hab with ⟨h0, rfl, rfl⟩ | ⟨k, hk, hab⟩
        · have hz := (hgr s hs).2.1 (by rw [← ec]; exact h0)
          rw [hz, if_neg st3, if_neg st3] at this
          exact this
        · have hz := (hgr s hs).2.2 k (by rw [← ec]; exact hk)
          have e3 : mm (102 + 5 * (50 * s + k) + 3) = cNum (v.2.2.1.1 (50 * s + k)) := hrc k 3 (by omega) (by decide)
          have hab : (crG (zCo v.2.2.1 (nI S) 12) s < mm (102 + 5 * (50 * s + k) + 3) ∧ a = mm (102 + 5 * (50 * s + k) + 3) ∧ b = nI s) ∨ (¬ crG (zCo v.2.2.1 (nI S) 12) s < mm (102 + 5 * (50 * s + k) + 3) ∧ a = crG (zCo v.2.2.1 (nI S) 12) s ∧ b = nI (zLt (zCo v.2.2.1 (nI S) 12) s)) := hab
          rw [e3] at hab
          rw [hz] at this
          rcases hab with ⟨c, rfl, rfl⟩ | ⟨c, rfl, rfl⟩
          · rw [if_pos c, if_pos c] at this; exact this
          · rw [if_neg c, if_neg c] at this; exact this
    have next : ∀ mm', crA u.2.1 v.2.2.1 (nI S) (s + 1) mm' → ∃ k', k' < 1000000 + 1000 * (12 - s) + n ∧ ∃ (s' : Nat) (mm2 : Nat → Int32), s' ≤ 12 ∧ k' = 1000000 + 1000 * (12 - s') + 500 ∧ nI (zGone v.2.2.1 (nI S) (s + 1)) = nI (zGone v.2.2.1 (nI S) s') ∧ crG (zCo v.2.2.1 (nI S) 12) (s + 1) = crG (zCo v.2.2.1 (nI S) 12) s' ∧ nI (zLt (zCo v.2.2.1 (nI S) 12) (s + 1)) = nI (zLt (zCo v.2.2.1 (nI S) 12) s') ∧ nI (s + 1) = nI s' ∧ (u.1, mm', u.2.2) = (u.1, mm2, u.2.2) ∧ crA u.2.1 v.2.2.1 (nI S) s' mm2 := fun mm' h => ⟨1000000 + 1000 * (12 - (s + 1)) + 500, by omega, s + 1, mm', by omega, rfl, rfl, rfl, rfl, rfl, rfl, h⟩
    unfold t_X11_crash0_25
    refine ⟨fun c => ?_, fun c => ?_⟩
    · have h0 : n = 0 := by
        have := (nI_leI (b := 0) (by omega) (by decide)).mp c
        omega
      exact tail (by rw [h0]; rfl) (fun y1 y2 y3 y4 z => ∃ k', k' < 1000000 + 1000 * (12 - s) + n ∧ ∃ (s' : Nat) (mm2 : Nat → Int32), s' ≤ 12 ∧ k' = 1000000 + 1000 * (12 - s') + 500 ∧ y1 = nI (zGone v.2.2.1 (nI S) s') ∧ y2 = crG (zCo v.2.2.1 (nI S) 12) s' ∧ y3 = nI (zLt (zCo v.2.2.1 (nI S) 12) s') ∧ y4 = nI s' ∧ z = (u.1, mm2, u.2.2) ∧ crA u.2.1 v.2.2.1 (nI S) s' mm2) next
    · have h0 : ¬ n = 0 := fun q => c (by rw [q]; decide)
      obtain ⟨j, rfl⟩ : ∃ j, n = j + 1 := ⟨n - 1, by omega⟩
      rw [nI_pred]
      refine ⟨s, j, 3, hs, by omega, by decide, rfl, rfl, rfl, vp_in_nI (n := 6) (by decide) (by decide), ?_⟩
      dsimp only
      rw [n_c6, hA.2 6 (by omega), m6, hrc j 3 (by omega) (by decide)]
      refine ⟨fun c2 => ?_, fun c2 x e x' e' => ?_⟩
      · have := tail (if_pos c2) (fun y1 y2 y3 y4 z => ∃ k', k' < 1000000 + 1000 * (12 - s) + (j + 1) ∧ ∃ (s' : Nat) (mm2 : Nat → Int32), s' ≤ 12 ∧ k' = 1000000 + 1000 * (12 - s') + 500 ∧ y1 = nI (zGone v.2.2.1 (nI S) s') ∧ y2 = crG (zCo v.2.2.1 (nI S) 12) s' ∧ y3 = nI (zLt (zCo v.2.2.1 (nI S) 12) s') ∧ y4 = nI s' ∧ z = (u.1, mm2, u.2.2) ∧ crA u.2.1 v.2.2.1 (nI S) s' mm2) next
        unfold crT at this
        rw [nI_pred] at this
        exact this
      · have d1 : zCut v.2.2.1 (nI S) s (j + 1) = zCut v.2.2.1 (nI S) s j := if_neg c2
        refine ⟨1000000 + 1000 * (12 - s) + j, by omega, s, j, mm, hs, by omega, rfl, ?_, rfl, rfl, rfl, ?_, rfl, hA, by rw [← d1]; exact ec⟩
        · rw [e', nI_1]
          congr 1
          omega
        · rw [e]; exact n_pm j
  · rintro k y1 y2 y3 y4 z ⟨s, mm, hs, rfl, rfl, rfl, rfl, hB⟩
    unfold t_X11_crash0_215
    refine ⟨fun c => ?_, fun c => ?_⟩
    · have : s = 12 := by
        have := (nI_leI (a := 12) (b := s) (by decide) (by omega)).mp c
        omega
      subst this
      rw [n_c8, n_c9, n_c10, n_c6, n_c7, n_c5]
      refine ⟨vp_in_nI (n := 8) (by decide) (by decide), fun f1 e1 => ⟨vp_in_nI (n := 9) (by decide) (by decide), fun f2 e2 => ⟨vp_in_nI (n := 10) (by decide) (by decide), fun f3 e3 => ?_⟩⟩⟩
      have e1 : f1 = upd mm 8 (-1) := e1
      have o3 : ∀ j, ¬ (8 ≤ j ∧ j ≤ 10) → f3 j = mm j := fun j a => by rw [e3, up_ne (by omega), e2, up_ne (by omega), e1, up_ne (by omega)]
      refine ⟨v.2.2.2.2.2.1, hD, ?_, fun m2 hlg hj2 => ?_⟩
      · exact rL.cg hD.2 (fun j a b => by show f3 j = _; rw [o3 j (by omega), hB.2.2.2.2 j (by omega)])
      · have hj2 : ∀ j, j < 5406 → m2 j = f3 j := hj2
        have hlg : mLg (zTell v.2.2.2.2.2.1 (dN v.2.2.2.2.2.1) 3 (nI (zGone v.2.2.1 (nI S) 12)) (f3 5)) m2 := hlg
        rw [o3 5 (by omega), hB.1 5 (by omega), rT 5 (by decide)] at hlg
        have q6 : m2 6 = nI S := by rw [hj2 6 (by omega), o3 6 (by omega), hB.1 6 (by omega), m6]
        have q7 : m2 7 = nI M := by rw [hj2 7 (by omega), o3 7 (by omega), hB.1 7 (by omega), m7]
        dsimp only
        rw [q6, q7]
        refine ⟨vp_in_nI (n := 6) (by decide) (by decide), vp_in_nI (n := 7) (by decide) (by decide), ?_⟩
        have fin : ∀ f : Nat → Int32, f = upd m2 5 (nI S) → Q (nI (zGone v.2.2.1 (nI S) 12)) (u.1, f, u.2.2) := fun f ef => by
          refine hQ f (crB_fin hP hr hB ?_ ?_ ?_ ?_ (fun j a b c => ?_) ?_)
          · rw [ef, up_eq rfl]
          · rw [ef, up_ne (by decide), hj2 _ (by decide), e3, up_ne (by decide), e2, up_ne (by decide), e1, up_eq rfl]
          · rw [ef, up_ne (by decide), hj2 _ (by decide), e3, up_ne (by decide), e2, up_eq rfl]
          · rw [ef, up_ne (by decide), hj2 _ (by decide), e3, up_eq rfl]
          · rw [ef, up_ne b, hj2 j a, o3 j c]
          · rw [a2]
            exact hlg.cg (hD.tell _ _ _).2 (fun j a b => by rw [ef, up_ne (by omega)])
        refine ⟨fun c => ⟨vp_in_nI (n := 5) (by decide) (by decide), fun f ef => fin f ?_⟩, fun c => ⟨vp_in_nI (n := 5) (by decide) (by decide), fun f ef => fin f ef⟩⟩
        have := (nI_leI (a := S) (b := M) (by omega) (by omega)).mp c
        rw [show M = S by omega] at ef; exact ef
    · have hs : s < 12 := by
        have : ¬ 12 ≤ s := fun q => c (le12 q (by omega))
        omega
      exact ⟨1000 * (12 - s) + (60 - 0), by omega, s, 0, mm, hs, Nat.zero_le _, rfl, rfl, rfl, rfl, rfl, hB⟩
  · rintro k y1 y2 y3 y4 y5 z ⟨s, j, mm, hs, hj, rfl, rfl, rfl, rfl, rfl, hB⟩
    have h50 := (hg2.2.1 s hs).2
    generalize hA : zRpA (uCut v) v.2.2.2.2.2.2.2.2 (zRp0 v.2.2.2.1) s = tA at hB
    have eN : mm (66 + 3 * s + 1) = nI (gN (uCut v) s) := (hB.2.1 s 1 hs (by decide)).trans (hg2.2.1 s hs).1
    unfold t_X11_crash0_225
    refine ⟨s, 1, hs, by decide, rfl, rfl, ?_⟩
    dsimp only
    rw [eN]
    refine ⟨fun c x e => ?_, fun c => ?_⟩
    · have : j = gN (uCut v) s := by
        have := (nI_leI (by omega) (by omega)).mp c
        omega
      subst this
      refine ⟨1000 * (12 - (s + 1)) + 500, by omega, s + 1, mm, by omega, rfl, rfl, by rw [e, nI_1], rfl, ?_⟩
      show crB v u.2.1 (zRpS (uCut v) v.2.2.2.2.2.2.2.2 s (zRpA (uCut v) v.2.2.2.2.2.2.2.2 (zRp0 v.2.2.2.1) s) (gN (uCut v) s)) mm
      rw [hA]; exact hB
    · have hj : j < gN (uCut v) s := by
        have : ¬ gN (uCut v) s ≤ j := fun q => c (nI_le q (by omega))
        omega
      have hro := hg2.2.2.2.2.1 s hs j hj
      obtain ⟨cd, ecd⟩ : ∃ cd, cd = (uCut v).1 (50 * s + j) := ⟨_, rfl⟩
      rw [← ecd] at hro
      have hrow : ∀ w, w < 5 → mm (102 + 5 * (50 * s + j) + w) = recF cd w := fun w hw => by rw [ecd]; exact hB.2.2.1 s j w hs hj hw
      have hcd0 : ¬ cd = 0 := fun q => by
        have := hro.2.2.2.1
        rw [q, show cnN 0 = 0 by decide] at this
        omega
      obtain ⟨t, et⟩ : ∃ t, t = zRpS (uCut v) v.2.2.2.2.2.2.2.2 s tA j := ⟨_, rfl⟩
      rw [← et] at hB
      have hk := kN_lt cd
      have hE0 := hB.2.2.2.1 0 (kN cd) (Nat.zero_le _) hk
      rw [show 64 * 0 + kN cd = kN cd by omega] at hE0
      have nx : ∀ (t' : zTree) (mm' : Nat → Int32), zRp1 v.2.2.2.2.2.2.2.2 t cd = t' → crB v u.2.1 t' mm' → ∀ x : Int32, x = nI j + 1 → ∃ k', k' < 1000 * (12 - s) + (60 - j) ∧ ∃ (s' j' : Nat) (mm2 : Nat → Int32), s' < 12 ∧ j' ≤ gN (uCut v) s' ∧ k' = 1000 * (12 - s') + (60 - j') ∧ nI (zGone v.2.2.1 (nI S) 12) = nI (zGone v.2.2.1 (nI S) 12) ∧ nI s = nI s' ∧ x = nI j' ∧ (u.1, mm', u.2.2) = (u.1, mm2, u.2.2) ∧ crB v u.2.1 (zRpS (uCut v) v.2.2.2.2.2.2.2.2 s' (zRpA (uCut v) v.2.2.2.2.2.2.2.2 (zRp0 v.2.2.2.1) s') j') mm2 := by
        intro t' mm' e1 hB' x ex
        refine ⟨1000 * (12 - s) + (60 - (j + 1)), by omega, s, j + 1, mm', hs, hj, rfl, rfl, rfl, by rw [ex, nI_1], rfl, ?_⟩
        rw [hA]
        show crB v u.2.1 (zRp1 v.2.2.2.2.2.2.2.2 (zRpS (uCut v) v.2.2.2.2.2.2.2.2 s tA j) ((uCut v).1 (50 * s + j))) mm'
        rw [← et, ← ecd, e1]; exact hB'
      have ent : ∀ K : zModel → Prop, (∀ mm' : Nat → Int32, crB v u.2.1 (zInto t (kN cd) cd) mm' → K (u.1, mm', u.2.2)) → s_X11_enters (u.1, mm, u.2.2) (nI s) (nI j) K := by
        intro K hK
        refine ⟨s, j, kN cd, cd, hs, by omega, hk, rfl, rfl, hrow, hro.1, hcd0, kN_eq cd, fun m' hE hjj => hK m' ?_⟩
        have hjj : ∀ i, ¬ (3102 + 6 * kN cd ≤ i ∧ i < 3102 + 6 * kN cd + 6) → m' i = mm i := hjj
        have hE : mE1 (mm 1) cd m' (3102 + 6 * kN cd) := hE
        rw [hB.1 1 (by omega), rT 1 (by decide)] at hE
        refine ⟨fun i hi => by rw [hjj i (by omega)]; exact hB.1 i hi, hB.2.1.cg (fun i a b => hjj i (by omega)), hB.2.2.1.cg (fun q hq => (hg2.2.1 q hq).2) (fun i a b => hjj i (by omega)), fun l i hl hi => ?_, fun i hi => by rw [hjj i (by omega)]; exact hB.2.2.2.2 i hi⟩
        have hl : l ≤ tR t := hl
        rw [into_at t cd hk hi]
        by_cases hx : l = 0 ∧ i = kN cd
        · rw [if_pos hx]
          obtain ⟨rfl, rfl⟩ := hx
          rw [show 64 * 0 + kN cd = kN cd by omega]; exact hE
        · rw [if_neg hx]
          exact (hB.2.2.2.1 l i hl hi).cg (fun w hw => hjj _ (by omega))
      refine ⟨s, j, 3, hs, by omega, by decide, rfl, rfl, rfl, s, j, 0, hs, by omega, by decide, rfl, rfl, rfl, vp_in_nI (n := 7) (by decide) (by decide), ?_⟩
      dsimp only
      rw [hrow 3 (by decide), hrow 0 (by decide), n_c7, hB.1 7 (by omega), rT 7 (by decide)]
      show (cNum cd ≤ v.2.2.2.2.2.2.2.2 → _) ∧ (¬ cNum cd ≤ v.2.2.2.2.2.2.2.2 → s_X11_hasEntry (u.1, mm, u.2.2) 0 (cKey cd) _)
      refine ⟨fun c1 x e => ?_, fun c1 => ⟨0, kN cd, by decide, hk, rfl, kN_eq cd, fun c2 => ⟨fun _ => ?_, fun q => absurd rfl q⟩, fun c2 => ⟨fun q => absurd q (by decide), fun _ => ?_⟩⟩⟩
      · exact nx t mm (if_pos c1) hB x e
      · have c2 : mm (3102 + 6 * (64 * 0 + kN cd) + 1) ≤ 0 := c2
        rw [show 64 * 0 + kN cd = kN cd by omega, hE0.1] at c2
        have hz := (uKind_pos _).mp c2
        refine ent _ (fun mm' hB' x e => nx _ mm' ?_ hB' x e)
        unfold zRp1
        rw [if_neg c1, if_neg ?_]
        rw [hz, cNum_0]
        have h1 : 1 ≤ cnN cd := hro.2.2.2.1
        rw [hro.2.2.1]
        have hb := hro.2.2.2.2.1
        exact fun q => by
          have := (nI_leI (b := 0) (by omega) (by decide)).mp q
          omega
      · have c2 : ¬ mm (3102 + 6 * (64 * 0 + kN cd) + 1) ≤ 0 := c2
        rw [show 64 * 0 + kN cd = kN cd by omega, hE0.1] at c2
        have hz : ¬ t.1 (kN cd) = 0 := fun q => c2 ((uKind_pos _).mpr q)
        have hz0 : mm (3102 + 6 * kN cd + 0) = cNum (t.1 (kN cd)) := hE0.2 hz 0 (by decide)
        unfold s_X11_entryAt
        rw [show recF cd 0 = nI (kN cd) from kN_eq cd, n_lit0, ix_ent, show 64 * 0 + kN cd = kN cd by omega]
        dsimp only
        rw [show nI (3102 + 6 * kN cd) + nI 0 = nI (3102 + 6 * kN cd + 0) from nI_add _ 0, nI_clamp (by omega), hz0]
        refine ⟨vp_in_nI (by omega) (by decide), fun c3 x e => ?_, fun c3 => ?_⟩
        · refine nx t mm ?_ hB x e
          unfold zRp1
          rw [if_neg c1]; exact if_pos c3
        · refine ent _ (fun mm' hB' x e => nx _ mm' ?_ hB' x e)
          unfold zRp1
          rw [if_neg c1]; exact if_neg c3
  · exact ⟨1000000 + 1000 * (12 - 0) + 500, 0, u.2.1, by omega, rfl, rfl, rfl, rfl, rfl, rfl, fun q hq => absurd hq (Nat.not_lt_zero q), fun j _ => rfl⟩
theorem c_X11_crash0 (l : Launch) (dC : Nat → ClassId) (dI : Nat → Nat → Nat) (cI cJ cS : ClassId) (a : Nat → Nat) (u : zModel) (Q : Int32 → zModel → Prop) (hf : s_X11_crash0 u Q) : ∀ sz : Nat, Met l yX11_crash0 (Cond.code yX11_crash0 cX11_crash0 8 (some .int) :: zT) rm_X11_crash0 (zPm dC dI cI cJ cS (cl_X11 cI cJ a u) [.ref (a 0)] sz) (va_Qi Q (zB dC dI cI cJ cS (va_A (cl_X11 cI cJ a u) sz) (fun z => cl_X11 cI cJ a z)) (va_A (cl_X11 cI cJ a u) sz)) 0 0 (va_A (cl_X11 cI cJ a u) sz) := by
  obtain ⟨I9, I25, I215, I225, h9, h25, h215, h225, hf⟩ := st_X11_crash0 hf
  exact L_X11_crash0 l dC dI cI cJ cS a u Q I9 I25 I215 I225 h9 h25 h215 h225 hf
