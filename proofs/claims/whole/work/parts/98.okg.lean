/-! what holds stays, whatever is called; what a call can throw -/
theorem og_put {B : Nat} {G : zG} (h : okG B G) (hB : B + 280 ≤ 400000) (x1 x2 x3 : Int32) : okG (B + 280) (fPut G x1 x2 x3).2.2 := by
  have hm : okG (B + 280) G := h.mono (by omega) hB
  have h2 : okG (B + 2) G := h.mono (by omega) (by omega)
  unfold fPut
  split
  · rename_i c1
    split
    · rename_i c2
      split
      · rename_i c3
        obtain ⟨k, -, hk, -, e1⟩ := inR_n (a := 0) (b := 63) (by decide) (by decide) c1
        obtain ⟨n, -, hn, ex, e2⟩ := inR_n (a := 1) (b := 40) (by decide) (by decide) c2.1
        obtain ⟨d, -, hd, -, e3⟩ := inR_n (a := 0) (b := 255) (by decide) (by decide) c2.2
        refine (h2.act (v := uPut (gNow G) x1.toNatClampNeg x2.toNatClampNeg x3.toNatClampNeg) ?_).mono (by omega) hB
        rw [e1, e2, e3]
        exact h.1.put (by omega) (by omega) hn (by omega) (by rw [← ex]; exact c3)
      · exact hm.no 1
    · exact hm
  · exact hm
theorem og_drop {B : Nat} {G : zG} (h : okG B G) (hB : B + 280 ≤ 400000) (x1 : Int32) : okG (B + 280) (fDrop G x1).2.2 := by
  have hm : okG (B + 280) G := h.mono (by omega) hB
  have h2 : okG (B + 2) G := h.mono (by omega) (by omega)
  unfold fDrop
  split
  · rename_i c1
    split
    · rename_i c2
      split
      · obtain ⟨k, -, hk, -, e1⟩ := inR_n (a := 0) (b := 63) (by decide) (by decide) c1
        refine (h2.act (v := uDrop (gNow G) x1.toNatClampNeg) ?_).mono (by omega) hB
        rw [e1]
        exact h.1.drop (by omega) (by omega) c2
      · exact hm.no 2
    · exact hm.no 1
  · exact hm
theorem og_sync {B : Nat} {G : zG} (h : okG B G) (hB : B + 280 ≤ 400000) : okG (B + 280) (fSync G).2.2 := (h.act h.1.sync).mono (by omega) hB
theorem og_flush {B : Nat} {G : zG} (h : okG B G) (hB : B + 280 ≤ 400000) : okG (B + 280) (fFlush G).2.2 := (h.act h.1.flush).mono (by omega) hB
theorem og_merge {B : Nat} {G : zG} (h : okG B G) (hB : B + 280 ≤ 400000) : okG (B + 280) (fMerge G).2.2 := (h.act h.1.merge).mono (by omega) hB
theorem og_crash {B : Nat} {G : zG} (h : okG B G) (hB : B + 280 ≤ 400000) : okG (B + 280) (fCrash G).2.2 := (h.act h.1.crash).mono (by omega) hB
theorem og_pick {B : Nat} {G : zG} (h : okG B G) (hB : B + 280 ≤ 400000) (x1 : Int32) : okG (B + 280) (fPick G x1).2.2 := by
  have hm : okG (B + 280) G := h.mono (by omega) hB
  unfold fPick
  split
  · rename_i c1
    split
    · rename_i c2
      refine (h.act (v := uNote (gNow G) (uSel (gNow G) x1).toNatClampNeg) (h.1.note ?_ c2)).mono (by omega) hB
      rcases c1 with c1 | c1
      · exact Or.inl c1
      · obtain ⟨k, -, hk, e0, -⟩ := inR_n (a := 0) (b := 11) (by decide) (by decide) c1
        exact Or.inr ⟨k, by omega, e0⟩
    · exact hm.no _
  · exact hm
theorem og_step {B : Nat} {G : zG} (h : okG B G) (hB : B + 280 ≤ 400000) (x1 : Int32) : okG (B + 280) (fStep G x1).2.2 := by
  have hm : okG (B + 280) G := h.mono (by omega) hB
  unfold fStep
  split
  · rename_i c1
    obtain ⟨k, -, hk, -, e1⟩ := inR_n (a := 1) (b := 20) (by decide) (by decide) c1
    rw [e1]
    split
    · have h2 : okG (B + k) G := h.mono (by omega) (by omega)
      exact (h2.act (h.1.col (by omega))).mono (by omega) hB
    · exact hm.no _
  · exact hm
theorem og_quit {B : Nat} {G : zG} (h : okG B G) (hB : B + 280 ≤ 400000) : okG (B + 280) (fQuit G).2.2 := by
  have hm : okG (B + 280) G := h.mono (by omega) hB
  unfold fQuit
  split
  · exact hm.no 5
  · exact (h.act h.1.quit).mono (by omega) hB
theorem og_undo {B : Nat} {G : zG} (h : okG B G) (hB : B + 280 ≤ 400000) : okG (B + 280) (fUndo G).2.2 := by
  have hm : okG (B + 280) G := h.mono (by omega) hB
  unfold fUndo
  split
  · exact hm
  · rename_i c
    refine okG.mono (B := B) ?_ (by omega) hB
    obtain ⟨h1, h2, h3, h4⟩ := h
    refine ⟨h3.2 (gUnN G - 1) (by omega), h2, ⟨?_, fun i hi => h3.2 i ?_⟩, h4⟩
    · have : gUnN G ≤ 8 := h3.1
      show gUnN G - 1 ≤ 8
      omega
    · have hi : i < gUnN G - 1 := hi
      omega
theorem og_store {B : Nat} {G : zG} (h : okG B G) (hB : B + 280 ≤ 400000) (x1 x2 x3 x4 : Int32) : okG (B + 280) (fStore G x1 x2 x3 x4).2.2 := by
  have hm : okG (B + 280) G := h.mono (by omega) hB
  unfold fStore
  split
  · rename_i c
    exact ⟨okB_begin (gNow G) hB c, hm.2.1, ⟨Nat.zero_le 8, fun i hi => absurd hi (Nat.not_lt_zero i)⟩, hm.2.2.2⟩
  · exact hm
theorem og_image {B : Nat} {G : zG} (h : okG B G) (hB : B + 280 ≤ 400000) : okG (B + 280) (fImage G) := by
  have hm : okG (B + 280) G := h.mono (by omega) hB
  exact ⟨hm.1, Or.inr ⟨rfl, hm.1⟩, hm.2.2.1, hm.2.2.2⟩
theorem og_back {B : Nat} {G : zG} (h : okG B G) (hB : B + 280 ≤ 400000) : okG (B + 280) (fBack G).2 := by
  have hm : okG (B + 280) G := h.mono (by omega) hB
  unfold fBack
  split
  · exact hm
  · rename_i c
    rcases hm.2.1 with e | e
    · exact absurd e c
    · exact ⟨e.2, Or.inr e, ⟨Nat.zero_le 8, fun i hi => absurd hi (Nat.not_lt_zero i)⟩, hm.2.2.2⟩
theorem og_end {B : Nat} {G : zG} (h : okG B G) (hB : B + 280 ≤ 400000) (x : Int32) : okG (B + 280) (fEnd G x).2 := by
  have hm : okG (B + 280) G := h.mono (by omega) hB
  have h4 : gTpN G ≤ 400 := h.2.2.2
  unfold fEnd
  split
  · rename_i c
    obtain ⟨k, -, hk, -, e1⟩ := inR_n (a := 0) (b := gTpN G) (by omega) (by decide) c
    refine ⟨hm.1, hm.2.1, hm.2.2.1, ?_⟩
    show x.toNatClampNeg ≤ 400
    omega
  · exact hm
theorem og_feed {B : Nat} {G : zG} (h : okG B G) (hB : B + 280 ≤ 400000) (a b c d e : Int32) : okG (B + 280) (fFeed G a b c d e).2 := by
  have hm : okG (B + 280) G := h.mono (by omega) hB
  unfold fFeed
  split
  · rename_i q
    exact ⟨hm.1, hm.2.1, hm.2.2.1, q⟩
  · exact hm
theorem og_acts {B : Nat} {G : zG} (h : okG B G) (hB : B + 280 ≤ 400000) : okG (B + 280) (fActs G).2.2 := by
  have hm : okG (B + 280) G := h.mono (by omega) hB
  unfold fActs
  split
  · have hv : okB (B + 280) (txt G).2.2.2 := okB_txF (t := gTp G) (N := gTpN G) 16 0 0 h.1 (by decide) (by omega)
    exact ⟨hv, hm.2.1, ⟨Nat.zero_le 8, fun i hi => absurd hi (Nat.not_lt_zero i)⟩, Nat.zero_le 400⟩
  · exact ⟨hm.1, hm.2.1, hm.2.2.1, Nat.zero_le 400⟩
theorem og_ask {B : Nat} {G : zG} (h : okG B G) (hB : B + 280 ≤ 400000) : okG (B + 280) G := h.mono (by omega) hB
theorem og_0 : okG 0 zG0 := ⟨okB_begin zS (by decide) ⟨by decide, by decide, by decide, by decide⟩, Or.inl rfl, ⟨Nat.zero_le 8, fun i hi => absurd hi (Nat.not_lt_zero i)⟩, Nat.zero_le 400⟩
theorem fc_put (G : zG) (x1 x2 x3 : Int32) : (fPut G x1 x2 x3).1 = 0 ∨ (fPut G x1 x2 x3).1 = 1 ∨ (fPut G x1 x2 x3).1 = 2 ∨ (fPut G x1 x2 x3).1 = 3 := by
  unfold fPut
  repeat' split
  all_goals first | exact Or.inl rfl | exact Or.inr (Or.inl rfl) | exact Or.inr (Or.inr (Or.inl rfl)) | exact Or.inr (Or.inr (Or.inr (rfl)))
theorem fc_drop (G : zG) (x1 : Int32) : (fDrop G x1).1 = 0 ∨ (fDrop G x1).1 = 1 ∨ (fDrop G x1).1 = 2 := by
  unfold fDrop
  repeat' split
  all_goals first | exact Or.inl rfl | exact Or.inr (Or.inl rfl) | exact Or.inr (Or.inr (rfl))
theorem fc_pick (G : zG) (x1 : Int32) : (fPick G x1).1 = 0 ∨ (fPick G x1).1 = 1 ∨ (fPick G x1).1 = 2 := by
  unfold fPick
  repeat' split
  all_goals first | exact Or.inl rfl | exact Or.inr (Or.inl rfl) | exact Or.inr (Or.inr (rfl))
theorem fc_step (G : zG) (x1 : Int32) : (fStep G x1).1 = 0 ∨ (fStep G x1).1 = 1 ∨ (fStep G x1).1 = 2 := by
  unfold fStep
  repeat' split
  all_goals first | exact Or.inl rfl | exact Or.inr (Or.inl rfl) | exact Or.inr (Or.inr (rfl))
theorem fc_quit (G : zG)  : (fQuit G).1 = 0 ∨ (fQuit G).1 = 1 := by
  unfold fQuit
  repeat' split
  all_goals first | exact Or.inl rfl | exact Or.inr (rfl)
theorem fc_undo (G : zG)  : (fUndo G).1 = 0 ∨ (fUndo G).1 = 1 := by
  unfold fUndo
  repeat' split
  all_goals first | exact Or.inl rfl | exact Or.inr (rfl)
theorem fc_store (G : zG) (x1 x2 x3 x4 : Int32) : (fStore G x1 x2 x3 x4).1 = 0 ∨ (fStore G x1 x2 x3 x4).1 = 1 := by
  unfold fStore
  repeat' split
  all_goals first | exact Or.inl rfl | exact Or.inr (rfl)
theorem fc_acts (G : zG)  : (fActs G).1 = 0 ∨ (fActs G).1 = 1 := by
  unfold fActs
  repeat' split
  all_goals first | exact Or.inl rfl | exact Or.inr (rfl)
theorem fc_key (v : zState) (x1 x2 : Int32) : (fKey v x1 x2).1 = 0 ∨ (fKey v x1 x2).1 = 1 ∨ (fKey v x1 x2).1 = 2 := by
  unfold fKey
  repeat' split
  all_goals first | exact Or.inl rfl | exact Or.inr (Or.inl rfl) | exact Or.inr (Or.inr (rfl))
theorem fc_octet (v : zState) (x1 x2 : Int32) : (fOctet v x1 x2).1 = 0 ∨ (fOctet v x1 x2).1 = 1 := by
  unfold fOctet
  repeat' split
  all_goals first | exact Or.inl rfl | exact Or.inr (rfl)
theorem fc_from (v : zState) (x1 x2 : Int32) : (fFrom v x1 x2).1 = 0 ∨ (fFrom v x1 x2).1 = 1 := by
  unfold fFrom
  repeat' split
  all_goals first | exact Or.inl rfl | exact Or.inr (rfl)
theorem fc_below (v : zState) (x1 : Int32) : (fBelow v x1).1 = 0 ∨ (fBelow v x1).1 = 1 := by
  unfold fBelow
  repeat' split
  all_goals first | exact Or.inl rfl | exact Or.inr (rfl)
theorem fc_segment (v : zState) (x1 x2 : Int32) : (fSegment v x1 x2).1 = 0 ∨ (fSegment v x1 x2).1 = 1 ∨ (fSegment v x1 x2).1 = 2 := by
  unfold fSegment
  repeat' split
  all_goals first | exact Or.inl rfl | exact Or.inr (Or.inl rfl) | exact Or.inr (Or.inr (rfl))
theorem fc_record (v : zState) (x1 x2 x3 : Int32) : (fRecord v x1 x2 x3).1 = 0 ∨ (fRecord v x1 x2 x3).1 = 1 ∨ (fRecord v x1 x2 x3).1 = 2 := by
  unfold fRecord
  repeat' split
  all_goals first | exact Or.inl rfl | exact Or.inr (Or.inl rfl) | exact Or.inr (Or.inr (rfl))
theorem fc_run (v : zState) (x1 x2 : Int32) : (fRun v x1 x2).1 = 0 ∨ (fRun v x1 x2).1 = 1 ∨ (fRun v x1 x2).1 = 2 := by
  unfold fRun
  repeat' split
  all_goals first | exact Or.inl rfl | exact Or.inr (Or.inl rfl) | exact Or.inr (Or.inr (rfl))
theorem fc_entry (v : zState) (x1 x2 : Int32) : (fEntry v x1 x2).1 = 0 ∨ (fEntry v x1 x2).1 = 1 := by
  unfold fEntry
  repeat' split
  all_goals first | exact Or.inl rfl | exact Or.inr (rfl)
theorem fc_overlap (v : zState) (x1 x2 : Int32) : (fOverlap v x1 x2).1 = 0 ∨ (fOverlap v x1 x2).1 = 1 ∨ (fOverlap v x1 x2).1 = 2 := by
  unfold fOverlap
  repeat' split
  all_goals first | exact Or.inl rfl | exact Or.inr (Or.inl rfl) | exact Or.inr (Or.inr (rfl))
theorem fc_rank (v : zState) (x1 x2 : Int32) : (fRank v x1 x2).1 = 0 ∨ (fRank v x1 x2).1 = 1 := by
  unfold fRank
  repeat' split
  all_goals first | exact Or.inl rfl | exact Or.inr (rfl)
theorem fc_holds (v : zState) (x1 : Int32) : (fHolds v x1).1 = 0 ∨ (fHolds v x1).1 = 1 := by
  unfold fHolds
  repeat' split
  all_goals first | exact Or.inl rfl | exact Or.inr (rfl)
theorem fc_would (v : zState) (x1 x2 : Int32) : (fWould v x1 x2).1 = 0 ∨ (fWould v x1 x2).1 = 1 ∨ (fWould v x1 x2).1 = 2 := by
  unfold fWould
  repeat' split
  all_goals first | exact Or.inl rfl | exact Or.inr (Or.inl rfl) | exact Or.inr (Or.inr (rfl))
theorem fc_sweep (v : zState) (x1 x2 : Int32) : (fSweep v x1 x2).1 = 0 ∨ (fSweep v x1 x2).1 = 1 ∨ (fSweep v x1 x2).1 = 2 := by
  unfold fSweep
  repeat' split
  all_goals first | exact Or.inl rfl | exact Or.inr (Or.inl rfl) | exact Or.inr (Or.inr (rfl))
theorem fc_traces (v : zState) (x1 x2 : Int32) : (fTraces v x1 x2).1 = 0 ∨ (fTraces v x1 x2).1 = 1 ∨ (fTraces v x1 x2).1 = 2 := by
  unfold fTraces
  repeat' split
  all_goals first | exact Or.inl rfl | exact Or.inr (Or.inl rfl) | exact Or.inr (Or.inr (rfl))
theorem fc_log (v : zState) (x1 x2 : Int32) : (fLog v x1 x2).1 = 0 ∨ (fLog v x1 x2).1 = 1 := by
  unfold fLog
  repeat' split
  all_goals first | exact Or.inl rfl | exact Or.inr (rfl)
/-- what a wrapper leaves -/
def lQ (r : Int32 × Int32 × zG) (k : Int32) (z : zCls × (Nat → Int64)) : Prop := k = r.1 ∧ cG r.2.2 z.1 ∧ (r.1 = 0 → z.2 0 = r.2.1.toInt64)
theorem lQ_0 {r : Int32 × Int32 × zG} {f : Nat → Int64} {u' : zCls} (hu : cG r.2.2 u') (h0 : r.1 = 0) : lQ r 0 (u', vp_updL f 0 r.2.1.toInt64) := ⟨h0.symm, hu, fun _ => by simp [vp_updL]⟩
theorem co1 {r : Int32 × Int32 × zG} {a b c : Nat} {f : Nat → Int64} (h : r.1 = 0 ∨ r.1 = 1) : cOut r (exO a b c) (fun x z => lQ r 0 (z, vp_updL f 0 x.toInt64)) (fun E z => E = exC a ∧ lQ r 1 (z, f)) := fun u' hu => ⟨fun h0 => lQ_0 hu h0, fun h0 => by
  rcases h with e | e
  · exact absurd e h0
  · exact ⟨by rw [e]; rfl, e.symm, hu, fun q => absurd q h0⟩⟩
theorem co2 {r : Int32 × Int32 × zG} {a b c : Nat} {f : Nat → Int64} (h : r.1 = 0 ∨ r.1 = 1 ∨ r.1 = 2) : cOut r (exO a b c) (fun x z => lQ r 0 (z, vp_updL f 0 x.toInt64)) (fun E z => (E = exC a ∧ lQ r 1 (z, f)) ∨ (E = exC b ∧ lQ r 2 (z, f))) := fun u' hu => ⟨fun h0 => lQ_0 hu h0, fun h0 => by
  rcases h with e | e | e
  · exact absurd e h0
  · exact Or.inl ⟨by rw [e]; rfl, e.symm, hu, fun q => absurd q h0⟩
  · exact Or.inr ⟨by rw [e]; rfl, e.symm, hu, fun q => absurd q h0⟩⟩
theorem co3 {r : Int32 × Int32 × zG} {a b c : Nat} {f : Nat → Int64} (h : r.1 = 0 ∨ r.1 = 1 ∨ r.1 = 2 ∨ r.1 = 3) : cOut r (exO a b c) (fun x z => lQ r 0 (z, vp_updL f 0 x.toInt64)) (fun E z => (E = exC a ∧ lQ r 1 (z, f)) ∨ (E = exC b ∧ lQ r 2 (z, f)) ∨ (E = exC c ∧ lQ r 3 (z, f))) := fun u' hu => ⟨fun h0 => lQ_0 hu h0, fun h0 => by
  rcases h with e | e | e | e
  · exact absurd e h0
  · exact Or.inl ⟨by rw [e]; rfl, e.symm, hu, fun q => absurd q h0⟩
  · exact Or.inr (Or.inl ⟨by rw [e]; rfl, e.symm, hu, fun q => absurd q h0⟩)
  · exact Or.inr (Or.inr ⟨by rw [e]; rfl, e.symm, hu, fun q => absurd q h0⟩)⟩
