/-! all of a store: what is now, THE IMAGE, what is remembered, the TAPE, fault(), WHY -/
theorem mRel.same {R ρ β mo lm L S M B : Nat} {v : zState} {m m' : Nat → Int32} (hP : zPr R ρ β mo lm L S M B v) (h : mRel v m) (e : ∀ j, j < 5497 → m' j = m j) : mRel v m' := by
  obtain ⟨h1, h2, h3, h4, h5, hg, ht, hR, hL, hC, hD, hT⟩ := hP
  obtain ⟨rT, rS, rR, rE, rN', rL⟩ := mRel_iff.mp h
  exact mRel_iff.mpr ⟨fun i hi => (e i (by omega)).trans (rT i hi), rS.cg (fun j a b => e j (by omega)), rR.cg (fun s hs => (hg.2.1 s hs).2) (fun j a b => e j (by omega)), rE.cg ht.1.2 (fun j a b => e j (by omega)), rN'.cg hC.1.2 (fun j a b => e j (by omega)), rL.cg hD.2 (fun j a b => e j (by omega))⟩
def okB (B : Nat) (v : zState) : Prop := ∃ ρ β mo lm L S M : Nat, zP ρ β mo lm L S M B v
theorem okB.mono {B B' : Nat} {v : zState} (h : okB B v) (hB : B ≤ B') (h4 : B' ≤ 400000) : okB B' v := by
  obtain ⟨ρ, β, mo, lm, L, S, M, h⟩ := h
  exact ⟨ρ, β, mo, lm, L, S, M, h.monoB hB h4⟩
theorem okB.same {B : Nat} {v : zState} {m m' : Nat → Int32} (h : okB B v) (hr : mRel v m) (e : ∀ j, j < 5497 → m' j = m j) : mRel v m' := by
  obtain ⟨ρ, β, mo, lm, L, S, M, h⟩ := h
  exact mRel.same h hr e
theorem okB.mok {B : Nat} {v : zState} {m : Nat → Int32} (h : okB B v) (hr : mRel v m) : mOk v m := by
  obtain ⟨ρ, β, mo, lm, L, S, M, h⟩ := h
  exact mOk.of h hr
theorem okB.ok {B : Nat} {v : zState} (h : okB B v) : zOk v := by
  obtain ⟨ρ, β, mo, lm, L, S, M, h⟩ := h
  exact h.ok
theorem okB.le {B : Nat} {v : zState} (h : okB B v) : B ≤ 400000 := by
  obtain ⟨ρ, β, mo, lm, L, S, M, h⟩ := h
  exact h.2.2.2.2.1.2.2.2.2.2.2
/-- now, kept, is one kept, remembered ones, how many, the TAPE, its size, the wrong byte, WHY -/
abbrev zG : Type := zState × zState × Int32 × (Nat → zState) × Nat × (Nat → Int32) × Nat × Int32 × Int32
def gNow (G : zG) : zState := G.1
def gKept (G : zG) : zState := G.2.1
def gIs (G : zG) : Int32 := G.2.2.1
def gUn (G : zG) : Nat → zState := G.2.2.2.1
def gUnN (G : zG) : Nat := G.2.2.2.2.1
def gTp (G : zG) : Nat → Int32 := G.2.2.2.2.2.1
def gTpN (G : zG) : Nat := G.2.2.2.2.2.2.1
def gWr (G : zG) : Int32 := G.2.2.2.2.2.2.2.1
def gWy (G : zG) : Int32 := G.2.2.2.2.2.2.2.2
def okG (B : Nat) (G : zG) : Prop := okB B (gNow G) ∧ (gIs G = 0 ∨ gIs G = 1 ∧ okB B (gKept G)) ∧ (gUnN G ≤ 8 ∧ ∀ i, i < gUnN G → okB B (gUn G i)) ∧ gTpN G ≤ 400
theorem okG.mono {B B' : Nat} {G : zG} (h : okG B G) (hB : B ≤ B') (h4 : B' ≤ 400000) : okG B' G := by
  obtain ⟨h1, h2, h3, h5⟩ := h
  exact ⟨h1.mono hB h4, h2.imp id (fun q => ⟨q.1, q.2.mono hB h4⟩), ⟨h3.1, fun i hi => (h3.2 i hi).mono hB h4⟩, h5⟩
/-- rows of remembered ones -/
def mUn (un : Nat → zState) (n : Nat) (row : Nat → Int32) : Prop := ∀ i, i < n → mRel (un i) (fun j => row (5497 * i + j))
/-- the reference stands for G -/
def mG (G : zG) (u : zModel) : Prop := mRel (gNow G) u.2.1 ∧ (gIs G = 1 → mRel (gKept G) u.2.2.2.2.1) ∧ u.2.2.2.2.2.2.2.1 = gIs G ∧ (u.2.2.2.2.2.2.1 = nI (gUnN G) ∧ mUn (gUn G) (gUnN G) u.2.2.2.2.2.1) ∧ (u.2.2.2.2.2.2.2.2.2.2.1 = nI (gTpN G) ∧ ∀ j, j < gTpN G → u.2.2.2.2.2.2.2.2.2.1 j = gTp G j) ∧ u.2.2.2.2.2.2.2.2.2.2.2.2.2.1 = gWr G ∧ u.2.2.2.2.2.2.2.2.1 = gWy G
/-- one more remembered -/
def pushN (n : Nat) : Nat := if n = 8 then 8 else n + 1
def pushU (un : Nat → zState) (n : Nat) (v : zState) : Nat → zState := fun i => if n = 8 then (if i = 7 then v else un (i + 1)) else if i = n then v else un i
/-- an ACT by a call is done: v then -/
def gAct (G : zG) (v : zState) : zG := (v, gKept G, gIs G, pushU (gUn G) (gUnN G) (gNow G), pushN (gUnN G), gTp G, gTpN G, gWr G, 0)
/-- it is refused -/
def gNo (G : zG) (w : Int32) : zG := (gNow G, gKept G, gIs G, gUn G, gUnN G, gTp G, gTpN G, gWr G, w)
theorem pushN_le {n : Nat} (h : n ≤ 8) : pushN n ≤ 8 := by unfold pushN; split <;> omega
theorem okG.act {B : Nat} {G : zG} {v : zState} (h : okG B G) (hv : okB B v) : okG B (gAct G v) := by
  obtain ⟨h1, h2, h3, h5⟩ := h
  refine ⟨hv, h2, ⟨pushN_le h3.1, fun i hi => ?_⟩, h5⟩
  have hi : i < pushN (gUnN G) := hi
  show okB B (pushU (gUn G) (gUnN G) (gNow G) i)
  unfold pushU
  unfold pushN at hi
  by_cases h8 : gUnN G = 8
  · rw [if_pos h8] at hi ⊢
    by_cases h7 : i = 7
    · rw [if_pos h7]; exact h1
    · rw [if_neg h7]; exact h3.2 _ (by omega)
  · rw [if_neg h8] at hi ⊢
    by_cases h7 : i = gUnN G
    · rw [if_pos h7]; exact h1
    · rw [if_neg h7]; exact h3.2 _ (by omega)
theorem okG.no {B : Nat} {G : zG} (h : okG B G) (w : Int32) : okG B (gNo G w) := h
theorem ge5497 {i : Nat} (h : i < 5497) : ¬ (5497 : Int32) ≤ nI i := nI_ge (b := 5497) h (by decide)
theorem le5497 : (5497 : Int32) ≤ nI 5497 := nI_le (a := 5497) (Nat.le_refl _) (by decide)

def t_X11_stores_e (u : zModel) (x1 : Int32) (x2 : Int32) (x3 : Int32) (x4 : Int32) (K3 : Int32 → zModel → Prop) (Q : zModel → Prop) : Prop := K3 (0 : Int32) u
def t_X11_stores_3 (x1 : Int32) (x2 : Int32) (x3 : Int32) (x4 : Int32) (y5 : Int32) (z : zModel) (K3 : Int32 → zModel → Prop) (Q : zModel → Prop) : Prop := (((5497 : Int32) ≤ y5 → vp_in (0 : Int32) 5497 ∧ ∀ f_3 : Nat → Int32, f_3 = upd z.2.1 (0 : Int32).toNatClampNeg x1 → vp_in (1 : Int32) 5497 ∧ ∀ f_4 : Nat → Int32, f_4 = upd f_3 (1 : Int32).toNatClampNeg x2 → vp_in (2 : Int32) 5497 ∧ ∀ f_5 : Nat → Int32, f_5 = upd f_4 (2 : Int32).toNatClampNeg x3 → vp_in (3 : Int32) 5497 ∧ ∀ f_6 : Nat → Int32, f_6 = upd f_5 (3 : Int32).toNatClampNeg x4 → vp_in (8 : Int32) 5497 ∧ ∀ f_7 : Nat → Int32, f_7 = upd f_6 (8 : Int32).toNatClampNeg (-1 : Int32) → vp_in (66 : Int32) 5497 ∧ ∀ f_8 : Nat → Int32, f_8 = upd f_7 (66 : Int32).toNatClampNeg (1 : Int32) → Q (z.1, f_8, z.2.2)) ∧ (¬ (5497 : Int32) ≤ y5 → vp_in y5 5497 ∧ ∀ f_9 : Nat → Int32, f_9 = upd z.2.1 y5.toNatClampNeg (0 : Int32) → ∀ x_10 : Int32, x_10 = y5 + (1 : Int32) → K3 x_10 (z.1, f_9, z.2.2)))
theorem zc_X11_stores : zCalV RX11 yX11_stores cX11_stores 6 none 4 := ⟨q_im_X11_stores, q_se_X11_stores, q_in_X11, q_cd_X11_stores, ⟨by decide, by decide, by decide +kernel⟩, rfl⟩
abbrev rm_X11_stores : Room := { frames := 0, cells := 0, slots := 0, locals := 0 }
def v_X11_stores (u : zModel) (x1 : Int32) (x2 : Int32) (x3 : Int32) (x4 : Int32) (Q : zModel → Prop) : Prop := ∃ I3 : Nat → Int32 → zModel → Prop, (∀ (n : Nat) (y5 : Int32) (z : zModel), I3 n y5 z → t_X11_stores_3 x1 x2 x3 x4 y5 z (fun q0 q1 => ∃ k : Nat, k < n ∧ I3 k q0 q1) Q) ∧ t_X11_stores_e u x1 x2 x3 x4 (fun q0 q1 => ∃ k : Nat, I3 k q0 q1) Q
set_option maxHeartbeats 4000000 in
set_option maxRecDepth 100000 in
theorem L_X11_stores (l : Launch) (dC : Nat → ClassId) (dI : Nat → Nat → Nat) (cI cJ cS : ClassId) (a : Nat → Nat) (u : zModel) (x1 : Int32) (x2 : Int32) (x3 : Int32) (x4 : Int32) (Q : zModel → Prop) (I3 : Nat → Int32 → zModel → Prop) (h3 : ∀ (n : Nat) (y5 : Int32) (z : zModel), I3 n y5 z → t_X11_stores_3 x1 x2 x3 x4 y5 z (fun q0 q1 => ∃ k : Nat, k < n ∧ I3 k q0 q1) Q) (hf : t_X11_stores_e u x1 x2 x3 x4 (fun q0 q1 => ∃ k : Nat, I3 k q0 q1) Q) : ∀ sz : Nat, Met l yX11_stores (Cond.code yX11_stores cX11_stores 6 none :: zT) rm_X11_stores (zPm dC dI cI cJ cS (cl_X11 cI cJ a u) [.ref (a 0), .int x1, .int x2, .int x3, .int x4] sz) (va_Qv Q (zB dC dI cI cJ cS (va_A (cl_X11 cI cJ a u) sz) (fun z => cl_X11 cI cJ a z)) (va_A (cl_X11 cI cJ a u) sz)) 0 0 (va_A (cl_X11 cI cJ a u) sz) := by
  intro sz
  refine z_enterM (Qc := fun A => va_Qv Q (zB dC dI cI cJ cS A (fun z => cl_X11 cI cJ a z)) A) (cc := cX11_stores) (maxL := 6) (ret := none) (by decide) (Nat.le_of_ble_eq_true rfl) ?_
  intro p e s m below meth c ls A X hP hD hS hA hl
  obtain ⟨⟨hx, hb, hml, hown, hts⟩, hr, hlk, hK⟩ := id X
  have hl : lv_has ls 6 [(0, .ref (a 0)), (1, .int x1), (2, .int x2), (3, .int x3), (4, .int x4)] := hl
  have LP : ∀ n : Nat, (∀ (y5 : Int32) (z : zModel) (H : Heap) (locs : List Loc) (ls : Array Slot), I3 n y5 z → va_P (dC, dI) vwCl (cl_X11 cI cJ a z) H → va_D A (cl_X11 cI cJ a z) → va_S A s.heap H locs → lv_has ls 6 [(0, .ref (a 0)), (1, .int x1), (2, .int x2), (3, .int x3), (4, .int x4), (5, .int y5)] → W p l e rm_X11_stores s m [.ref (a 0), .int x1, .int x2, .int x3, .int x4].toArray below meth c H locs 0 0 (MQ below (va_Qv Q (zB dC dI cI cJ cS A (fun z => cl_X11 cI cJ a z)) A) [.ref (a 0), .int x1, .int x2, .int x3, .int x4].toArray s 0 0 A) (F0 m 3 ls [])) := by
    intro n
    induction n using Nat.strongRecOn with
    | _ n ih =>
      intro y5 z H locs ls hI hP hD hS hl
      have hf := h3 n y5 z hI
      unfold t_X11_stores_3 at hf
      refine lv_iload hx hb dX11_stores_3 (lv_at hl 5 rfl) ?_
      refine lv_sipush (v := 5497) hx hb dX11_stores_5 (by decide) ?_
      refine lv_icmp_ge (tgt := 25) hx hb dX11_stores_8 (by decide) (fun c_2 => ?_) (fun c_2 => ?_)
      · have hf := hf.1 c_2
        refine lv_aload_n hx hb dX11_stores_25 rfl (lv_at hl 0 rfl) ?_
        refine va_get (D := (dC, dI)) (ci := 10) (v := .ref (a 1)) (C := RX11) (T := TX11) (N := 17) hx hb hts inX11 hown hK hP 0 rfl rfl 1 (by decide) (hts _ q_fl_X11_7) (fun _ h9 => h9) rfl dX11_stores_26 ?_
        refine lv_iconst (v := 0) hx hb dX11_stores_29 (by decide) ?_
        refine lv_iload_n hx hb dX11_stores_30 rfl (lv_at hl 1 rfl) ?_
        obtain ⟨hg, hf⟩ := hf
        refine z_iast (Wn := fun f_3 => cl_X11 cI cJ a (z.1, f_3, z.2.2)) X hP hD hS 1 0 rfl rfl hg (fun _ => rfl) dX11_stores_31 (fun f_3 H locs ef_3 hP hD hS => ?_)
        have hf := hf f_3 ef_3
        refine lv_aload_n hx hb dX11_stores_32 rfl (lv_at hl 0 rfl) ?_
        refine va_get (D := (dC, dI)) (ci := 10) (v := .ref (a 1)) (C := RX11) (T := TX11) (N := 17) hx hb hts inX11 hown hK hP 0 rfl rfl 1 (by decide) (hts _ q_fl_X11_7) (fun _ h9 => h9) rfl dX11_stores_33 ?_
        refine lv_iconst (v := 1) hx hb dX11_stores_36 (by decide) ?_
        refine lv_iload_n hx hb dX11_stores_37 rfl (lv_at hl 2 rfl) ?_
        obtain ⟨hg, hf⟩ := hf
        refine z_iast (Wn := fun f_4 => cl_X11 cI cJ a (z.1, f_4, z.2.2)) X hP hD hS 1 0 rfl rfl hg (fun _ => rfl) dX11_stores_38 (fun f_4 H locs ef_4 hP hD hS => ?_)
        have hf := hf f_4 ef_4
        refine lv_aload_n hx hb dX11_stores_39 rfl (lv_at hl 0 rfl) ?_
        refine va_get (D := (dC, dI)) (ci := 10) (v := .ref (a 1)) (C := RX11) (T := TX11) (N := 17) hx hb hts inX11 hown hK hP 0 rfl rfl 1 (by decide) (hts _ q_fl_X11_7) (fun _ h9 => h9) rfl dX11_stores_40 ?_
        refine lv_iconst (v := 2) hx hb dX11_stores_43 (by decide) ?_
        refine lv_iload_n hx hb dX11_stores_44 rfl (lv_at hl 3 rfl) ?_
        obtain ⟨hg, hf⟩ := hf
        refine z_iast (Wn := fun f_5 => cl_X11 cI cJ a (z.1, f_5, z.2.2)) X hP hD hS 1 0 rfl rfl hg (fun _ => rfl) dX11_stores_45 (fun f_5 H locs ef_5 hP hD hS => ?_)
        have hf := hf f_5 ef_5
        refine lv_aload_n hx hb dX11_stores_46 rfl (lv_at hl 0 rfl) ?_
        refine va_get (D := (dC, dI)) (ci := 10) (v := .ref (a 1)) (C := RX11) (T := TX11) (N := 17) hx hb hts inX11 hown hK hP 0 rfl rfl 1 (by decide) (hts _ q_fl_X11_7) (fun _ h9 => h9) rfl dX11_stores_47 ?_
        refine lv_iconst (v := 3) hx hb dX11_stores_50 (by decide) ?_
        refine lv_iload hx hb dX11_stores_51 (lv_at hl 4 rfl) ?_
        obtain ⟨hg, hf⟩ := hf
        refine z_iast (Wn := fun f_6 => cl_X11 cI cJ a (z.1, f_6, z.2.2)) X hP hD hS 1 0 rfl rfl hg (fun _ => rfl) dX11_stores_53 (fun f_6 H locs ef_6 hP hD hS => ?_)
        have hf := hf f_6 ef_6
        refine lv_aload_n hx hb dX11_stores_54 rfl (lv_at hl 0 rfl) ?_
        refine va_get (D := (dC, dI)) (ci := 10) (v := .ref (a 1)) (C := RX11) (T := TX11) (N := 17) hx hb hts inX11 hown hK hP 0 rfl rfl 1 (by decide) (hts _ q_fl_X11_7) (fun _ h9 => h9) rfl dX11_stores_55 ?_
        refine lv_bipush (v := 8) hx hb dX11_stores_58 (by decide) ?_
        refine lv_iconst (v := (-1)) hx hb dX11_stores_60 (by decide) ?_
        obtain ⟨hg, hf⟩ := hf
        refine z_iast (Wn := fun f_7 => cl_X11 cI cJ a (z.1, f_7, z.2.2)) X hP hD hS 1 0 rfl rfl hg (fun _ => rfl) dX11_stores_61 (fun f_7 H locs ef_7 hP hD hS => ?_)
        have hf := hf f_7 ef_7
        refine lv_aload_n hx hb dX11_stores_62 rfl (lv_at hl 0 rfl) ?_
        refine va_get (D := (dC, dI)) (ci := 10) (v := .ref (a 1)) (C := RX11) (T := TX11) (N := 17) hx hb hts inX11 hown hK hP 0 rfl rfl 1 (by decide) (hts _ q_fl_X11_7) (fun _ h9 => h9) rfl dX11_stores_63 ?_
        refine lv_bipush (v := 66) hx hb dX11_stores_66 (by decide) ?_
        refine lv_iconst (v := 1) hx hb dX11_stores_68 (by decide) ?_
        obtain ⟨hg, hf⟩ := hf
        refine z_iast (Wn := fun f_8 => cl_X11 cI cJ a (z.1, f_8, z.2.2)) X hP hD hS 1 0 rfl rfl hg (fun _ => rfl) dX11_stores_69 (fun f_8 H locs ef_8 hP hD hS => ?_)
        have hf := hf f_8 ef_8
        exact z_retMv (Wf := (fun z => cl_X11 cI cJ a z)) (u := (z.1, f_8, z.2.2)) X hf hP hD hS dX11_stores_70
      · have hf := hf.2 c_2
        refine lv_aload_n hx hb dX11_stores_11 rfl (lv_at hl 0 rfl) ?_
        refine va_get (D := (dC, dI)) (ci := 10) (v := .ref (a 1)) (C := RX11) (T := TX11) (N := 17) hx hb hts inX11 hown hK hP 0 rfl rfl 1 (by decide) (hts _ q_fl_X11_7) (fun _ h9 => h9) rfl dX11_stores_12 ?_
        refine lv_iload hx hb dX11_stores_15 (lv_at hl 5 rfl) ?_
        refine lv_iconst (v := 0) hx hb dX11_stores_17 (by decide) ?_
        obtain ⟨hg, hf⟩ := hf
        refine z_iast (Wn := fun f_9 => cl_X11 cI cJ a (z.1, f_9, z.2.2)) X hP hD hS 1 0 rfl rfl hg (fun _ => rfl) dX11_stores_18 (fun f_9 H locs ef_9 hP hD hS => ?_)
        have hf := hf f_9 ef_9
        obtain ⟨x_10, ex_10⟩ : ∃ y : Int32, y = y5 + (1 : Int32) := ⟨_, rfl⟩
        have hf := hf x_10 ex_10
        refine lv_iinc (v := x_10) (lv' := [(5, .int x_10), (0, .ref (a 0)), (1, .int x1), (2, .int x2), (3, .int x3), (4, .int x4)]) hx hb dX11_stores_19 hl (k := 5) rfl (by rw [ex_10]; rfl) (by decide) rfl (fun ls hl => ?_)
        refine lv_goto (tgt := 3) hx hb dX11_stores_22 (by decide) ?_
        obtain ⟨k_11, hk_11, hf⟩ := hf
        exact (ih k_11 hk_11) _ (z.1, f_9, z.2.2) _ _ ls hf hP hD hS (lv_sub hl [1, 2, 3, 4, 5, 0] rfl)
  unfold t_X11_stores_e at hf
  refine lv_iconst (v := 0) hx hb dX11_stores_0 (by decide) ?_
  refine lv_istore (lv' := [(5, .int (0 : Int32)), (0, .ref (a 0)), (1, .int x1), (2, .int x2), (3, .int x3), (4, .int x4)]) hx hb dX11_stores_1 hl (by decide) rfl (fun ls hl => ?_)
  obtain ⟨k_1, hf⟩ := hf
  exact (LP k_1) _ u _ _ ls hf hP hD hS (lv_sub hl [1, 2, 3, 4, 5, 0] rfl)
theorem mRel_begin (v : zState) (x1 x2 x3 x4 : Int32) {m : Nat → Int32} (e0 : m 0 = x1) (e1 : m 1 = x2) (e2 : m 2 = x3) (e3 : m 3 = x4) (e8 : m 8 = -1) (e66 : m 66 = 1) (hj : ∀ j, j < 5497 → ¬ j < 4 → ¬ j = 8 → ¬ j = 66 → m j = 0) : mRel (uBegin v x1 x2 x3 x4) m := by
  have hn : ∀ s, s < 12 → gN (zClr v.2.2.1) s = 0 := fun s hs => by
    show (fa_fill (fun _ => (0 : Int32)) v.2.2.1.2.1 12 s).toNatClampNeg = 0
    rw [fill_in _ hs]; decide
  refine mRel_iff.mpr ⟨lt16 e0 e1 e2 e3 ?_ ?_ ?_ ?_ e8 ?_ ?_ ?_ ?_ ?_ ?_ ?_, fun s z hs hz => ?_, fun s k z hs hk => ?_, fun l k hl hk => ?_, fun q => absurd rfl q, ?_⟩
  all_goals try exact hj _ (by decide) (by decide) (by decide) (by decide)
  · show m _ = segF (zClr v.2.2.1) s z
    match z, hz with
    | 0, _ =>
      show _ = upd (fa_fill (fun _ => (0 : Int32)) v.2.2.1.2.2.2.1 12) 0 1 s
      by_cases q : s = 0
      · subst q; rw [up_eq rfl]; exact e66
      · rw [up_ne q, fill_in _ hs]; exact hj _ (by omega) (by omega) (by omega) (by omega)
    | 1, _ =>
      show _ = fa_fill (fun _ => (0 : Int32)) v.2.2.1.2.1 12 s
      rw [fill_in _ hs]; exact hj _ (by omega) (by omega) (by omega) (by omega)
    | 2, _ =>
      show _ = fa_fill (fun _ => (0 : Int32)) v.2.2.1.2.2.1 12 s
      rw [fill_in _ hs]; exact hj _ (by omega) (by omega) (by omega) (by omega)
    | n + 3, h => exact absurd h (by omega)
  · have hk : k < gN (zClr v.2.2.1) s := hk
    rw [hn s hs] at hk; omega
  · have hl : l ≤ (0 : Int32).toNatClampNeg := hl
    rw [n_c0] at hl
    have hl : l = 0 := by omega
    subst hl
    have e : zWipes v.2.2.2.1.1 6 (64 * 0 + k) = 0 := if_pos (by omega)
    show mE1 _ (zWipes v.2.2.2.1.1 6 (64 * 0 + k)) m _
    rw [e]
    exact ⟨hj _ (by omega) (by omega) (by omega) (by omega), fun q => absurd rfl q⟩
  · refine ⟨hj _ (by omega) (by omega) (by omega) (by omega), fun i hi => ?_⟩
    have hi : i < 3 * (0 : Int32).toNatClampNeg := hi
    rw [n_c0] at hi; omega
def s_X11_stores (u : zModel) (x1 x2 x3 x4 : Int32) (Q : zModel → Prop) : Prop := ∃ v : zState, ∀ m' : Nat → Int32, mRel (uBegin v x1 x2 x3 x4) m' → Q (u.1, m', u.2.2)
theorem n_c66 : (66 : Int32).toNatClampNeg = 66 := by decide
theorem st_X11_stores {u : zModel} {x1 x2 x3 x4 : Int32} {Q : zModel → Prop} (h : s_X11_stores u x1 x2 x3 x4 Q) : v_X11_stores u x1 x2 x3 x4 Q := by
  obtain ⟨v, h⟩ := h
  refine zlp2 (T := fun y z K => t_X11_stores_3 x1 x2 x3 x4 y z K Q) (E := fun K => t_X11_stores_e u x1 x2 x3 x4 K Q) 5497 (fun i => nI i) (fun i => (u.1, fa_fill (fun _ => 0) u.2.1 i, u.2.2)) (fun K hK => ?_) ?_ ?_
  · have hK : K (nI 0) (u.1, fa_fill (fun _ => 0) u.2.1 0, u.2.2) := hK
    rw [fa_fill_0] at hK
    exact hK
  · intro i hi K hK
    refine ⟨fun c => absurd c (ge5497 hi), fun _ => ⟨vp_in_nI hi (by decide), fun f e x e' => ?_⟩⟩
    rw [e, e', nI_1, nI_clamp (by omega), fa_fill_succ (fun _ => 0) u.2.1 i]; exact hK
  · intro K
    refine ⟨fun _ => ?_, fun c => absurd le5497 c⟩
    rw [n_c0, n_c1, n_c2, n_c3, n_c8, n_c66]
    refine ⟨vp_in_nI (n := 0) (by decide) (by decide), fun f3 e3 => ⟨vp_in_nI (n := 1) (by decide) (by decide), fun f4 e4 => ⟨vp_in_nI (n := 2) (by decide) (by decide), fun f5 e5 => ⟨vp_in_nI (n := 3) (by decide) (by decide), fun f6 e6 => ⟨vp_in_nI (n := 8) (by decide) (by decide), fun f7 e7 => ⟨vp_in_nI (n := 66) (by decide) (by decide), fun f8 e8 => h f8 (mRel_begin v x1 x2 x3 x4 ?_ ?_ ?_ ?_ ?_ ?_ ?_)⟩⟩⟩⟩⟩⟩
    · rw [e8, up_ne (by decide), e7, up_ne (by decide), e6, up_ne (by decide), e5, up_ne (by decide), e4, up_ne (by decide), e3, up_eq rfl]
    · rw [e8, up_ne (by decide), e7, up_ne (by decide), e6, up_ne (by decide), e5, up_ne (by decide), e4, up_eq rfl]
    · rw [e8, up_ne (by decide), e7, up_ne (by decide), e6, up_ne (by decide), e5, up_eq rfl]
    · rw [e8, up_ne (by decide), e7, up_ne (by decide), e6, up_eq rfl]
    · rw [e8, up_ne (by decide), e7, up_eq rfl]
    · rw [e8, up_eq rfl]
    · intro j a b c d
      rw [e8, up_ne d, e7, up_ne c, e6, up_ne (by omega), e5, up_ne (by omega), e4, up_ne (by omega), e3, up_ne (by omega)]
      exact fill_in _ a
theorem c_X11_stores (l : Launch) (dC : Nat → ClassId) (dI : Nat → Nat → Nat) (cI cJ cS : ClassId) (a : Nat → Nat) (u : zModel) (x1 : Int32) (x2 : Int32) (x3 : Int32) (x4 : Int32) (Q : zModel → Prop) (hf : s_X11_stores u x1 x2 x3 x4 Q) : ∀ sz : Nat, Met l yX11_stores (Cond.code yX11_stores cX11_stores 6 none :: zT) rm_X11_stores (zPm dC dI cI cJ cS (cl_X11 cI cJ a u) [.ref (a 0), .int x1, .int x2, .int x3, .int x4] sz) (va_Qv Q (zB dC dI cI cJ cS (va_A (cl_X11 cI cJ a u) sz) (fun z => cl_X11 cI cJ a z)) (va_A (cl_X11 cI cJ a u) sz)) 0 0 (va_A (cl_X11 cI cJ a u) sz) := by
  obtain ⟨I3, h3, hf⟩ := st_X11_stores hf
  exact L_X11_stores l dC dI cI cJ cS a u x1 x2 x3 x4 Q I3 h3 hf

def t_X11_putsAside_e (u : zModel) (K2 : Int32 → zModel → Prop) (Q : zModel → Prop) : Prop := K2 (0 : Int32) u
def t_X11_putsAside_2 (y1 : Int32) (z : zModel) (K2 : Int32 → zModel → Prop) (Q : zModel → Prop) : Prop := (((5497 : Int32) ≤ y1 → Q z) ∧ (¬ (5497 : Int32) ≤ y1 → vp_in y1 5497 ∧ vp_in y1 5497 ∧ ∀ f_3 : Nat → Int32, f_3 = upd z.2.2.1 y1.toNatClampNeg (z.2.1 y1.toNatClampNeg) → ∀ x_4 : Int32, x_4 = y1 + (1 : Int32) → K2 x_4 (z.1, z.2.1, f_3, z.2.2.2)))
theorem zc_X11_putsAside : zCalV RX11 yX11_putsAside cX11_putsAside 2 none 0 := ⟨q_im_X11_putsAside, q_se_X11_putsAside, q_in_X11, q_cd_X11_putsAside, ⟨by decide, by decide, by decide +kernel⟩, rfl⟩
abbrev rm_X11_putsAside : Room := { frames := 0, cells := 0, slots := 0, locals := 0 }
def v_X11_putsAside (u : zModel) (Q : zModel → Prop) : Prop := ∃ I2 : Nat → Int32 → zModel → Prop, (∀ (n : Nat) (y1 : Int32) (z : zModel), I2 n y1 z → t_X11_putsAside_2 y1 z (fun q0 q1 => ∃ k : Nat, k < n ∧ I2 k q0 q1) Q) ∧ t_X11_putsAside_e u (fun q0 q1 => ∃ k : Nat, I2 k q0 q1) Q
set_option maxHeartbeats 4000000 in
set_option maxRecDepth 100000 in
theorem L_X11_putsAside (l : Launch) (dC : Nat → ClassId) (dI : Nat → Nat → Nat) (cI cJ cS : ClassId) (a : Nat → Nat) (u : zModel) (Q : zModel → Prop) (I2 : Nat → Int32 → zModel → Prop) (h2 : ∀ (n : Nat) (y1 : Int32) (z : zModel), I2 n y1 z → t_X11_putsAside_2 y1 z (fun q0 q1 => ∃ k : Nat, k < n ∧ I2 k q0 q1) Q) (hf : t_X11_putsAside_e u (fun q0 q1 => ∃ k : Nat, I2 k q0 q1) Q) : ∀ sz : Nat, Met l yX11_putsAside (Cond.code yX11_putsAside cX11_putsAside 2 none :: zT) rm_X11_putsAside (zPm dC dI cI cJ cS (cl_X11 cI cJ a u) [.ref (a 0)] sz) (va_Qv Q (zB dC dI cI cJ cS (va_A (cl_X11 cI cJ a u) sz) (fun z => cl_X11 cI cJ a z)) (va_A (cl_X11 cI cJ a u) sz)) 0 0 (va_A (cl_X11 cI cJ a u) sz) := by
  intro sz
  refine z_enterM (Qc := fun A => va_Qv Q (zB dC dI cI cJ cS A (fun z => cl_X11 cI cJ a z)) A) (cc := cX11_putsAside) (maxL := 2) (ret := none) (by decide) (Nat.le_of_ble_eq_true rfl) ?_
  intro p e s m below meth c ls A X hP hD hS hA hl
  obtain ⟨⟨hx, hb, hml, hown, hts⟩, hr, hlk, hK⟩ := id X
  have hl : lv_has ls 2 [(0, .ref (a 0))] := hl
  have LP : ∀ n : Nat, (∀ (y1 : Int32) (z : zModel) (H : Heap) (locs : List Loc) (ls : Array Slot), I2 n y1 z → va_P (dC, dI) vwCl (cl_X11 cI cJ a z) H → va_D A (cl_X11 cI cJ a z) → va_S A s.heap H locs → lv_has ls 2 [(0, .ref (a 0)), (1, .int y1)] → W p l e rm_X11_putsAside s m [.ref (a 0)].toArray below meth c H locs 0 0 (MQ below (va_Qv Q (zB dC dI cI cJ cS A (fun z => cl_X11 cI cJ a z)) A) [.ref (a 0)].toArray s 0 0 A) (F0 m 2 ls [])) := by
    intro n
    induction n using Nat.strongRecOn with
    | _ n ih =>
      intro y1 z H locs ls hI hP hD hS hl
      have hf := h2 n y1 z hI
      unfold t_X11_putsAside_2 at hf
      refine lv_iload_n hx hb dX11_putsAside_2 rfl (lv_at hl 1 rfl) ?_
      refine lv_sipush (v := 5497) hx hb dX11_putsAside_3 (by decide) ?_
      refine lv_icmp_ge (tgt := 27) hx hb dX11_putsAside_6 (by decide) (fun c_2 => ?_) (fun c_2 => ?_)
      · have hf := hf.1 c_2
        exact z_retMv (Wf := (fun z => cl_X11 cI cJ a z)) (u := z) X hf hP hD hS dX11_putsAside_27
      · have hf := hf.2 c_2
        refine lv_aload_n hx hb dX11_putsAside_9 rfl (lv_at hl 0 rfl) ?_
        refine va_get (D := (dC, dI)) (ci := 10) (v := .ref (a 2)) (C := RX11) (T := TX11) (N := 17) hx hb hts inX11 hown hK hP 0 rfl rfl 2 (by decide) (hts _ q_fl_X11_13) (fun _ h9 => h9) rfl dX11_putsAside_10 ?_
        refine lv_iload_n hx hb dX11_putsAside_13 rfl (lv_at hl 1 rfl) ?_
        refine lv_aload_n hx hb dX11_putsAside_14 rfl (lv_at hl 0 rfl) ?_
        refine va_get (D := (dC, dI)) (ci := 10) (v := .ref (a 1)) (C := RX11) (T := TX11) (N := 17) hx hb hts inX11 hown hK hP 0 rfl rfl 1 (by decide) (hts _ q_fl_X11_7) (fun _ h9 => h9) rfl dX11_putsAside_15 ?_
        refine lv_iload_n hx hb dX11_putsAside_18 rfl (lv_at hl 1 rfl) ?_
        obtain ⟨hg, hf⟩ := hf
        refine va_iald hx hb hK hP 1 0 rfl rfl hg dX11_putsAside_19 ?_
        obtain ⟨hg, hf⟩ := hf
        refine z_iast (Wn := fun f_3 => cl_X11 cI cJ a (z.1, z.2.1, f_3, z.2.2.2)) X hP hD hS 2 0 rfl rfl hg (fun _ => rfl) dX11_putsAside_20 (fun f_3 H locs ef_3 hP hD hS => ?_)
        have hf := hf f_3 ef_3
        obtain ⟨x_4, ex_4⟩ : ∃ y : Int32, y = y1 + (1 : Int32) := ⟨_, rfl⟩
        have hf := hf x_4 ex_4
        refine lv_iinc (v := x_4) (lv' := [(1, .int x_4), (0, .ref (a 0))]) hx hb dX11_putsAside_21 hl (k := 1) rfl (by rw [ex_4]; rfl) (by decide) rfl (fun ls hl => ?_)
        refine lv_goto (tgt := 2) hx hb dX11_putsAside_24 (by decide) ?_
        obtain ⟨k_5, hk_5, hf⟩ := hf
        exact (ih k_5 hk_5) _ (z.1, z.2.1, f_3, z.2.2.2) _ _ ls hf hP hD hS (lv_sub hl [1, 0] rfl)
  unfold t_X11_putsAside_e at hf
  refine lv_iconst (v := 0) hx hb dX11_putsAside_0 (by decide) ?_
  refine lv_istore_n (lv' := [(1, .int (0 : Int32)), (0, .ref (a 0))]) hx hb dX11_putsAside_1 rfl hl (by decide) rfl (fun ls hl => ?_)
  obtain ⟨k_1, hf⟩ := hf
  exact (LP k_1) _ u _ _ ls hf hP hD hS (lv_sub hl [1, 0] rfl)
def s_X11_putsAside (u : zModel) (Q : zModel → Prop) : Prop := ∀ f : Nat → Int32, (∀ j, j < 5497 → f j = u.2.1 j) → Q (u.1, u.2.1, f, u.2.2.2)
theorem st_X11_putsAside {u : zModel} {Q : zModel → Prop} (h : s_X11_putsAside u Q) : v_X11_putsAside u Q := by
  refine zlp2 (T := fun y z K => t_X11_putsAside_2 y z K Q) (E := fun K => t_X11_putsAside_e u K Q) 5497 (fun i => nI i) (fun i => (u.1, u.2.1, fa_fill u.2.1 u.2.2.1 i, u.2.2.2)) (fun K hK => ?_) ?_ ?_
  · have hK : K (nI 0) (u.1, u.2.1, fa_fill u.2.1 u.2.2.1 0, u.2.2.2) := hK
    rw [fa_fill_0] at hK
    exact hK
  · intro i hi K hK
    refine ⟨fun c => absurd c (ge5497 hi), fun _ => ⟨vp_in_nI hi (by decide), vp_in_nI hi (by decide), fun f e x e' => ?_⟩⟩
    have e : f = upd (fa_fill u.2.1 u.2.2.1 i) (nI i).toNatClampNeg (u.2.1 (nI i).toNatClampNeg) := e
    rw [nI_clamp (by omega), fa_fill_succ u.2.1 u.2.2.1 i] at e
    rw [e, e', nI_1]; exact hK
  · intro K
    exact ⟨fun _ => h _ (fun j hj => fa_fill_in hj), fun c => absurd le5497 c⟩
theorem c_X11_putsAside (l : Launch) (dC : Nat → ClassId) (dI : Nat → Nat → Nat) (cI cJ cS : ClassId) (a : Nat → Nat) (u : zModel) (Q : zModel → Prop) (hf : s_X11_putsAside u Q) : ∀ sz : Nat, Met l yX11_putsAside (Cond.code yX11_putsAside cX11_putsAside 2 none :: zT) rm_X11_putsAside (zPm dC dI cI cJ cS (cl_X11 cI cJ a u) [.ref (a 0)] sz) (va_Qv Q (zB dC dI cI cJ cS (va_A (cl_X11 cI cJ a u) sz) (fun z => cl_X11 cI cJ a z)) (va_A (cl_X11 cI cJ a u) sz)) 0 0 (va_A (cl_X11 cI cJ a u) sz) := by
  obtain ⟨I2, h2, hf⟩ := st_X11_putsAside hf
  exact L_X11_putsAside l dC dI cI cJ cS a u Q I2 h2 hf

def t_X11_putsBack_e (u : zModel) (K2 : Int32 → zModel → Prop) (Q : zModel → Prop) : Prop := K2 (0 : Int32) u
def t_X11_putsBack_2 (y1 : Int32) (z : zModel) (K2 : Int32 → zModel → Prop) (Q : zModel → Prop) : Prop := (((5497 : Int32) ≤ y1 → Q z) ∧ (¬ (5497 : Int32) ≤ y1 → vp_in y1 5497 ∧ vp_in y1 5497 ∧ ∀ f_3 : Nat → Int32, f_3 = upd z.2.1 y1.toNatClampNeg (z.2.2.1 y1.toNatClampNeg) → ∀ x_4 : Int32, x_4 = y1 + (1 : Int32) → K2 x_4 (z.1, f_3, z.2.2)))
theorem zc_X11_putsBack : zCalV RX11 yX11_putsBack cX11_putsBack 2 none 0 := ⟨q_im_X11_putsBack, q_se_X11_putsBack, q_in_X11, q_cd_X11_putsBack, ⟨by decide, by decide, by decide +kernel⟩, rfl⟩
abbrev rm_X11_putsBack : Room := { frames := 0, cells := 0, slots := 0, locals := 0 }
def v_X11_putsBack (u : zModel) (Q : zModel → Prop) : Prop := ∃ I2 : Nat → Int32 → zModel → Prop, (∀ (n : Nat) (y1 : Int32) (z : zModel), I2 n y1 z → t_X11_putsBack_2 y1 z (fun q0 q1 => ∃ k : Nat, k < n ∧ I2 k q0 q1) Q) ∧ t_X11_putsBack_e u (fun q0 q1 => ∃ k : Nat, I2 k q0 q1) Q
set_option maxHeartbeats 4000000 in
set_option maxRecDepth 100000 in
theorem L_X11_putsBack (l : Launch) (dC : Nat → ClassId) (dI : Nat → Nat → Nat) (cI cJ cS : ClassId) (a : Nat → Nat) (u : zModel) (Q : zModel → Prop) (I2 : Nat → Int32 → zModel → Prop) (h2 : ∀ (n : Nat) (y1 : Int32) (z : zModel), I2 n y1 z → t_X11_putsBack_2 y1 z (fun q0 q1 => ∃ k : Nat, k < n ∧ I2 k q0 q1) Q) (hf : t_X11_putsBack_e u (fun q0 q1 => ∃ k : Nat, I2 k q0 q1) Q) : ∀ sz : Nat, Met l yX11_putsBack (Cond.code yX11_putsBack cX11_putsBack 2 none :: zT) rm_X11_putsBack (zPm dC dI cI cJ cS (cl_X11 cI cJ a u) [.ref (a 0)] sz) (va_Qv Q (zB dC dI cI cJ cS (va_A (cl_X11 cI cJ a u) sz) (fun z => cl_X11 cI cJ a z)) (va_A (cl_X11 cI cJ a u) sz)) 0 0 (va_A (cl_X11 cI cJ a u) sz) := by
  intro sz
  refine z_enterM (Qc := fun A => va_Qv Q (zB dC dI cI cJ cS A (fun z => cl_X11 cI cJ a z)) A) (cc := cX11_putsBack) (maxL := 2) (ret := none) (by decide) (Nat.le_of_ble_eq_true rfl) ?_
  intro p e s m below meth c ls A X hP hD hS hA hl
  obtain ⟨⟨hx, hb, hml, hown, hts⟩, hr, hlk, hK⟩ := id X
  have hl : lv_has ls 2 [(0, .ref (a 0))] := hl
  have LP : ∀ n : Nat, (∀ (y1 : Int32) (z : zModel) (H : Heap) (locs : List Loc) (ls : Array Slot), I2 n y1 z → va_P (dC, dI) vwCl (cl_X11 cI cJ a z) H → va_D A (cl_X11 cI cJ a z) → va_S A s.heap H locs → lv_has ls 2 [(0, .ref (a 0)), (1, .int y1)] → W p l e rm_X11_putsBack s m [.ref (a 0)].toArray below meth c H locs 0 0 (MQ below (va_Qv Q (zB dC dI cI cJ cS A (fun z => cl_X11 cI cJ a z)) A) [.ref (a 0)].toArray s 0 0 A) (F0 m 2 ls [])) := by
    intro n
    induction n using Nat.strongRecOn with
    | _ n ih =>
      intro y1 z H locs ls hI hP hD hS hl
      have hf := h2 n y1 z hI
      unfold t_X11_putsBack_2 at hf
      refine lv_iload_n hx hb dX11_putsBack_2 rfl (lv_at hl 1 rfl) ?_
      refine lv_sipush (v := 5497) hx hb dX11_putsBack_3 (by decide) ?_
      refine lv_icmp_ge (tgt := 27) hx hb dX11_putsBack_6 (by decide) (fun c_2 => ?_) (fun c_2 => ?_)
      · have hf := hf.1 c_2
        exact z_retMv (Wf := (fun z => cl_X11 cI cJ a z)) (u := z) X hf hP hD hS dX11_putsBack_27
      · have hf := hf.2 c_2
        refine lv_aload_n hx hb dX11_putsBack_9 rfl (lv_at hl 0 rfl) ?_
        refine va_get (D := (dC, dI)) (ci := 10) (v := .ref (a 1)) (C := RX11) (T := TX11) (N := 17) hx hb hts inX11 hown hK hP 0 rfl rfl 1 (by decide) (hts _ q_fl_X11_7) (fun _ h9 => h9) rfl dX11_putsBack_10 ?_
        refine lv_iload_n hx hb dX11_putsBack_13 rfl (lv_at hl 1 rfl) ?_
        refine lv_aload_n hx hb dX11_putsBack_14 rfl (lv_at hl 0 rfl) ?_
        refine va_get (D := (dC, dI)) (ci := 10) (v := .ref (a 2)) (C := RX11) (T := TX11) (N := 17) hx hb hts inX11 hown hK hP 0 rfl rfl 2 (by decide) (hts _ q_fl_X11_13) (fun _ h9 => h9) rfl dX11_putsBack_15 ?_
        refine lv_iload_n hx hb dX11_putsBack_18 rfl (lv_at hl 1 rfl) ?_
        obtain ⟨hg, hf⟩ := hf
        refine va_iald hx hb hK hP 2 0 rfl rfl hg dX11_putsBack_19 ?_
        obtain ⟨hg, hf⟩ := hf
        refine z_iast (Wn := fun f_3 => cl_X11 cI cJ a (z.1, f_3, z.2.2)) X hP hD hS 1 0 rfl rfl hg (fun _ => rfl) dX11_putsBack_20 (fun f_3 H locs ef_3 hP hD hS => ?_)
        have hf := hf f_3 ef_3
        obtain ⟨x_4, ex_4⟩ : ∃ y : Int32, y = y1 + (1 : Int32) := ⟨_, rfl⟩
        have hf := hf x_4 ex_4
        refine lv_iinc (v := x_4) (lv' := [(1, .int x_4), (0, .ref (a 0))]) hx hb dX11_putsBack_21 hl (k := 1) rfl (by rw [ex_4]; rfl) (by decide) rfl (fun ls hl => ?_)
        refine lv_goto (tgt := 2) hx hb dX11_putsBack_24 (by decide) ?_
        obtain ⟨k_5, hk_5, hf⟩ := hf
        exact (ih k_5 hk_5) _ (z.1, f_3, z.2.2) _ _ ls hf hP hD hS (lv_sub hl [1, 0] rfl)
  unfold t_X11_putsBack_e at hf
  refine lv_iconst (v := 0) hx hb dX11_putsBack_0 (by decide) ?_
  refine lv_istore_n (lv' := [(1, .int (0 : Int32)), (0, .ref (a 0))]) hx hb dX11_putsBack_1 rfl hl (by decide) rfl (fun ls hl => ?_)
  obtain ⟨k_1, hf⟩ := hf
  exact (LP k_1) _ u _ _ ls hf hP hD hS (lv_sub hl [1, 0] rfl)
def s_X11_putsBack (u : zModel) (Q : zModel → Prop) : Prop := ∀ f : Nat → Int32, (∀ j, j < 5497 → f j = u.2.2.1 j) → Q (u.1, f, u.2.2)
theorem st_X11_putsBack {u : zModel} {Q : zModel → Prop} (h : s_X11_putsBack u Q) : v_X11_putsBack u Q := by
  refine zlp2 (T := fun y z K => t_X11_putsBack_2 y z K Q) (E := fun K => t_X11_putsBack_e u K Q) 5497 (fun i => nI i) (fun i => (u.1, fa_fill u.2.2.1 u.2.1 i, u.2.2)) (fun K hK => ?_) ?_ ?_
  · have hK : K (nI 0) (u.1, fa_fill u.2.2.1 u.2.1 0, u.2.2) := hK
    rw [fa_fill_0] at hK
    exact hK
  · intro i hi K hK
    refine ⟨fun c => absurd c (ge5497 hi), fun _ => ⟨vp_in_nI hi (by decide), vp_in_nI hi (by decide), fun f e x e' => ?_⟩⟩
    have e : f = upd (fa_fill u.2.2.1 u.2.1 i) (nI i).toNatClampNeg (u.2.2.1 (nI i).toNatClampNeg) := e
    rw [nI_clamp (by omega), fa_fill_succ u.2.2.1 u.2.1 i] at e
    rw [e, e', nI_1]; exact hK
  · intro K
    exact ⟨fun _ => h _ (fun j hj => fa_fill_in hj), fun c => absurd le5497 c⟩
theorem c_X11_putsBack (l : Launch) (dC : Nat → ClassId) (dI : Nat → Nat → Nat) (cI cJ cS : ClassId) (a : Nat → Nat) (u : zModel) (Q : zModel → Prop) (hf : s_X11_putsBack u Q) : ∀ sz : Nat, Met l yX11_putsBack (Cond.code yX11_putsBack cX11_putsBack 2 none :: zT) rm_X11_putsBack (zPm dC dI cI cJ cS (cl_X11 cI cJ a u) [.ref (a 0)] sz) (va_Qv Q (zB dC dI cI cJ cS (va_A (cl_X11 cI cJ a u) sz) (fun z => cl_X11 cI cJ a z)) (va_A (cl_X11 cI cJ a u) sz)) 0 0 (va_A (cl_X11 cI cJ a u) sz) := by
  obtain ⟨I2, h2, hf⟩ := st_X11_putsBack hf
  exact L_X11_putsBack l dC dI cI cJ cS a u Q I2 h2 hf

def t_X11_keepsTrial_e (u : zModel) (K2 : Int32 → zModel → Prop) (Q : zModel → Prop) : Prop := K2 (0 : Int32) u
def t_X11_keepsTrial_2 (y1 : Int32) (z : zModel) (K2 : Int32 → zModel → Prop) (Q : zModel → Prop) : Prop := (((5497 : Int32) ≤ y1 → Q z) ∧ (¬ (5497 : Int32) ≤ y1 → vp_in y1 5497 ∧ vp_in y1 5497 ∧ ∀ f_3 : Nat → Int32, f_3 = upd z.2.2.2.1 y1.toNatClampNeg (z.2.1 y1.toNatClampNeg) → ∀ x_4 : Int32, x_4 = y1 + (1 : Int32) → K2 x_4 (z.1, z.2.1, z.2.2.1, f_3, z.2.2.2.2)))
theorem zc_X11_keepsTrial : zCalV RX11 yX11_keepsTrial cX11_keepsTrial 2 none 0 := ⟨q_im_X11_keepsTrial, q_se_X11_keepsTrial, q_in_X11, q_cd_X11_keepsTrial, ⟨by decide, by decide, by decide +kernel⟩, rfl⟩
abbrev rm_X11_keepsTrial : Room := { frames := 0, cells := 0, slots := 0, locals := 0 }
def v_X11_keepsTrial (u : zModel) (Q : zModel → Prop) : Prop := ∃ I2 : Nat → Int32 → zModel → Prop, (∀ (n : Nat) (y1 : Int32) (z : zModel), I2 n y1 z → t_X11_keepsTrial_2 y1 z (fun q0 q1 => ∃ k : Nat, k < n ∧ I2 k q0 q1) Q) ∧ t_X11_keepsTrial_e u (fun q0 q1 => ∃ k : Nat, I2 k q0 q1) Q
set_option maxHeartbeats 4000000 in
set_option maxRecDepth 100000 in
theorem L_X11_keepsTrial (l : Launch) (dC : Nat → ClassId) (dI : Nat → Nat → Nat) (cI cJ cS : ClassId) (a : Nat → Nat) (u : zModel) (Q : zModel → Prop) (I2 : Nat → Int32 → zModel → Prop) (h2 : ∀ (n : Nat) (y1 : Int32) (z : zModel), I2 n y1 z → t_X11_keepsTrial_2 y1 z (fun q0 q1 => ∃ k : Nat, k < n ∧ I2 k q0 q1) Q) (hf : t_X11_keepsTrial_e u (fun q0 q1 => ∃ k : Nat, I2 k q0 q1) Q) : ∀ sz : Nat, Met l yX11_keepsTrial (Cond.code yX11_keepsTrial cX11_keepsTrial 2 none :: zT) rm_X11_keepsTrial (zPm dC dI cI cJ cS (cl_X11 cI cJ a u) [.ref (a 0)] sz) (va_Qv Q (zB dC dI cI cJ cS (va_A (cl_X11 cI cJ a u) sz) (fun z => cl_X11 cI cJ a z)) (va_A (cl_X11 cI cJ a u) sz)) 0 0 (va_A (cl_X11 cI cJ a u) sz) := by
  intro sz
  refine z_enterM (Qc := fun A => va_Qv Q (zB dC dI cI cJ cS A (fun z => cl_X11 cI cJ a z)) A) (cc := cX11_keepsTrial) (maxL := 2) (ret := none) (by decide) (Nat.le_of_ble_eq_true rfl) ?_
  intro p e s m below meth c ls A X hP hD hS hA hl
  obtain ⟨⟨hx, hb, hml, hown, hts⟩, hr, hlk, hK⟩ := id X
  have hl : lv_has ls 2 [(0, .ref (a 0))] := hl
  have LP : ∀ n : Nat, (∀ (y1 : Int32) (z : zModel) (H : Heap) (locs : List Loc) (ls : Array Slot), I2 n y1 z → va_P (dC, dI) vwCl (cl_X11 cI cJ a z) H → va_D A (cl_X11 cI cJ a z) → va_S A s.heap H locs → lv_has ls 2 [(0, .ref (a 0)), (1, .int y1)] → W p l e rm_X11_keepsTrial s m [.ref (a 0)].toArray below meth c H locs 0 0 (MQ below (va_Qv Q (zB dC dI cI cJ cS A (fun z => cl_X11 cI cJ a z)) A) [.ref (a 0)].toArray s 0 0 A) (F0 m 2 ls [])) := by
    intro n
    induction n using Nat.strongRecOn with
    | _ n ih =>
      intro y1 z H locs ls hI hP hD hS hl
      have hf := h2 n y1 z hI
      unfold t_X11_keepsTrial_2 at hf
      refine lv_iload_n hx hb dX11_keepsTrial_2 rfl (lv_at hl 1 rfl) ?_
      refine lv_sipush (v := 5497) hx hb dX11_keepsTrial_3 (by decide) ?_
      refine lv_icmp_ge (tgt := 27) hx hb dX11_keepsTrial_6 (by decide) (fun c_2 => ?_) (fun c_2 => ?_)
      · have hf := hf.1 c_2
        exact z_retMv (Wf := (fun z => cl_X11 cI cJ a z)) (u := z) X hf hP hD hS dX11_keepsTrial_27
      · have hf := hf.2 c_2
        refine lv_aload_n hx hb dX11_keepsTrial_9 rfl (lv_at hl 0 rfl) ?_
        refine va_get (D := (dC, dI)) (ci := 10) (v := .ref (a 3)) (C := RX11) (T := TX11) (N := 17) hx hb hts inX11 hown hK hP 0 rfl rfl 3 (by decide) (hts _ q_fl_X11_16) (fun _ h9 => h9) rfl dX11_keepsTrial_10 ?_
        refine lv_iload_n hx hb dX11_keepsTrial_13 rfl (lv_at hl 1 rfl) ?_
        refine lv_aload_n hx hb dX11_keepsTrial_14 rfl (lv_at hl 0 rfl) ?_
        refine va_get (D := (dC, dI)) (ci := 10) (v := .ref (a 1)) (C := RX11) (T := TX11) (N := 17) hx hb hts inX11 hown hK hP 0 rfl rfl 1 (by decide) (hts _ q_fl_X11_7) (fun _ h9 => h9) rfl dX11_keepsTrial_15 ?_
        refine lv_iload_n hx hb dX11_keepsTrial_18 rfl (lv_at hl 1 rfl) ?_
        obtain ⟨hg, hf⟩ := hf
        refine va_iald hx hb hK hP 1 0 rfl rfl hg dX11_keepsTrial_19 ?_
        obtain ⟨hg, hf⟩ := hf
        refine z_iast (Wn := fun f_3 => cl_X11 cI cJ a (z.1, z.2.1, z.2.2.1, f_3, z.2.2.2.2)) X hP hD hS 3 0 rfl rfl hg (fun _ => rfl) dX11_keepsTrial_20 (fun f_3 H locs ef_3 hP hD hS => ?_)
        have hf := hf f_3 ef_3
        obtain ⟨x_4, ex_4⟩ : ∃ y : Int32, y = y1 + (1 : Int32) := ⟨_, rfl⟩
        have hf := hf x_4 ex_4
        refine lv_iinc (v := x_4) (lv' := [(1, .int x_4), (0, .ref (a 0))]) hx hb dX11_keepsTrial_21 hl (k := 1) rfl (by rw [ex_4]; rfl) (by decide) rfl (fun ls hl => ?_)
        refine lv_goto (tgt := 2) hx hb dX11_keepsTrial_24 (by decide) ?_
        obtain ⟨k_5, hk_5, hf⟩ := hf
        exact (ih k_5 hk_5) _ (z.1, z.2.1, z.2.2.1, f_3, z.2.2.2.2) _ _ ls hf hP hD hS (lv_sub hl [1, 0] rfl)
  unfold t_X11_keepsTrial_e at hf
  refine lv_iconst (v := 0) hx hb dX11_keepsTrial_0 (by decide) ?_
  refine lv_istore_n (lv' := [(1, .int (0 : Int32)), (0, .ref (a 0))]) hx hb dX11_keepsTrial_1 rfl hl (by decide) rfl (fun ls hl => ?_)
  obtain ⟨k_1, hf⟩ := hf
  exact (LP k_1) _ u _ _ ls hf hP hD hS (lv_sub hl [1, 0] rfl)
def s_X11_keepsTrial (u : zModel) (Q : zModel → Prop) : Prop := ∀ f : Nat → Int32, (∀ j, j < 5497 → f j = u.2.1 j) → Q (u.1, u.2.1, u.2.2.1, f, u.2.2.2.2)
theorem st_X11_keepsTrial {u : zModel} {Q : zModel → Prop} (h : s_X11_keepsTrial u Q) : v_X11_keepsTrial u Q := by
  refine zlp2 (T := fun y z K => t_X11_keepsTrial_2 y z K Q) (E := fun K => t_X11_keepsTrial_e u K Q) 5497 (fun i => nI i) (fun i => (u.1, u.2.1, u.2.2.1, fa_fill u.2.1 u.2.2.2.1 i, u.2.2.2.2)) (fun K hK => ?_) ?_ ?_
  · have hK : K (nI 0) (u.1, u.2.1, u.2.2.1, fa_fill u.2.1 u.2.2.2.1 0, u.2.2.2.2) := hK
    rw [fa_fill_0] at hK
    exact hK
  · intro i hi K hK
    refine ⟨fun c => absurd c (ge5497 hi), fun _ => ⟨vp_in_nI hi (by decide), vp_in_nI hi (by decide), fun f e x e' => ?_⟩⟩
    have e : f = upd (fa_fill u.2.1 u.2.2.2.1 i) (nI i).toNatClampNeg (u.2.1 (nI i).toNatClampNeg) := e
    rw [nI_clamp (by omega), fa_fill_succ u.2.1 u.2.2.2.1 i] at e
    rw [e, e', nI_1]; exact hK
  · intro K
    exact ⟨fun _ => h _ (fun j hj => fa_fill_in hj), fun c => absurd le5497 c⟩
theorem c_X11_keepsTrial (l : Launch) (dC : Nat → ClassId) (dI : Nat → Nat → Nat) (cI cJ cS : ClassId) (a : Nat → Nat) (u : zModel) (Q : zModel → Prop) (hf : s_X11_keepsTrial u Q) : ∀ sz : Nat, Met l yX11_keepsTrial (Cond.code yX11_keepsTrial cX11_keepsTrial 2 none :: zT) rm_X11_keepsTrial (zPm dC dI cI cJ cS (cl_X11 cI cJ a u) [.ref (a 0)] sz) (va_Qv Q (zB dC dI cI cJ cS (va_A (cl_X11 cI cJ a u) sz) (fun z => cl_X11 cI cJ a z)) (va_A (cl_X11 cI cJ a u) sz)) 0 0 (va_A (cl_X11 cI cJ a u) sz) := by
  obtain ⟨I2, h2, hf⟩ := st_X11_keepsTrial hf
  exact L_X11_keepsTrial l dC dI cI cJ cS a u Q I2 h2 hf

def t_X11_trialBack_e (u : zModel) (K2 : Int32 → zModel → Prop) (Q : zModel → Prop) : Prop := K2 (0 : Int32) u
def t_X11_trialBack_2 (y1 : Int32) (z : zModel) (K2 : Int32 → zModel → Prop) (Q : zModel → Prop) : Prop := (((5497 : Int32) ≤ y1 → Q z) ∧ (¬ (5497 : Int32) ≤ y1 → vp_in y1 5497 ∧ vp_in y1 5497 ∧ ∀ f_3 : Nat → Int32, f_3 = upd z.2.1 y1.toNatClampNeg (z.2.2.2.1 y1.toNatClampNeg) → ∀ x_4 : Int32, x_4 = y1 + (1 : Int32) → K2 x_4 (z.1, f_3, z.2.2)))
theorem zc_X11_trialBack : zCalV RX11 yX11_trialBack cX11_trialBack 2 none 0 := ⟨q_im_X11_trialBack, q_se_X11_trialBack, q_in_X11, q_cd_X11_trialBack, ⟨by decide, by decide, by decide +kernel⟩, rfl⟩
abbrev rm_X11_trialBack : Room := { frames := 0, cells := 0, slots := 0, locals := 0 }
def v_X11_trialBack (u : zModel) (Q : zModel → Prop) : Prop := ∃ I2 : Nat → Int32 → zModel → Prop, (∀ (n : Nat) (y1 : Int32) (z : zModel), I2 n y1 z → t_X11_trialBack_2 y1 z (fun q0 q1 => ∃ k : Nat, k < n ∧ I2 k q0 q1) Q) ∧ t_X11_trialBack_e u (fun q0 q1 => ∃ k : Nat, I2 k q0 q1) Q
set_option maxHeartbeats 4000000 in
set_option maxRecDepth 100000 in
theorem L_X11_trialBack (l : Launch) (dC : Nat → ClassId) (dI : Nat → Nat → Nat) (cI cJ cS : ClassId) (a : Nat → Nat) (u : zModel) (Q : zModel → Prop) (I2 : Nat → Int32 → zModel → Prop) (h2 : ∀ (n : Nat) (y1 : Int32) (z : zModel), I2 n y1 z → t_X11_trialBack_2 y1 z (fun q0 q1 => ∃ k : Nat, k < n ∧ I2 k q0 q1) Q) (hf : t_X11_trialBack_e u (fun q0 q1 => ∃ k : Nat, I2 k q0 q1) Q) : ∀ sz : Nat, Met l yX11_trialBack (Cond.code yX11_trialBack cX11_trialBack 2 none :: zT) rm_X11_trialBack (zPm dC dI cI cJ cS (cl_X11 cI cJ a u) [.ref (a 0)] sz) (va_Qv Q (zB dC dI cI cJ cS (va_A (cl_X11 cI cJ a u) sz) (fun z => cl_X11 cI cJ a z)) (va_A (cl_X11 cI cJ a u) sz)) 0 0 (va_A (cl_X11 cI cJ a u) sz) := by
  intro sz
  refine z_enterM (Qc := fun A => va_Qv Q (zB dC dI cI cJ cS A (fun z => cl_X11 cI cJ a z)) A) (cc := cX11_trialBack) (maxL := 2) (ret := none) (by decide) (Nat.le_of_ble_eq_true rfl) ?_
  intro p e s m below meth c ls A X hP hD hS hA hl
  obtain ⟨⟨hx, hb, hml, hown, hts⟩, hr, hlk, hK⟩ := id X
  have hl : lv_has ls 2 [(0, .ref (a 0))] := hl
  have LP : ∀ n : Nat, (∀ (y1 : Int32) (z : zModel) (H : Heap) (locs : List Loc) (ls : Array Slot), I2 n y1 z → va_P (dC, dI) vwCl (cl_X11 cI cJ a z) H → va_D A (cl_X11 cI cJ a z) → va_S A s.heap H locs → lv_has ls 2 [(0, .ref (a 0)), (1, .int y1)] → W p l e rm_X11_trialBack s m [.ref (a 0)].toArray below meth c H locs 0 0 (MQ below (va_Qv Q (zB dC dI cI cJ cS A (fun z => cl_X11 cI cJ a z)) A) [.ref (a 0)].toArray s 0 0 A) (F0 m 2 ls [])) := by
    intro n
    induction n using Nat.strongRecOn with
    | _ n ih =>
      intro y1 z H locs ls hI hP hD hS hl
      have hf := h2 n y1 z hI
      unfold t_X11_trialBack_2 at hf
      refine lv_iload_n hx hb dX11_trialBack_2 rfl (lv_at hl 1 rfl) ?_
      refine lv_sipush (v := 5497) hx hb dX11_trialBack_3 (by decide) ?_
      refine lv_icmp_ge (tgt := 27) hx hb dX11_trialBack_6 (by decide) (fun c_2 => ?_) (fun c_2 => ?_)
      · have hf := hf.1 c_2
        exact z_retMv (Wf := (fun z => cl_X11 cI cJ a z)) (u := z) X hf hP hD hS dX11_trialBack_27
      · have hf := hf.2 c_2
        refine lv_aload_n hx hb dX11_trialBack_9 rfl (lv_at hl 0 rfl) ?_
        refine va_get (D := (dC, dI)) (ci := 10) (v := .ref (a 1)) (C := RX11) (T := TX11) (N := 17) hx hb hts inX11 hown hK hP 0 rfl rfl 1 (by decide) (hts _ q_fl_X11_7) (fun _ h9 => h9) rfl dX11_trialBack_10 ?_
        refine lv_iload_n hx hb dX11_trialBack_13 rfl (lv_at hl 1 rfl) ?_
        refine lv_aload_n hx hb dX11_trialBack_14 rfl (lv_at hl 0 rfl) ?_
        refine va_get (D := (dC, dI)) (ci := 10) (v := .ref (a 3)) (C := RX11) (T := TX11) (N := 17) hx hb hts inX11 hown hK hP 0 rfl rfl 3 (by decide) (hts _ q_fl_X11_16) (fun _ h9 => h9) rfl dX11_trialBack_15 ?_
        refine lv_iload_n hx hb dX11_trialBack_18 rfl (lv_at hl 1 rfl) ?_
        obtain ⟨hg, hf⟩ := hf
        refine va_iald hx hb hK hP 3 0 rfl rfl hg dX11_trialBack_19 ?_
        obtain ⟨hg, hf⟩ := hf
        refine z_iast (Wn := fun f_3 => cl_X11 cI cJ a (z.1, f_3, z.2.2)) X hP hD hS 1 0 rfl rfl hg (fun _ => rfl) dX11_trialBack_20 (fun f_3 H locs ef_3 hP hD hS => ?_)
        have hf := hf f_3 ef_3
        obtain ⟨x_4, ex_4⟩ : ∃ y : Int32, y = y1 + (1 : Int32) := ⟨_, rfl⟩
        have hf := hf x_4 ex_4
        refine lv_iinc (v := x_4) (lv' := [(1, .int x_4), (0, .ref (a 0))]) hx hb dX11_trialBack_21 hl (k := 1) rfl (by rw [ex_4]; rfl) (by decide) rfl (fun ls hl => ?_)
        refine lv_goto (tgt := 2) hx hb dX11_trialBack_24 (by decide) ?_
        obtain ⟨k_5, hk_5, hf⟩ := hf
        exact (ih k_5 hk_5) _ (z.1, f_3, z.2.2) _ _ ls hf hP hD hS (lv_sub hl [1, 0] rfl)
  unfold t_X11_trialBack_e at hf
  refine lv_iconst (v := 0) hx hb dX11_trialBack_0 (by decide) ?_
  refine lv_istore_n (lv' := [(1, .int (0 : Int32)), (0, .ref (a 0))]) hx hb dX11_trialBack_1 rfl hl (by decide) rfl (fun ls hl => ?_)
  obtain ⟨k_1, hf⟩ := hf
  exact (LP k_1) _ u _ _ ls hf hP hD hS (lv_sub hl [1, 0] rfl)
def s_X11_trialBack (u : zModel) (Q : zModel → Prop) : Prop := ∀ f : Nat → Int32, (∀ j, j < 5497 → f j = u.2.2.2.1 j) → Q (u.1, f, u.2.2)
theorem st_X11_trialBack {u : zModel} {Q : zModel → Prop} (h : s_X11_trialBack u Q) : v_X11_trialBack u Q := by
  refine zlp2 (T := fun y z K => t_X11_trialBack_2 y z K Q) (E := fun K => t_X11_trialBack_e u K Q) 5497 (fun i => nI i) (fun i => (u.1, fa_fill u.2.2.2.1 u.2.1 i, u.2.2)) (fun K hK => ?_) ?_ ?_
  · have hK : K (nI 0) (u.1, fa_fill u.2.2.2.1 u.2.1 0, u.2.2) := hK
    rw [fa_fill_0] at hK
    exact hK
  · intro i hi K hK
    refine ⟨fun c => absurd c (ge5497 hi), fun _ => ⟨vp_in_nI hi (by decide), vp_in_nI hi (by decide), fun f e x e' => ?_⟩⟩
    have e : f = upd (fa_fill u.2.2.2.1 u.2.1 i) (nI i).toNatClampNeg (u.2.2.2.1 (nI i).toNatClampNeg) := e
    rw [nI_clamp (by omega), fa_fill_succ u.2.2.2.1 u.2.1 i] at e
    rw [e, e', nI_1]; exact hK
  · intro K
    exact ⟨fun _ => h _ (fun j hj => fa_fill_in hj), fun c => absurd le5497 c⟩
theorem c_X11_trialBack (l : Launch) (dC : Nat → ClassId) (dI : Nat → Nat → Nat) (cI cJ cS : ClassId) (a : Nat → Nat) (u : zModel) (Q : zModel → Prop) (hf : s_X11_trialBack u Q) : ∀ sz : Nat, Met l yX11_trialBack (Cond.code yX11_trialBack cX11_trialBack 2 none :: zT) rm_X11_trialBack (zPm dC dI cI cJ cS (cl_X11 cI cJ a u) [.ref (a 0)] sz) (va_Qv Q (zB dC dI cI cJ cS (va_A (cl_X11 cI cJ a u) sz) (fun z => cl_X11 cI cJ a z)) (va_A (cl_X11 cI cJ a u) sz)) 0 0 (va_A (cl_X11 cI cJ a u) sz) := by
  obtain ⟨I2, h2, hf⟩ := st_X11_trialBack hf
  exact L_X11_trialBack l dC dI cI cJ cS a u Q I2 h2 hf

def t_X11_remembers_e (u : zModel) (K11 : Int32 → zModel → Prop) (K51 : Int32 → zModel → Prop) (Q : zModel → Prop) : Prop := ((¬ u.2.2.2.2.2.2.1 = (8 : Int32) → K51 (0 : Int32) u) ∧ (u.2.2.2.2.2.2.1 = (8 : Int32) → K11 (0 : Int32) u))
def t_X11_remembers_11 (y1 : Int32) (z : zModel) (K11 : Int32 → zModel → Prop) (K51 : Int32 → zModel → Prop) (Q : zModel → Prop) : Prop := (((38479 : Int32) ≤ y1 → ∀ x_5 : Int32, x_5 = (z.2.2.2.2.2.2.1 - (1 : Int32)) → K51 (0 : Int32) (z.1, z.2.1, z.2.2.1, z.2.2.2.1, z.2.2.2.2.1, z.2.2.2.2.2.1, x_5, z.2.2.2.2.2.2.2)) ∧ (¬ (38479 : Int32) ≤ y1 → vp_in (y1 + (5497 : Int32)) 43976 ∧ vp_in y1 43976 ∧ ∀ f_7 : Nat → Int32, f_7 = upd z.2.2.2.2.2.1 y1.toNatClampNeg (z.2.2.2.2.2.1 (y1 + (5497 : Int32)).toNatClampNeg) → ∀ x_8 : Int32, x_8 = y1 + (1 : Int32) → K11 x_8 (z.1, z.2.1, z.2.2.1, z.2.2.2.1, z.2.2.2.2.1, f_7, z.2.2.2.2.2.2)))
def t_X11_remembers_51 (y1 : Int32) (z : zModel) (K11 : Int32 → zModel → Prop) (K51 : Int32 → zModel → Prop) (Q : zModel → Prop) : Prop := (((5497 : Int32) ≤ y1 → ∀ x_11 : Int32, x_11 = (z.2.2.2.2.2.2.1 + (1 : Int32)) → Q (z.1, z.2.1, z.2.2.1, z.2.2.2.1, z.2.2.2.2.1, z.2.2.2.2.2.1, x_11, z.2.2.2.2.2.2.2)) ∧ (¬ (5497 : Int32) ≤ y1 → vp_in y1 5497 ∧ vp_in (((5497 : Int32) * z.2.2.2.2.2.2.1) + y1) 43976 ∧ ∀ f_12 : Nat → Int32, f_12 = upd z.2.2.2.2.2.1 (((5497 : Int32) * z.2.2.2.2.2.2.1) + y1).toNatClampNeg (z.2.2.1 y1.toNatClampNeg) → ∀ x_13 : Int32, x_13 = y1 + (1 : Int32) → K51 x_13 (z.1, z.2.1, z.2.2.1, z.2.2.2.1, z.2.2.2.2.1, f_12, z.2.2.2.2.2.2)))
theorem zc_X11_remembers : zCalV RX11 yX11_remembers cX11_remembers 2 none 0 := ⟨q_im_X11_remembers, q_se_X11_remembers, q_in_X11, q_cd_X11_remembers, ⟨by decide, by decide, by decide +kernel⟩, rfl⟩
abbrev rm_X11_remembers : Room := { frames := 0, cells := 0, slots := 0, locals := 0 }
def v_X11_remembers (u : zModel) (Q : zModel → Prop) : Prop := ∃ I11 : Nat → Int32 → zModel → Prop, ∃ I51 : Nat → Int32 → zModel → Prop, (∀ (n : Nat) (y1 : Int32) (z : zModel), I11 n y1 z → t_X11_remembers_11 y1 z (fun q0 q1 => ∃ k : Nat, k < n ∧ I11 k q0 q1) (fun q0 q1 => ∃ k : Nat, k < n ∧ I51 k q0 q1) Q) ∧ (∀ (n : Nat) (y1 : Int32) (z : zModel), I51 n y1 z → t_X11_remembers_51 y1 z (fun q0 q1 => ∃ k : Nat, k < n ∧ I11 k q0 q1) (fun q0 q1 => ∃ k : Nat, k < n ∧ I51 k q0 q1) Q) ∧ t_X11_remembers_e u (fun q0 q1 => ∃ k : Nat, I11 k q0 q1) (fun q0 q1 => ∃ k : Nat, I51 k q0 q1) Q
set_option maxHeartbeats 4000000 in
set_option maxRecDepth 100000 in
theorem L_X11_remembers (l : Launch) (dC : Nat → ClassId) (dI : Nat → Nat → Nat) (cI cJ cS : ClassId) (a : Nat → Nat) (u : zModel) (Q : zModel → Prop) (I11 : Nat → Int32 → zModel → Prop) (I51 : Nat → Int32 → zModel → Prop) (h11 : ∀ (n : Nat) (y1 : Int32) (z : zModel), I11 n y1 z → t_X11_remembers_11 y1 z (fun q0 q1 => ∃ k : Nat, k < n ∧ I11 k q0 q1) (fun q0 q1 => ∃ k : Nat, k < n ∧ I51 k q0 q1) Q) (h51 : ∀ (n : Nat) (y1 : Int32) (z : zModel), I51 n y1 z → t_X11_remembers_51 y1 z (fun q0 q1 => ∃ k : Nat, k < n ∧ I11 k q0 q1) (fun q0 q1 => ∃ k : Nat, k < n ∧ I51 k q0 q1) Q) (hf : t_X11_remembers_e u (fun q0 q1 => ∃ k : Nat, I11 k q0 q1) (fun q0 q1 => ∃ k : Nat, I51 k q0 q1) Q) : ∀ sz : Nat, Met l yX11_remembers (Cond.code yX11_remembers cX11_remembers 2 none :: zT) rm_X11_remembers (zPm dC dI cI cJ cS (cl_X11 cI cJ a u) [.ref (a 0)] sz) (va_Qv Q (zB dC dI cI cJ cS (va_A (cl_X11 cI cJ a u) sz) (fun z => cl_X11 cI cJ a z)) (va_A (cl_X11 cI cJ a u) sz)) 0 0 (va_A (cl_X11 cI cJ a u) sz) := by
  intro sz
  refine z_enterM (Qc := fun A => va_Qv Q (zB dC dI cI cJ cS A (fun z => cl_X11 cI cJ a z)) A) (cc := cX11_remembers) (maxL := 2) (ret := none) (by decide) (Nat.le_of_ble_eq_true rfl) ?_
  intro p e s m below meth c ls A X hP hD hS hA hl
  obtain ⟨⟨hx, hb, hml, hown, hts⟩, hr, hlk, hK⟩ := id X
  have hl : lv_has ls 2 [(0, .ref (a 0))] := hl
  have LP : ∀ n : Nat, (∀ (y1 : Int32) (z : zModel) (H : Heap) (locs : List Loc) (ls : Array Slot), I11 n y1 z → va_P (dC, dI) vwCl (cl_X11 cI cJ a z) H → va_D A (cl_X11 cI cJ a z) → va_S A s.heap H locs → lv_has ls 2 [(0, .ref (a 0)), (1, .int y1)] → W p l e rm_X11_remembers s m [.ref (a 0)].toArray below meth c H locs 0 0 (MQ below (va_Qv Q (zB dC dI cI cJ cS A (fun z => cl_X11 cI cJ a z)) A) [.ref (a 0)].toArray s 0 0 A) (F0 m 11 ls [])) ∧ (∀ (y1 : Int32) (z : zModel) (H : Heap) (locs : List Loc) (ls : Array Slot), I51 n y1 z → va_P (dC, dI) vwCl (cl_X11 cI cJ a z) H → va_D A (cl_X11 cI cJ a z) → va_S A s.heap H locs → lv_has ls 2 [(0, .ref (a 0)), (1, .int y1)] → W p l e rm_X11_remembers s m [.ref (a 0)].toArray below meth c H locs 0 0 (MQ below (va_Qv Q (zB dC dI cI cJ cS A (fun z => cl_X11 cI cJ a z)) A) [.ref (a 0)].toArray s 0 0 A) (F0 m 51 ls [])) := by
    intro n
    induction n using Nat.strongRecOn with
    | _ n ih =>
      refine ⟨?_, ?_⟩
      · intro y1 z H locs ls hI hP hD hS hl
        have hf := h11 n y1 z hI
        unfold t_X11_remembers_11 at hf
        refine lv_iload_n hx hb dX11_remembers_11 rfl (lv_at hl 1 rfl) ?_
        refine lv_ldc (v := (38479)) hx hb hown (hts _ q_k_X11_152) dX11_remembers_12 ?_
        refine lv_icmp_ge (tgt := 39) hx hb dX11_remembers_14 (by decide) (fun c_4 => ?_) (fun c_4 => ?_)
        · have hf := hf.1 c_4
          refine lv_aload_n hx hb dX11_remembers_39 rfl (lv_at hl 0 rfl) ?_
          refine lv_dup hx hb dX11_remembers_40 rfl ?_
          refine va_get (D := (dC, dI)) (ci := 10) (v := .int z.2.2.2.2.2.2.1) (C := RX11) (T := TX11) (N := 17) hx hb hts inX11 hown hK hP 0 rfl rfl 6 (by decide) (hts _ q_fl_X11_149) (fun _ h9 => h9) rfl dX11_remembers_41 ?_
          refine lv_iconst (v := 1) hx hb dX11_remembers_44 (by decide) ?_
          refine lv_isub hx hb dX11_remembers_45 ?_
          refine lv_topi (fun x_5 ex_5 => ?_)
          have hf := hf x_5 ex_5
          refine z_put (w' := cl_X11 cI cJ a (z.1, z.2.1, z.2.2.1, z.2.2.2.1, z.2.2.2.2.1, z.2.2.2.2.2.1, x_5, z.2.2.2.2.2.2.2)) (ci := 10) (v := .int x_5) (ty := .int) (Cn := RX11) (T := TX11) (N := 17) X inX11 tyX11 tyX11_ok nmX11 hP hD hS 0 rfl rfl 6 (by decide) (hts _ q_fl_X11_149) (fun _ h9 => h9) rfl (tyX11_ok 6 (by decide)) rfl rfl (Nat.le_of_ble_eq_true rfl) rfl dX11_remembers_46 (fun H locs hP hD hS => ?_)
          refine lv_iconst (v := 0) hx hb dX11_remembers_49 (by decide) ?_
          refine lv_istore_n (lv' := [(1, .int (0 : Int32)), (0, .ref (a 0))]) hx hb dX11_remembers_50 rfl hl (by decide) rfl (fun ls hl => ?_)
          obtain ⟨k_6, hk_6, hf⟩ := hf
          exact (ih k_6 hk_6).2 _ (z.1, z.2.1, z.2.2.1, z.2.2.2.1, z.2.2.2.2.1, z.2.2.2.2.2.1, x_5, z.2.2.2.2.2.2.2) _ _ ls hf hP hD hS (lv_sub hl [1, 0] rfl)
        · have hf := hf.2 c_4
          refine lv_aload_n hx hb dX11_remembers_17 rfl (lv_at hl 0 rfl) ?_
          refine va_get (D := (dC, dI)) (ci := 10) (v := .ref (a 5)) (C := RX11) (T := TX11) (N := 17) hx hb hts inX11 hown hK hP 0 rfl rfl 5 (by decide) (hts _ q_fl_X11_23) (fun _ h9 => h9) rfl dX11_remembers_18 ?_
          refine lv_iload_n hx hb dX11_remembers_21 rfl (lv_at hl 1 rfl) ?_
          refine lv_aload_n hx hb dX11_remembers_22 rfl (lv_at hl 0 rfl) ?_
          refine va_get (D := (dC, dI)) (ci := 10) (v := .ref (a 5)) (C := RX11) (T := TX11) (N := 17) hx hb hts inX11 hown hK hP 0 rfl rfl 5 (by decide) (hts _ q_fl_X11_23) (fun _ h9 => h9) rfl dX11_remembers_23 ?_
          refine lv_iload_n hx hb dX11_remembers_26 rfl (lv_at hl 1 rfl) ?_
          refine lv_sipush (v := 5497) hx hb dX11_remembers_27 (by decide) ?_
          refine lv_iadd hx hb dX11_remembers_30 ?_
          obtain ⟨hg, hf⟩ := hf
          refine va_iald hx hb hK hP 5 0 rfl rfl hg dX11_remembers_31 ?_
          obtain ⟨hg, hf⟩ := hf
          refine z_iast (Wn := fun f_7 => cl_X11 cI cJ a (z.1, z.2.1, z.2.2.1, z.2.2.2.1, z.2.2.2.2.1, f_7, z.2.2.2.2.2.2)) X hP hD hS 5 0 rfl rfl hg (fun _ => rfl) dX11_remembers_32 (fun f_7 H locs ef_7 hP hD hS => ?_)
          have hf := hf f_7 ef_7
          obtain ⟨x_8, ex_8⟩ : ∃ y : Int32, y = y1 + (1 : Int32) := ⟨_, rfl⟩
          have hf := hf x_8 ex_8
          refine lv_iinc (v := x_8) (lv' := [(1, .int x_8), (0, .ref (a 0))]) hx hb dX11_remembers_33 hl (k := 1) rfl (by rw [ex_8]; rfl) (by decide) rfl (fun ls hl => ?_)
          refine lv_goto (tgt := 11) hx hb dX11_remembers_36 (by decide) ?_
          obtain ⟨k_9, hk_9, hf⟩ := hf
          exact (ih k_9 hk_9).1 _ (z.1, z.2.1, z.2.2.1, z.2.2.2.1, z.2.2.2.2.1, f_7, z.2.2.2.2.2.2) _ _ ls hf hP hD hS (lv_sub hl [1, 0] rfl)
      · intro y1 z H locs ls hI hP hD hS hl
        have hf := h51 n y1 z hI
        unfold t_X11_remembers_51 at hf
        refine lv_iload_n hx hb dX11_remembers_51 rfl (lv_at hl 1 rfl) ?_
        refine lv_sipush (v := 5497) hx hb dX11_remembers_52 (by decide) ?_
        refine lv_icmp_ge (tgt := 85) hx hb dX11_remembers_55 (by decide) (fun c_10 => ?_) (fun c_10 => ?_)
        · have hf := hf.1 c_10
          refine lv_aload_n hx hb dX11_remembers_85 rfl (lv_at hl 0 rfl) ?_
          refine lv_dup hx hb dX11_remembers_86 rfl ?_
          refine va_get (D := (dC, dI)) (ci := 10) (v := .int z.2.2.2.2.2.2.1) (C := RX11) (T := TX11) (N := 17) hx hb hts inX11 hown hK hP 0 rfl rfl 6 (by decide) (hts _ q_fl_X11_149) (fun _ h9 => h9) rfl dX11_remembers_87 ?_
          refine lv_iconst (v := 1) hx hb dX11_remembers_90 (by decide) ?_
          refine lv_iadd hx hb dX11_remembers_91 ?_
          refine lv_topi (fun x_11 ex_11 => ?_)
          have hf := hf x_11 ex_11
          refine z_put (w' := cl_X11 cI cJ a (z.1, z.2.1, z.2.2.1, z.2.2.2.1, z.2.2.2.2.1, z.2.2.2.2.2.1, x_11, z.2.2.2.2.2.2.2)) (ci := 10) (v := .int x_11) (ty := .int) (Cn := RX11) (T := TX11) (N := 17) X inX11 tyX11 tyX11_ok nmX11 hP hD hS 0 rfl rfl 6 (by decide) (hts _ q_fl_X11_149) (fun _ h9 => h9) rfl (tyX11_ok 6 (by decide)) rfl rfl (Nat.le_of_ble_eq_true rfl) rfl dX11_remembers_92 (fun H locs hP hD hS => ?_)
          exact z_retMv (Wf := (fun z => cl_X11 cI cJ a z)) (u := (z.1, z.2.1, z.2.2.1, z.2.2.2.1, z.2.2.2.2.1, z.2.2.2.2.2.1, x_11, z.2.2.2.2.2.2.2)) X hf hP hD hS dX11_remembers_95
        · have hf := hf.2 c_10
          refine lv_aload_n hx hb dX11_remembers_58 rfl (lv_at hl 0 rfl) ?_
          refine va_get (D := (dC, dI)) (ci := 10) (v := .ref (a 5)) (C := RX11) (T := TX11) (N := 17) hx hb hts inX11 hown hK hP 0 rfl rfl 5 (by decide) (hts _ q_fl_X11_23) (fun _ h9 => h9) rfl dX11_remembers_59 ?_
          refine lv_sipush (v := 5497) hx hb dX11_remembers_62 (by decide) ?_
          refine lv_aload_n hx hb dX11_remembers_65 rfl (lv_at hl 0 rfl) ?_
          refine va_get (D := (dC, dI)) (ci := 10) (v := .int z.2.2.2.2.2.2.1) (C := RX11) (T := TX11) (N := 17) hx hb hts inX11 hown hK hP 0 rfl rfl 6 (by decide) (hts _ q_fl_X11_149) (fun _ h9 => h9) rfl dX11_remembers_66 ?_
          refine lv_imul hx hb dX11_remembers_69 ?_
          refine lv_iload_n hx hb dX11_remembers_70 rfl (lv_at hl 1 rfl) ?_
          refine lv_iadd hx hb dX11_remembers_71 ?_
          refine lv_aload_n hx hb dX11_remembers_72 rfl (lv_at hl 0 rfl) ?_
          refine va_get (D := (dC, dI)) (ci := 10) (v := .ref (a 2)) (C := RX11) (T := TX11) (N := 17) hx hb hts inX11 hown hK hP 0 rfl rfl 2 (by decide) (hts _ q_fl_X11_13) (fun _ h9 => h9) rfl dX11_remembers_73 ?_
          refine lv_iload_n hx hb dX11_remembers_76 rfl (lv_at hl 1 rfl) ?_
          obtain ⟨hg, hf⟩ := hf
          refine va_iald hx hb hK hP 2 0 rfl rfl hg dX11_remembers_77 ?_
          obtain ⟨hg, hf⟩ := hf
          refine z_iast (Wn := fun f_12 => cl_X11 cI cJ a (z.1, z.2.1, z.2.2.1, z.2.2.2.1, z.2.2.2.2.1, f_12, z.2.2.2.2.2.2)) X hP hD hS 5 0 rfl rfl hg (fun _ => rfl) dX11_remembers_78 (fun f_12 H locs ef_12 hP hD hS => ?_)
          have hf := hf f_12 ef_12
          obtain ⟨x_13, ex_13⟩ : ∃ y : Int32, y = y1 + (1 : Int32) := ⟨_, rfl⟩
          have hf := hf x_13 ex_13
          refine lv_iinc (v := x_13) (lv' := [(1, .int x_13), (0, .ref (a 0))]) hx hb dX11_remembers_79 hl (k := 1) rfl (by rw [ex_13]; rfl) (by decide) rfl (fun ls hl => ?_)
          refine lv_goto (tgt := 51) hx hb dX11_remembers_82 (by decide) ?_
          obtain ⟨k_14, hk_14, hf⟩ := hf
          exact (ih k_14 hk_14).2 _ (z.1, z.2.1, z.2.2.1, z.2.2.2.1, z.2.2.2.2.1, f_12, z.2.2.2.2.2.2) _ _ ls hf hP hD hS (lv_sub hl [1, 0] rfl)
  unfold t_X11_remembers_e at hf
  refine lv_aload_n hx hb dX11_remembers_0 rfl (lv_at hl 0 rfl) ?_
  refine va_get (D := (dC, dI)) (ci := 10) (v := .int u.2.2.2.2.2.2.1) (C := RX11) (T := TX11) (N := 17) hx hb hts inX11 hown hK hP 0 rfl rfl 6 (by decide) (hts _ q_fl_X11_149) (fun _ h9 => h9) rfl dX11_remembers_1 ?_
  refine lv_bipush (v := 8) hx hb dX11_remembers_4 (by decide) ?_
  refine lv_icmp_ne (tgt := 49) hx hb dX11_remembers_6 (by decide) (fun c_1 => ?_) (fun c_1 => ?_)
  · have hf := hf.1 c_1
    refine lv_iconst (v := 0) hx hb dX11_remembers_49 (by decide) ?_
    refine lv_istore_n (lv' := [(1, .int (0 : Int32)), (0, .ref (a 0))]) hx hb dX11_remembers_50 rfl hl (by decide) rfl (fun ls hl => ?_)
    obtain ⟨k_2, hf⟩ := hf
    exact (LP k_2).2 _ u _ _ ls hf hP hD hS (lv_sub hl [1, 0] rfl)
  · have hf := hf.2 c_1
    refine lv_iconst (v := 0) hx hb dX11_remembers_9 (by decide) ?_
    refine lv_istore_n (lv' := [(1, .int (0 : Int32)), (0, .ref (a 0))]) hx hb dX11_remembers_10 rfl hl (by decide) rfl (fun ls hl => ?_)
    obtain ⟨k_3, hf⟩ := hf
    exact (LP k_3).1 _ u _ _ ls hf hP hD hS (lv_sub hl [1, 0] rfl)
/-- the rows of the remembered ones, the eldest given up, i numbers moved -/
def mSh (row : Nat → Int32) (i : Nat) : Nat → Int32 := fun j => if j < i then row (j + 5497) else row j
def s_X11_remembers (u : zModel) (Q : zModel → Prop) : Prop := ∃ (B n : Nat) (un : Nat → zState) (v : zState), n ≤ 8 ∧ (∀ i, i < n → okB B (un i)) ∧ okB B v ∧ u.2.2.2.2.2.2.1 = nI n ∧ mUn un n u.2.2.2.2.2.1 ∧ mRel v u.2.2.1 ∧ ∀ row : Nat → Int32, mUn (pushU un n v) (pushN n) row → Q (u.1, u.2.1, u.2.2.1, u.2.2.2.1, u.2.2.2.2.1, row, nI (pushN n), u.2.2.2.2.2.2.2)
theorem st_X11_remembers {u : zModel} {Q : zModel → Prop} (h : s_X11_remembers u Q) : v_X11_remembers u Q := by
  obtain ⟨B, n, un, v, hn, hun, hv, eN, hU, hr, hQ⟩ := h
  -- p: how many stand ahead of the new one
  obtain ⟨p, hp⟩ : ∃ p, p = if n = 8 then 7 else n := ⟨_, rfl⟩
  have hp7 : p ≤ 7 := by rw [hp]; split <;> omega
  have epn : pushN n = p + 1 := by unfold pushN; rw [hp]; split <;> omega
  refine ⟨fun k y1 z => n = 8 ∧ ∃ i : Nat, i ≤ 38479 ∧ k = 10000 + (38479 - i) ∧ y1 = nI i ∧ z = (u.1, u.2.1, u.2.2.1, u.2.2.2.1, u.2.2.2.2.1, mSh u.2.2.2.2.2.1 i, u.2.2.2.2.2.2),
    fun k y1 z => ∃ (i : Nat) (row : Nat → Int32), i ≤ 5497 ∧ k = 5497 - i ∧ y1 = nI i ∧ z = (u.1, u.2.1, u.2.2.1, u.2.2.2.1, u.2.2.2.2.1, row, nI p, u.2.2.2.2.2.2.2) ∧ (∀ q j, q < p → j < 5497 → row (5497 * q + j) = if n = 8 then u.2.2.2.2.2.1 (5497 * (q + 1) + j) else u.2.2.2.2.2.1 (5497 * q + j)) ∧ ∀ j, j < i → row (5497 * p + j) = u.2.2.1 j, ?_, ?_, ?_⟩
  · rintro k y1 z ⟨h8, i, hi, rfl, rfl, rfl⟩
    unfold t_X11_remembers_11
    refine ⟨fun c x e => ?_, fun c => ?_⟩
    · have : i = 38479 := by
        have := (nI_leI (a := 38479) (b := i) (by decide) (by omega)).mp c
        omega
      subst this
      have e : x = nI p := by
        rw [e]
        show u.2.2.2.2.2.2.1 - 1 = _
        rw [eN, hp, if_pos h8, h8]; decide
      subst e
      refine ⟨5497 - 0, by omega, 0, mSh u.2.2.2.2.2.1 38479, by omega, rfl, rfl, rfl, fun q j hq hj => ?_, fun j hj => absurd hj (Nat.not_lt_zero j)⟩
      rw [if_pos h8]
      unfold mSh
      rw [if_pos (by omega), show 5497 * q + j + 5497 = 5497 * (q + 1) + j by omega]
    · have hi : i < 38479 := by
        have : ¬ 38479 ≤ i := fun q => c (nI_le (a := 38479) q (by omega))
        omega
      rw [show nI i + (5497 : Int32) = nI (i + 5497) from nI_add i 5497, nI_clamp (by omega), nI_clamp (by omega)]
      refine ⟨vp_in_nI (by omega) (by decide), vp_in_nI (by omega) (by decide), fun f e x e' => ⟨10000 + (38479 - (i + 1)), by omega, h8, i + 1, by omega, rfl, by rw [e', nI_1], ?_⟩⟩
      have : f = mSh u.2.2.2.2.2.1 (i + 1) := by
        rw [e]
        show upd (mSh u.2.2.2.2.2.1 i) i (mSh u.2.2.2.2.2.1 i (i + 5497)) = _
        have e1 : mSh u.2.2.2.2.2.1 i (i + 5497) = u.2.2.2.2.2.1 (i + 5497) := if_neg (by omega)
        rw [e1]
        funext j
        unfold upd mSh
        by_cases hj : j = i
        · rw [if_pos hj, if_pos (by omega), hj]
        · rw [if_neg hj]
          by_cases h2 : j < i
          · rw [if_pos h2, if_pos (by omega)]
          · rw [if_neg h2, if_neg (by omega)]
      rw [this]
  · rintro k y1 z ⟨i, row, hi, rfl, rfl, rfl, hA, hB⟩
    unfold t_X11_remembers_51
    refine ⟨fun c x e => ?_, fun c => ?_⟩
    · have : i = 5497 := by
        have := (nI_leI (a := 5497) (b := i) (by decide) (by omega)).mp c
        omega
      subst this
      have e : x = nI (pushN n) := by rw [e, epn]; exact nI_1 p
      subst e
      refine hQ row (fun q hq => ?_)
      rw [epn] at hq
      unfold pushU
      by_cases hqp : q = p
      · subst hqp
        have : (if n = 8 then (if q = 7 then v else un (q + 1)) else if q = n then v else un q) = v := by
          by_cases h8 : n = 8
          · rw [if_pos h8] at hp ⊢; rw [if_pos hp]
          · rw [if_neg h8] at hp ⊢; rw [if_pos hp]
        rw [this]
        exact hv.same hr (fun j hj => hB j hj)
      · by_cases h8 : n = 8
        · rw [if_pos h8] at hp ⊢
          rw [if_neg (by omega)]
          exact (hun (q + 1) (by omega)).same (hU (q + 1) (by omega)) (fun j hj => by
            have := hA q j (by omega) hj
            rw [if_pos h8] at this; exact this)
        · rw [if_neg h8] at hp ⊢
          rw [if_neg (by omega)]
          exact (hun q (by omega)).same (hU q (by omega)) (fun j hj => by
            have := hA q j (by omega) hj
            rw [if_neg h8] at this; exact this)
    · have hi : i < 5497 := by
        have : ¬ 5497 ≤ i := fun q => c (nI_le (a := 5497) q (by omega))
        omega
      dsimp only
      rw [show (5497 : Int32) * nI p + nI i = nI (5497 * p + i) by rw [show (5497 : Int32) = nI 5497 from rfl, n_mul, nI_add], nI_clamp (n := 5497 * p + i) (by omega), nI_clamp (n := i) (by omega)]
      refine ⟨vp_in_nI hi (by decide), vp_in_nI (by omega) (by decide), fun f e x e' => ⟨5497 - (i + 1), by omega, i + 1, f, by omega, rfl, by rw [e', nI_1], rfl, fun q j hq hj => ?_, fun j hj => ?_⟩⟩
      · rw [e, up_ne (by omega)]; exact hA q j hq hj
      · rw [e]
        by_cases hji : j = i
        · subst hji; rw [up_eq rfl]
        · rw [up_ne (by omega)]; exact hB j (by omega)
  · unfold t_X11_remembers_e
    rw [eN]
    refine ⟨fun c => ?_, fun c => ?_⟩
    · have h8 : ¬ n = 8 := fun q => c (by rw [q]; rfl)
      rw [if_neg h8] at hp
      refine ⟨5497 - 0, 0, u.2.2.2.2.2.1, by omega, rfl, rfl, ?_, fun q j hq hj => by rw [if_neg h8], fun j hj => absurd hj (Nat.not_lt_zero j)⟩
      rw [hp, ← eN]
    · have h8 : n = 8 := (nI_eq (b := 8) (by omega) (by decide)).mp c
      refine ⟨10000 + (38479 - 0), h8, 0, by omega, rfl, rfl, ?_⟩
      rw [show mSh u.2.2.2.2.2.1 0 = u.2.2.2.2.2.1 from funext fun j => if_neg (Nat.not_lt_zero j)]
theorem c_X11_remembers (l : Launch) (dC : Nat → ClassId) (dI : Nat → Nat → Nat) (cI cJ cS : ClassId) (a : Nat → Nat) (u : zModel) (Q : zModel → Prop) (hf : s_X11_remembers u Q) : ∀ sz : Nat, Met l yX11_remembers (Cond.code yX11_remembers cX11_remembers 2 none :: zT) rm_X11_remembers (zPm dC dI cI cJ cS (cl_X11 cI cJ a u) [.ref (a 0)] sz) (va_Qv Q (zB dC dI cI cJ cS (va_A (cl_X11 cI cJ a u) sz) (fun z => cl_X11 cI cJ a z)) (va_A (cl_X11 cI cJ a u) sz)) 0 0 (va_A (cl_X11 cI cJ a u) sz) := by
  obtain ⟨I11, I51, h11, h51, hf⟩ := st_X11_remembers hf
  exact L_X11_remembers l dC dI cI cJ cS a u Q I11 I51 h11 h51 hf

def t_X11_isDone (u : zModel) (x1 : Int32) (x2 : Int32) (Q : Int32 → zModel → Prop) : Prop := ((x1 ≤ 0 → ((¬ x1 = 0 → s_X11_putsBack ((0 : Int32), u.2.1, u.2.2.1, u.2.2.2.1, u.2.2.2.2.1, u.2.2.2.2.2.1, u.2.2.2.2.2.2.1, u.2.2.2.2.2.2.2.1, x1, u.2.2.2.2.2.2.2.2.2) (fun (u_4 : zModel) => ((¬ x1 = 0 → Q (0 : Int32) u_4) ∧ (x1 = 0 → Q (1 : Int32) u_4)))) ∧ (x1 = 0 → s_X11_remembers ((0 : Int32), u.2.1, u.2.2.1, u.2.2.2.1, u.2.2.2.2.1, u.2.2.2.2.2.1, u.2.2.2.2.2.2.1, u.2.2.2.2.2.2.2.1, x1, u.2.2.2.2.2.2.2.2.2) (fun (u_7 : zModel) => ((¬ x1 = 0 → Q (0 : Int32) u_7) ∧ (x1 = 0 → Q (1 : Int32) u_7)))))) ∧ (¬ x1 ≤ 0 → ((¬ x1 = 0 → s_X11_putsBack (x2, u.2.1, u.2.2.1, u.2.2.2.1, u.2.2.2.2.1, u.2.2.2.2.2.1, u.2.2.2.2.2.2.1, u.2.2.2.2.2.2.2.1, x1, u.2.2.2.2.2.2.2.2.2) (fun (u_11 : zModel) => ((¬ x1 = 0 → Q (0 : Int32) u_11) ∧ (x1 = 0 → Q (1 : Int32) u_11)))) ∧ (x1 = 0 → s_X11_remembers (x2, u.2.1, u.2.2.1, u.2.2.2.1, u.2.2.2.2.1, u.2.2.2.2.2.1, u.2.2.2.2.2.2.1, u.2.2.2.2.2.2.2.1, x1, u.2.2.2.2.2.2.2.2.2) (fun (u_14 : zModel) => ((¬ x1 = 0 → Q (0 : Int32) u_14) ∧ (x1 = 0 → Q (1 : Int32) u_14)))))))
theorem zc_X11_isDone : zCalV RX11 yX11_isDone cX11_isDone 3 (some .boolean) 2 := ⟨q_im_X11_isDone, q_se_X11_isDone, q_in_X11, q_cd_X11_isDone, ⟨by decide, by decide, by decide +kernel⟩, rfl⟩
abbrev rm_X11_isDone : Room := { frames := 1, cells := 0, slots := 0, locals := 21 }
set_option maxHeartbeats 4000000 in
set_option maxRecDepth 100000 in
theorem L_X11_isDone (l : Launch) (dC : Nat → ClassId) (dI : Nat → Nat → Nat) (cI cJ cS : ClassId) (a : Nat → Nat) (u : zModel) (x1 : Int32) (x2 : Int32) (Q : Int32 → zModel → Prop) (hf : t_X11_isDone u x1 x2 Q) : ∀ sz : Nat, Met l yX11_isDone (Cond.code yX11_isDone cX11_isDone 3 (some .boolean) :: zT) rm_X11_isDone (zPm dC dI cI cJ cS (cl_X11 cI cJ a u) [.ref (a 0), .int x1, .int x2] sz) (va_Qi (fun r u => (r = 0 ∨ r = 1) ∧ Q r u) (zB dC dI cI cJ cS (va_A (cl_X11 cI cJ a u) sz) (fun z => cl_X11 cI cJ a z)) (va_A (cl_X11 cI cJ a u) sz)) 0 0 (va_A (cl_X11 cI cJ a u) sz) := by
  intro sz
  refine z_enterM (Qc := fun A => va_Qi (fun r u => (r = 0 ∨ r = 1) ∧ Q r u) (zB dC dI cI cJ cS A (fun z => cl_X11 cI cJ a z)) A) (cc := cX11_isDone) (maxL := 3) (ret := (some .boolean)) (by decide) (Nat.le_of_ble_eq_true rfl) ?_
  intro p e s m below meth c ls A X hP hD hS hA hl
  obtain ⟨⟨hx, hb, hml, hown, hts⟩, hr, hlk, hK⟩ := id X
  have hl : lv_has ls 3 [(0, .ref (a 0)), (1, .int x1), (2, .int x2)] := hl
  unfold t_X11_isDone at hf
  refine lv_aload_n hx hb dX11_isDone_0 rfl (lv_at hl 0 rfl) ?_
  refine lv_iload_n hx hb dX11_isDone_1 rfl (lv_at hl 1 rfl) ?_
  refine z_put (w' := cl_X11 cI cJ a (u.1, u.2.1, u.2.2.1, u.2.2.2.1, u.2.2.2.2.1, u.2.2.2.2.2.1, u.2.2.2.2.2.2.1, u.2.2.2.2.2.2.2.1, x1, u.2.2.2.2.2.2.2.2.2)) (ci := 10) (v := .int x1) (ty := .int) (Cn := RX11) (T := TX11) (N := 17) X inX11 tyX11 tyX11_ok nmX11 hP hD hS 0 rfl rfl 8 (by decide) (hts _ q_fl_X11_153) (fun _ h9 => h9) rfl (tyX11_ok 8 (by decide)) rfl rfl (Nat.le_of_ble_eq_true rfl) rfl dX11_isDone_2 (fun H locs hP hD hS => ?_)
  refine lv_aload_n hx hb dX11_isDone_5 rfl (lv_at hl 0 rfl) ?_
  refine lv_iload_n hx hb dX11_isDone_6 rfl (lv_at hl 1 rfl) ?_
  refine lv_if_le (tgt := 14) hx hb dX11_isDone_7 (by decide) (fun c_1 => ?_) (fun c_1 => ?_)
  · have hf := hf.1 c_1
    refine lv_iconst (v := 0) hx hb dX11_isDone_14 (by decide) ?_
    refine z_put (w' := cl_X11 cI cJ a ((0 : Int32), u.2.1, u.2.2.1, u.2.2.2.1, u.2.2.2.2.1, u.2.2.2.2.2.1, u.2.2.2.2.2.2.1, u.2.2.2.2.2.2.2.1, x1, u.2.2.2.2.2.2.2.2.2)) (ci := 10) (v := .int (0 : Int32)) (ty := .int) (Cn := RX11) (T := TX11) (N := 17) X inX11 tyX11 tyX11_ok nmX11 hP hD hS 0 rfl rfl 0 (by decide) (hts _ q_fl_X11_43) (fun _ h9 => h9) rfl (tyX11_ok 0 (by decide)) rfl rfl (Nat.le_of_ble_eq_true rfl) rfl dX11_isDone_15 (fun H locs hP hD hS => ?_)
    refine lv_iload_n hx hb dX11_isDone_18 rfl (lv_at hl 1 rfl) ?_
    refine lv_if_ne (tgt := 29) hx hb dX11_isDone_19 (by decide) (fun c_2 => ?_) (fun c_2 => ?_)
    · have hf := hf.1 c_2
      refine lv_aload_n hx hb dX11_isDone_29 rfl (lv_at hl 0 rfl) ?_
      refine z_mVv (Wn := (fun u_4 => cl_X11 cI cJ a u_4)) (As := []) (rest := []) (wr := []) X (c_X11_putsBack l dC dI cI cJ cS a ((0 : Int32), u.2.1, u.2.2.1, u.2.2.2.1, u.2.2.2.2.1, u.2.2.2.2.2.1, u.2.2.2.2.2.2.1, u.2.2.2.2.2.2.2.1, x1, u.2.2.2.2.2.2.2.2.2)  _ hf _) zc_X11_putsBack q_ml_X11_159 ⟨rfl, rfl⟩ ⟨Nat.le_of_ble_eq_true rfl, Nat.le_of_ble_eq_true rfl⟩ hP hD hS hA [0, 1, 2, 3, 4, 5, 6, 7, 8] [] rfl (by decide) rfl (by decide) (by decide) [0, 1, 2, 3, 4, 5, 6, 7, 8] (by decide) (fun _ => rfl) 10 rfl rfl hl.1 rfl rfl (Nat.le_of_ble_eq_true rfl) ⟨Nat.zero_le _, Nat.zero_le _⟩ dX11_isDone_30 (fun u_4 H locs hf hP hD hS => ?_)
      refine lv_iload_n hx hb dX11_isDone_33 rfl (lv_at hl 1 rfl) ?_
      refine lv_if_ne (tgt := 41) hx hb dX11_isDone_34 (by decide) (fun c_5 => ?_) (fun c_5 => ?_)
      · have hf := hf.1 c_5
        refine lv_iconst (v := 0) hx hb dX11_isDone_41 (by decide) ?_
        exact z_retMz (Wf := (fun z => cl_X11 cI cJ a z)) (u := u_4) X (Or.inl rfl) hf hP hD hS dX11_isDone_42
      · have hf := hf.2 c_5
        refine lv_iconst (v := 1) hx hb dX11_isDone_37 (by decide) ?_
        refine lv_goto (tgt := 42) hx hb dX11_isDone_38 (by decide) ?_
        exact z_retMz (Wf := (fun z => cl_X11 cI cJ a z)) (u := u_4) X (Or.inr rfl) hf hP hD hS dX11_isDone_42
    · have hf := hf.2 c_2
      refine lv_aload_n hx hb dX11_isDone_22 rfl (lv_at hl 0 rfl) ?_
      refine z_mVv (Wn := (fun u_7 => cl_X11 cI cJ a u_7)) (As := []) (rest := []) (wr := []) X (c_X11_remembers l dC dI cI cJ cS a ((0 : Int32), u.2.1, u.2.2.1, u.2.2.2.1, u.2.2.2.2.1, u.2.2.2.2.2.1, u.2.2.2.2.2.2.1, u.2.2.2.2.2.2.2.1, x1, u.2.2.2.2.2.2.2.2.2)  _ hf _) zc_X11_remembers q_ml_X11_156 ⟨rfl, rfl⟩ ⟨Nat.le_of_ble_eq_true rfl, Nat.le_of_ble_eq_true rfl⟩ hP hD hS hA [0, 1, 2, 3, 4, 5, 6, 7, 8] [] rfl (by decide) rfl (by decide) (by decide) [0, 1, 2, 3, 4, 5, 6, 7, 8] (by decide) (fun _ => rfl) 10 rfl rfl hl.1 rfl rfl (Nat.le_of_ble_eq_true rfl) ⟨Nat.zero_le _, Nat.zero_le _⟩ dX11_isDone_23 (fun u_7 H locs hf hP hD hS => ?_)
      refine lv_goto (tgt := 33) hx hb dX11_isDone_26 (by decide) ?_
      refine lv_iload_n hx hb dX11_isDone_33 rfl (lv_at hl 1 rfl) ?_
      refine lv_if_ne (tgt := 41) hx hb dX11_isDone_34 (by decide) (fun c_8 => ?_) (fun c_8 => ?_)
      · have hf := hf.1 c_8
        refine lv_iconst (v := 0) hx hb dX11_isDone_41 (by decide) ?_
        exact z_retMz (Wf := (fun z => cl_X11 cI cJ a z)) (u := u_7) X (Or.inl rfl) hf hP hD hS dX11_isDone_42
      · have hf := hf.2 c_8
        refine lv_iconst (v := 1) hx hb dX11_isDone_37 (by decide) ?_
        refine lv_goto (tgt := 42) hx hb dX11_isDone_38 (by decide) ?_
        exact z_retMz (Wf := (fun z => cl_X11 cI cJ a z)) (u := u_7) X (Or.inr rfl) hf hP hD hS dX11_isDone_42
  · have hf := hf.2 c_1
    refine lv_iload_n hx hb dX11_isDone_10 rfl (lv_at hl 2 rfl) ?_
    refine lv_goto (tgt := 15) hx hb dX11_isDone_11 (by decide) ?_
    refine z_put (w' := cl_X11 cI cJ a (x2, u.2.1, u.2.2.1, u.2.2.2.1, u.2.2.2.2.1, u.2.2.2.2.2.1, u.2.2.2.2.2.2.1, u.2.2.2.2.2.2.2.1, x1, u.2.2.2.2.2.2.2.2.2)) (ci := 10) (v := .int x2) (ty := .int) (Cn := RX11) (T := TX11) (N := 17) X inX11 tyX11 tyX11_ok nmX11 hP hD hS 0 rfl rfl 0 (by decide) (hts _ q_fl_X11_43) (fun _ h9 => h9) rfl (tyX11_ok 0 (by decide)) rfl rfl (Nat.le_of_ble_eq_true rfl) rfl dX11_isDone_15 (fun H locs hP hD hS => ?_)
    refine lv_iload_n hx hb dX11_isDone_18 rfl (lv_at hl 1 rfl) ?_
    refine lv_if_ne (tgt := 29) hx hb dX11_isDone_19 (by decide) (fun c_9 => ?_) (fun c_9 => ?_)
    · have hf := hf.1 c_9
      refine lv_aload_n hx hb dX11_isDone_29 rfl (lv_at hl 0 rfl) ?_
      refine z_mVv (Wn := (fun u_11 => cl_X11 cI cJ a u_11)) (As := []) (rest := []) (wr := []) X (c_X11_putsBack l dC dI cI cJ cS a (x2, u.2.1, u.2.2.1, u.2.2.2.1, u.2.2.2.2.1, u.2.2.2.2.2.1, u.2.2.2.2.2.2.1, u.2.2.2.2.2.2.2.1, x1, u.2.2.2.2.2.2.2.2.2)  _ hf _) zc_X11_putsBack q_ml_X11_159 ⟨rfl, rfl⟩ ⟨Nat.le_of_ble_eq_true rfl, Nat.le_of_ble_eq_true rfl⟩ hP hD hS hA [0, 1, 2, 3, 4, 5, 6, 7, 8] [] rfl (by decide) rfl (by decide) (by decide) [0, 1, 2, 3, 4, 5, 6, 7, 8] (by decide) (fun _ => rfl) 10 rfl rfl hl.1 rfl rfl (Nat.le_of_ble_eq_true rfl) ⟨Nat.zero_le _, Nat.zero_le _⟩ dX11_isDone_30 (fun u_11 H locs hf hP hD hS => ?_)
      refine lv_iload_n hx hb dX11_isDone_33 rfl (lv_at hl 1 rfl) ?_
      refine lv_if_ne (tgt := 41) hx hb dX11_isDone_34 (by decide) (fun c_12 => ?_) (fun c_12 => ?_)
      · have hf := hf.1 c_12
        refine lv_iconst (v := 0) hx hb dX11_isDone_41 (by decide) ?_
        exact z_retMz (Wf := (fun z => cl_X11 cI cJ a z)) (u := u_11) X (Or.inl rfl) hf hP hD hS dX11_isDone_42
      · have hf := hf.2 c_12
        refine lv_iconst (v := 1) hx hb dX11_isDone_37 (by decide) ?_
        refine lv_goto (tgt := 42) hx hb dX11_isDone_38 (by decide) ?_
        exact z_retMz (Wf := (fun z => cl_X11 cI cJ a z)) (u := u_11) X (Or.inr rfl) hf hP hD hS dX11_isDone_42
    · have hf := hf.2 c_9
      refine lv_aload_n hx hb dX11_isDone_22 rfl (lv_at hl 0 rfl) ?_
      refine z_mVv (Wn := (fun u_14 => cl_X11 cI cJ a u_14)) (As := []) (rest := []) (wr := []) X (c_X11_remembers l dC dI cI cJ cS a (x2, u.2.1, u.2.2.1, u.2.2.2.1, u.2.2.2.2.1, u.2.2.2.2.2.1, u.2.2.2.2.2.2.1, u.2.2.2.2.2.2.2.1, x1, u.2.2.2.2.2.2.2.2.2)  _ hf _) zc_X11_remembers q_ml_X11_156 ⟨rfl, rfl⟩ ⟨Nat.le_of_ble_eq_true rfl, Nat.le_of_ble_eq_true rfl⟩ hP hD hS hA [0, 1, 2, 3, 4, 5, 6, 7, 8] [] rfl (by decide) rfl (by decide) (by decide) [0, 1, 2, 3, 4, 5, 6, 7, 8] (by decide) (fun _ => rfl) 10 rfl rfl hl.1 rfl rfl (Nat.le_of_ble_eq_true rfl) ⟨Nat.zero_le _, Nat.zero_le _⟩ dX11_isDone_23 (fun u_14 H locs hf hP hD hS => ?_)
      refine lv_goto (tgt := 33) hx hb dX11_isDone_26 (by decide) ?_
      refine lv_iload_n hx hb dX11_isDone_33 rfl (lv_at hl 1 rfl) ?_
      refine lv_if_ne (tgt := 41) hx hb dX11_isDone_34 (by decide) (fun c_15 => ?_) (fun c_15 => ?_)
      · have hf := hf.1 c_15
        refine lv_iconst (v := 0) hx hb dX11_isDone_41 (by decide) ?_
        exact z_retMz (Wf := (fun z => cl_X11 cI cJ a z)) (u := u_14) X (Or.inl rfl) hf hP hD hS dX11_isDone_42
      · have hf := hf.2 c_15
        refine lv_iconst (v := 1) hx hb dX11_isDone_37 (by decide) ?_
        refine lv_goto (tgt := 42) hx hb dX11_isDone_38 (by decide) ?_
        exact z_retMz (Wf := (fun z => cl_X11 cI cJ a z)) (u := u_14) X (Or.inr rfl) hf hP hD hS dX11_isDone_42
/-- an ACT by a call comes to its end in the reference: G ahead of it, in 'aside' what was -/
def s_X11_isDone (u : zModel) (x1 x2 : Int32) (Q : Int32 → zModel → Prop) : Prop := ∃ (B : Nat) (G : zG), okG B G ∧ ¬ x1 < 0 ∧ (gIs G = 1 → mRel (gKept G) u.2.2.2.2.1) ∧ u.2.2.2.2.2.2.2.1 = gIs G ∧ (u.2.2.2.2.2.2.1 = nI (gUnN G) ∧ mUn (gUn G) (gUnN G) u.2.2.2.2.2.1) ∧ (u.2.2.2.2.2.2.2.2.2.2.1 = nI (gTpN G) ∧ ∀ j, j < gTpN G → u.2.2.2.2.2.2.2.2.2.1 j = gTp G j) ∧ u.2.2.2.2.2.2.2.2.2.2.2.2.2.1 = gWr G ∧ mRel (gNow G) u.2.2.1 ∧
  (x1 = 0 → ∃ v : zState, mRel v u.2.1 ∧ ∀ u' : zModel, mG (gAct G v) u' → u'.1 = 0 → u'.2.1 = u.2.1 → u'.2.2.2.2.2.2.2.2.2.2.2.2.2.2.2.2 = u.2.2.2.2.2.2.2.2.2.2.2.2.2.2.2.2 → Q 1 u') ∧ (¬ x1 = 0 → ∀ u' : zModel, mG (gNo G x1) u' → u'.1 = x2 → Q 0 u')
theorem st_X11_isDone {u : zModel} {x1 x2 : Int32} {Q : Int32 → zModel → Prop} (h : s_X11_isDone u x1 x2 Q) : t_X11_isDone u x1 x2 Q := by
  obtain ⟨B, G, hG, hneg, hK, hI, hU, hT, hW, hA, h0, h1⟩ := h
  obtain ⟨g1, g2, g3, g4⟩ := hG
  refine ⟨fun c => ⟨fun c0 => ?_, fun c0 => ?_⟩, fun c => ⟨fun c0 => ?_, fun c0 => ?_⟩⟩
  · exact absurd (by
      rw [fa_lt] at hneg
      rw [fa_le] at c
      rw [fa_eq]
      omega) c0
  · obtain ⟨v, hv, hQ⟩ := h0 c0
    refine ⟨B, gUnN G, gUn G, gNow G, g3.1, g3.2, g1, hU.1, hU.2, hA, fun row hrow => ⟨fun q => absurd c0 q, fun _ => hQ _ ⟨hv, hK, hI, ⟨rfl, hrow⟩, hT, hW, c0⟩ rfl rfl rfl⟩⟩
  · refine fun f hf => ⟨fun _ => h1 c0 _ ⟨g1.same hA hf, hK, hI, hU, hT, hW, rfl⟩ rfl, fun q => absurd q c0⟩
  · exact absurd (by rw [c0]; decide) c
theorem c_X11_isDone (l : Launch) (dC : Nat → ClassId) (dI : Nat → Nat → Nat) (cI cJ cS : ClassId) (a : Nat → Nat) (u : zModel) (x1 : Int32) (x2 : Int32) (Q : Int32 → zModel → Prop) (hf : s_X11_isDone u x1 x2 Q) : ∀ sz : Nat, Met l yX11_isDone (Cond.code yX11_isDone cX11_isDone 3 (some .boolean) :: zT) rm_X11_isDone (zPm dC dI cI cJ cS (cl_X11 cI cJ a u) [.ref (a 0), .int x1, .int x2] sz) (va_Qi (fun r u => (r = 0 ∨ r = 1) ∧ Q r u) (zB dC dI cI cJ cS (va_A (cl_X11 cI cJ a u) sz) (fun z => cl_X11 cI cJ a z)) (va_A (cl_X11 cI cJ a u) sz)) 0 0 (va_A (cl_X11 cI cJ a u) sz) := L_X11_isDone l dC dI cI cJ cS a u x1 x2 Q (st_X11_isDone hf)
