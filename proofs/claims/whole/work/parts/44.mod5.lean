/-! the relation part by part -/
def mTop (v : zState) (m : Nat → Int32) : Prop := ∀ i, i < 16 → m i = topF v i
def mSg (g : zSegs) (m : Nat → Int32) : Prop := ∀ s w, s < 12 → w < 3 → m (66 + 3 * s + w) = segF g s w
def mRc (g : zSegs) (m : Nat → Int32) : Prop := ∀ s k w, s < 12 → k < gN g s → w < 5 → m (102 + 5 * (50 * s + k) + w) = recF (g.1 (50 * s + k)) w
def mE1 (b : Int32) (c : Int64) (m : Nat → Int32) (e : Nat) : Prop := m (e + 1) = uKind b c ∧ (¬ c = 0 → ∀ w, w < 6 → m (e + w) = entF b c w)
def mEn (b : Int32) (t : zTree) (m : Nat → Int32) : Prop := ∀ l k, l ≤ tR t → k < 64 → mE1 b (t.1 (64 * l + k)) m (3102 + 6 * (64 * l + k))
def mNo (c : zColl) (g : zSegs) (m : Nat → Int32) : Prop := ¬ c.2.1 = -1 → ∀ i, i < wN c → ∃ j, j < gN g c.2.1.toNatClampNeg ∧ m (16 + i) = nI j ∧ c.1 i = g.1 (50 * c.2.1.toNatClampNeg + j)
def mLg (d : zDiary) (m : Nat → Int32) : Prop := m 5406 = d.2 ∧ ∀ i, i < 3 * dN d → m (5407 + i) = d.1 i
theorem mRel_iff {v : zState} {m : Nat → Int32} : mRel v m ↔ mTop v m ∧ mSg v.2.2.1 m ∧ mRc v.2.2.1 m ∧ mEn v.1.2.1 v.2.2.2.1 m ∧ mNo v.2.2.2.2.1 v.2.2.1 m ∧ mLg v.2.2.2.2.2.1 m := Iff.rfl
theorem mSg.cg {g : zSegs} {m m' : Nat → Int32} (h : mSg g m) (e : ∀ j, 66 ≤ j → j < 102 → m' j = m j) : mSg g m' := fun s w hs hw => (e _ (by omega) (by omega)).trans (h s w hs hw)
theorem mRc.cg {g : zSegs} {m m' : Nat → Int32} (h : mRc g m) (h50 : ∀ s, s < 12 → gN g s ≤ 50) (e : ∀ j, 102 ≤ j → j < 3102 → m' j = m j) : mRc g m' := fun s k w hs hk hw => (e _ (by omega) (by have := h50 s hs; omega)).trans (h s k w hs hk hw)
theorem mE1.cg {b : Int32} {c : Int64} {m m' : Nat → Int32} {e e' : Nat} (h : mE1 b c m e) (q : ∀ w, w < 6 → m' (e' + w) = m (e + w)) : mE1 b c m' e' := ⟨(q 1 (by decide)).trans h.1, fun hc w hw => (q w hw).trans (h.2 hc w hw)⟩
theorem mEn.cg {b : Int32} {t : zTree} {m m' : Nat → Int32} (h : mEn b t m) (h6 : tR t < 6) (e : ∀ j, 3102 ≤ j → j < 5406 → m' j = m j) : mEn b t m' := fun l k hl hk => (h l k hl hk).cg (fun w hw => e _ (by omega) (by omega))
theorem mNo.cg {c : zColl} {g : zSegs} {m m' : Nat → Int32} (h : mNo c g m) (h50 : wN c ≤ 50) (e : ∀ j, 16 ≤ j → j < 66 → m' j = m j) : mNo c g m' := fun hc i hi => by
  obtain ⟨j, h1, h2, h3⟩ := h hc i hi
  exact ⟨j, h1, (e _ (by omega) (by omega)).trans h2, h3⟩
theorem mLg.cg {d : zDiary} {m m' : Nat → Int32} (h : mLg d m) (hd : dN d ≤ 30) (e : ∀ j, 5406 ≤ j → j < 5497 → m' j = m j) : mLg d m' := ⟨(e _ (by omega) (by omega)).trans h.1, fun i hi => (e _ (by omega) (by omega)).trans (h.2 i hi)⟩
theorem lt16 {P : Nat → Prop} (h0 : P 0) (h1 : P 1) (h2 : P 2) (h3 : P 3) (h4 : P 4) (h5 : P 5) (h6 : P 6) (h7 : P 7) (h8 : P 8) (h9 : P 9) (h10 : P 10) (h11 : P 11) (h12 : P 12) (h13 : P 13) (h14 : P 14) (h15 : P 15) : ∀ i, i < 16 → P i := by
  intro i hi
  match i, hi with
  | 0, _ => exact h0
  | 1, _ => exact h1
  | 2, _ => exact h2
  | 3, _ => exact h3
  | 4, _ => exact h4
  | 5, _ => exact h5
  | 6, _ => exact h6
  | 7, _ => exact h7
  | 8, _ => exact h8
  | 9, _ => exact h9
  | 10, _ => exact h10
  | 11, _ => exact h11
  | 12, _ => exact h12
  | 13, _ => exact h13
  | 14, _ => exact h14
  | 15, _ => exact h15
  | n + 16, h => exact absurd h (by omega)
theorem lt6p {P : Nat → Prop} (h0 : P 0) (h1 : P 1) (h2 : P 2) (h3 : P 3) (h4 : P 4) (h5 : P 5) : ∀ i, i < 6 → P i := by
  intro i hi
  match i, hi with
  | 0, _ => exact h0
  | 1, _ => exact h1
  | 2, _ => exact h2
  | 3, _ => exact h3
  | 4, _ => exact h4
  | 5, _ => exact h5
  | n + 6, h => exact absurd h (by omega)
theorem lt5p {P : Nat → Prop} (h0 : P 0) (h1 : P 1) (h2 : P 2) (h3 : P 3) (h4 : P 4) : ∀ i, i < 5 → P i := by
  intro i hi
  match i, hi with
  | 0, _ => exact h0
  | 1, _ => exact h1
  | 2, _ => exact h2
  | 3, _ => exact h3
  | 4, _ => exact h4
  | n + 5, h => exact absurd h (by omega)
theorem n_c2 : (2 : Int32).toNatClampNeg = 2 := by decide
theorem n_c3 : (3 : Int32).toNatClampNeg = 3 := by decide
theorem n_c5 : (5 : Int32).toNatClampNeg = 5 := by decide
theorem n_c6 : (6 : Int32).toNatClampNeg = 6 := by decide
theorem n_c7 : (7 : Int32).toNatClampNeg = 7 := by decide
theorem n_c8 : (8 : Int32).toNatClampNeg = 8 := by decide
theorem n_c9 : (9 : Int32).toNatClampNeg = 9 := by decide
theorem n_c10 : (10 : Int32).toNatClampNeg = 10 := by decide
theorem n_c11 : (11 : Int32).toNatClampNeg = 11 := by decide
theorem n_c12 : (12 : Int32).toNatClampNeg = 12 := by decide
theorem n_c13 : (13 : Int32).toNatClampNeg = 13 := by decide
theorem n_c14 : (14 : Int32).toNatClampNeg = 14 := by decide
theorem n_c15 : (15 : Int32).toNatClampNeg = 15 := by decide
theorem n_c5406 : (5406 : Int32).toNatClampNeg = 5406 := by decide
theorem nc_0 {a : Nat} (h : a < 9999) : (nI a + (0 : Int32)).toNatClampNeg = a := by rw [Int32.add_zero, nI_clamp (by omega)]
theorem nc_1 {a : Nat} (h : a < 9999) : (nI a + (1 : Int32)).toNatClampNeg = a + 1 := by rw [n_lit1, nI_add, nI_clamp (by omega)]
theorem nc_2 {a : Nat} (h : a < 9999) : (nI a + (2 : Int32)).toNatClampNeg = a + 2 := by rw [n_lit2, nI_add, nI_clamp (by omega)]
theorem nc_3 {a : Nat} (h : a < 9999) : (nI a + (3 : Int32)).toNatClampNeg = a + 3 := by rw [n_lit3, nI_add, nI_clamp (by omega)]
theorem nc_4 {a : Nat} (h : a < 9999) : (nI a + (4 : Int32)).toNatClampNeg = a + 4 := by rw [n_lit4, nI_add, nI_clamp (by omega)]
theorem nc_5 {a : Nat} (h : a < 9999) : (nI a + (5 : Int32)).toNatClampNeg = a + 5 := by rw [n_lit5, nI_add, nI_clamp (by omega)]
theorem vi_0 {a n : Nat} (h : a < n) (hn : n < 99999) : vp_in (nI a + (0 : Int32)) n := by rw [Int32.add_zero]; exact vp_in_nI h (by omega)
theorem vi_1 {a n : Nat} (h : a + 1 < n) (hn : n < 99999) : vp_in (nI a + (1 : Int32)) n := by rw [n_lit1, nI_add]; exact vp_in_nI h (by omega)
theorem vi_2 {a n : Nat} (h : a + 2 < n) (hn : n < 99999) : vp_in (nI a + (2 : Int32)) n := by rw [n_lit2, nI_add]; exact vp_in_nI h (by omega)
theorem vi_3 {a n : Nat} (h : a + 3 < n) (hn : n < 99999) : vp_in (nI a + (3 : Int32)) n := by rw [n_lit3, nI_add]; exact vp_in_nI h (by omega)
theorem vi_4 {a n : Nat} (h : a + 4 < n) (hn : n < 99999) : vp_in (nI a + (4 : Int32)) n := by rw [n_lit4, nI_add]; exact vp_in_nI h (by omega)
theorem vi_5 {a n : Nat} (h : a + 5 < n) (hn : n < 99999) : vp_in (nI a + (5 : Int32)) n := by rw [n_lit5, nI_add]; exact vp_in_nI h (by omega)
theorem ix_seg' (s : Nat) : (66 : Int32) + ((3 : Int32) * nI s) = nI (66 + 3 * s) := by
  rw [show (66 : Int32) = nI 66 from rfl, show (3 : Int32) = nI 3 from rfl, n_mul, nI_add]
theorem lenI_ne {c : Int64} : lenI c = -1 ↔ cLen c = 0 := by
  unfold lenI
  by_cases h : cLen c = 0
  · rw [if_pos h]; exact ⟨fun _ => h, fun _ => rfl⟩
  · rw [if_neg h]
    obtain ⟨k, hk, e⟩ := cLen_lt c
    exact ⟨fun q => absurd (e.symm.trans q) (n_neg (by omega)), fun q => absurd q h⟩
/-- a store at a place, at another one -/
theorem up_eq {f : Nat → Int32} {i j : Nat} {x : Int32} (h : j = i) : upd f i x j = x := if_pos h
theorem up_ne {f : Nat → Int32} {i j : Nat} {x : Int32} (h : ¬ j = i) : upd f i x j = f j := if_neg h

def t_X11_empties_e (u : zModel) (x1 : Int32) (K2 : Int32 → zModel → Prop) (Q : zModel → Prop) : Prop := K2 (0 : Int32) u
def t_X11_empties_2 (x1 : Int32) (y2 : Int32) (z : zModel) (K2 : Int32 → zModel → Prop) (Q : zModel → Prop) : Prop := (((384 : Int32) ≤ y2 → Q z) ∧ (¬ (384 : Int32) ≤ y2 → s_X11_entryAt x1 (0 : Int32) (fun r_3 : Int32 => vp_in (r_3 + y2) 5497 ∧ ∀ f_4 : Nat → Int32, f_4 = upd z.2.1 (r_3 + y2).toNatClampNeg (0 : Int32) → ∀ x_5 : Int32, x_5 = y2 + (1 : Int32) → K2 x_5 (z.1, f_4, z.2.2))))
theorem zc_X11_empties : zCalV RX11 yX11_empties cX11_empties 3 none 1 := ⟨q_im_X11_empties, q_se_X11_empties, q_in_X11, q_cd_X11_empties, ⟨by decide, by decide, by decide +kernel⟩, rfl⟩
abbrev rm_X11_empties : Room := { frames := 1, cells := 0, slots := 0, locals := 21 }
def v_X11_empties (u : zModel) (x1 : Int32) (Q : zModel → Prop) : Prop := ∃ I2 : Nat → Int32 → zModel → Prop, (∀ (n : Nat) (y2 : Int32) (z : zModel), I2 n y2 z → t_X11_empties_2 x1 y2 z (fun q0 q1 => ∃ k : Nat, k < n ∧ I2 k q0 q1) Q) ∧ t_X11_empties_e u x1 (fun q0 q1 => ∃ k : Nat, I2 k q0 q1) Q
set_option maxHeartbeats 4000000 in
set_option maxRecDepth 100000 in
theorem L_X11_empties (l : Launch) (dC : Nat → ClassId) (dI : Nat → Nat → Nat) (cI cJ cS : ClassId) (a : Nat → Nat) (u : zModel) (x1 : Int32) (Q : zModel → Prop) (I2 : Nat → Int32 → zModel → Prop) (h2 : ∀ (n : Nat) (y2 : Int32) (z : zModel), I2 n y2 z → t_X11_empties_2 x1 y2 z (fun q0 q1 => ∃ k : Nat, k < n ∧ I2 k q0 q1) Q) (hf : t_X11_empties_e u x1 (fun q0 q1 => ∃ k : Nat, I2 k q0 q1) Q) : ∀ sz : Nat, Met l yX11_empties (Cond.code yX11_empties cX11_empties 3 none :: zT) rm_X11_empties (zPm dC dI cI cJ cS (cl_X11 cI cJ a u) [.ref (a 0), .int x1] sz) (va_Qv Q (zB dC dI cI cJ cS (va_A (cl_X11 cI cJ a u) sz) (fun z => cl_X11 cI cJ a z)) (va_A (cl_X11 cI cJ a u) sz)) 0 0 (va_A (cl_X11 cI cJ a u) sz) := by
  intro sz
  refine z_enterM (Qc := fun A => va_Qv Q (zB dC dI cI cJ cS A (fun z => cl_X11 cI cJ a z)) A) (cc := cX11_empties) (maxL := 3) (ret := none) (by decide) (Nat.le_of_ble_eq_true rfl) ?_
  intro p e s m below meth c ls A X hP hD hS hA hl
  obtain ⟨⟨hx, hb, hml, hown, hts⟩, hr, hlk, hK⟩ := id X
  have hl : lv_has ls 3 [(0, .ref (a 0)), (1, .int x1)] := hl
  have LP : ∀ n : Nat, (∀ (y2 : Int32) (z : zModel) (H : Heap) (locs : List Loc) (ls : Array Slot), I2 n y2 z → va_P (dC, dI) vwCl (cl_X11 cI cJ a z) H → va_D A (cl_X11 cI cJ a z) → va_S A s.heap H locs → lv_has ls 3 [(0, .ref (a 0)), (1, .int x1), (2, .int y2)] → W p l e rm_X11_empties s m [.ref (a 0), .int x1].toArray below meth c H locs 0 0 (MQ below (va_Qv Q (zB dC dI cI cJ cS A (fun z => cl_X11 cI cJ a z)) A) [.ref (a 0), .int x1].toArray s 0 0 A) (F0 m 2 ls [])) := by
    intro n
    induction n using Nat.strongRecOn with
    | _ n ih =>
      intro y2 z H locs ls hI hP hD hS hl
      have hf := h2 n y2 z hI
      unfold t_X11_empties_2 at hf
      refine lv_iload_n hx hb dX11_empties_2 rfl (lv_at hl 2 rfl) ?_
      refine lv_sipush (v := 384) hx hb dX11_empties_3 (by decide) ?_
      refine lv_icmp_ge (tgt := 28) hx hb dX11_empties_6 (by decide) (fun c_2 => ?_) (fun c_2 => ?_)
      · have hf := hf.1 c_2
        exact z_retMv (Wf := (fun z => cl_X11 cI cJ a z)) (u := z) X hf hP hD hS dX11_empties_28
      · have hf := hf.2 c_2
        refine lv_aload_n hx hb dX11_empties_9 rfl (lv_at hl 0 rfl) ?_
        refine va_get (D := (dC, dI)) (ci := 10) (v := .ref (a 1)) (C := RX11) (T := TX11) (N := 17) hx hb hts inX11 hown hK hP 0 rfl rfl 1 (by decide) (hts _ q_fl_X11_7) (fun _ h9 => h9) rfl dX11_empties_10 ?_
        refine lv_iload_n hx hb dX11_empties_13 rfl (lv_at hl 1 rfl) ?_
        refine lv_iconst (v := 0) hx hb dX11_empties_14 (by decide) ?_
        refine z_cSi (As := [.int x1, .int (0 : Int32)]) (rest := [.ref (a 1)]) X (c_X11_entryAt l dC dI cI cJ cS   x1 (0 : Int32) _ hf) zc_X11_entryAt q_ml_X11_63 ⟨rfl, rfl⟩ ⟨Nat.le_of_ble_eq_true rfl, Nat.le_of_ble_eq_true rfl⟩ hP [] rfl hl.1 rfl rfl (Nat.le_of_ble_eq_true rfl) ⟨Nat.zero_le _, Nat.zero_le _⟩ dX11_empties_15 (fun r_3 hf => ?_)
        refine lv_iload_n hx hb dX11_empties_18 rfl (lv_at hl 2 rfl) ?_
        refine lv_iadd hx hb dX11_empties_19 ?_
        refine lv_iconst (v := 0) hx hb dX11_empties_20 (by decide) ?_
        obtain ⟨hg, hf⟩ := hf
        refine z_iast (Wn := fun f_4 => cl_X11 cI cJ a (z.1, f_4, z.2.2)) X hP hD hS 1 0 rfl rfl hg (fun _ => rfl) dX11_empties_21 (fun f_4 H locs ef_4 hP hD hS => ?_)
        have hf := hf f_4 ef_4
        obtain ⟨x_5, ex_5⟩ : ∃ y : Int32, y = y2 + (1 : Int32) := ⟨_, rfl⟩
        have hf := hf x_5 ex_5
        refine lv_iinc (v := x_5) (lv' := [(2, .int x_5), (0, .ref (a 0)), (1, .int x1)]) hx hb dX11_empties_22 hl (k := 2) rfl (by rw [ex_5]; rfl) (by decide) rfl (fun ls hl => ?_)
        refine lv_goto (tgt := 2) hx hb dX11_empties_25 (by decide) ?_
        obtain ⟨k_6, hk_6, hf⟩ := hf
        exact (ih k_6 hk_6) _ (z.1, f_4, z.2.2) _ _ ls hf hP hD hS (lv_sub hl [1, 2, 0] rfl)
  unfold t_X11_empties_e at hf
  refine lv_iconst (v := 0) hx hb dX11_empties_0 (by decide) ?_
  refine lv_istore_n (lv' := [(2, .int (0 : Int32)), (0, .ref (a 0)), (1, .int x1)]) hx hb dX11_empties_1 rfl hl (by decide) rfl (fun ls hl => ?_)
  obtain ⟨k_1, hf⟩ := hf
  exact (LP k_1) _ u _ _ ls hf hP hD hS (lv_sub hl [1, 2, 0] rfl)
/-- a level's entries emptied, the first i numbers -/
def mWp (m : Nat → Int32) (t i : Nat) : Nat → Int32 := fun j => if 3102 + 384 * t ≤ j ∧ j < 3102 + 384 * t + i then 0 else m j
def s_X11_empties (u : zModel) (x1 : Int32) (Q : zModel → Prop) : Prop := ∃ t : Nat, t < 6 ∧ x1 = nI t ∧ Q (u.1, mWp u.2.1 t 384, u.2.2)
theorem st_X11_empties {u : zModel} {x1 : Int32} {Q : zModel → Prop} (h : s_X11_empties u x1 Q) : v_X11_empties u x1 Q := by
  obtain ⟨t, ht, rfl, h⟩ := h
  have e0 : (u.1, mWp u.2.1 t 0, u.2.2) = u := by
    rw [show mWp u.2.1 t 0 = u.2.1 from funext fun j => if_neg (by omega)]
  refine zlp2 (T := fun y z K => t_X11_empties_2 (nI t) y z K Q) (E := fun K => t_X11_empties_e u (nI t) K Q) 384 (fun i => nI i) (fun i => (u.1, mWp u.2.1 t i, u.2.2)) (fun K hK => ?_) ?_ ?_
  · have hK : K (nI 0) (u.1, mWp u.2.1 t 0, u.2.2) := hK
    rw [e0] at hK
    exact hK
  · intro i hi K hK
    refine ⟨fun c => absurd c (nI_ge (b := 384) hi (by decide)), fun _ => ?_⟩
    unfold s_X11_entryAt
    rw [n_lit0, ix_ent]
    dsimp only
    rw [nI_add, nI_clamp (by omega)]
    refine ⟨vp_in_nI (by omega) (by decide), fun f e x e' => ?_⟩
    rw [e', nI_1, e]
    have : upd (mWp u.2.1 t i) (3102 + 6 * (64 * t + 0) + i) (nI 0) = mWp u.2.1 t (i + 1) := by
      funext j
      unfold upd mWp
      repeat' split
      all_goals first | rfl | (exfalso; omega)
    rw [this]; exact hK
  · intro K
    exact ⟨fun _ => h, fun c => absurd (nI_le (a := 384) (Nat.le_refl 384) (by decide)) c⟩
theorem c_X11_empties (l : Launch) (dC : Nat → ClassId) (dI : Nat → Nat → Nat) (cI cJ cS : ClassId) (a : Nat → Nat) (u : zModel) (x1 : Int32) (Q : zModel → Prop) (hf : s_X11_empties u x1 Q) : ∀ sz : Nat, Met l yX11_empties (Cond.code yX11_empties cX11_empties 3 none :: zT) rm_X11_empties (zPm dC dI cI cJ cS (cl_X11 cI cJ a u) [.ref (a 0), .int x1] sz) (va_Qv Q (zB dC dI cI cJ cS (va_A (cl_X11 cI cJ a u) sz) (fun z => cl_X11 cI cJ a z)) (va_A (cl_X11 cI cJ a u) sz)) 0 0 (va_A (cl_X11 cI cJ a u) sz) := by
  obtain ⟨I2, h2, hf⟩ := st_X11_empties hf
  exact L_X11_empties l dC dI cI cJ cS a u x1 Q I2 h2 hf

def t_X11_copies_e (u : zModel) (x1 : Int32) (x2 : Int32) (x3 : Int32) (K3 : Int32 → zModel → Prop) (Q : zModel → Prop) : Prop := K3 (0 : Int32) u
def t_X11_copies_3 (x1 : Int32) (x2 : Int32) (x3 : Int32) (y4 : Int32) (z : zModel) (K3 : Int32 → zModel → Prop) (Q : zModel → Prop) : Prop := (((6 : Int32) ≤ y4 → Q z) ∧ (¬ (6 : Int32) ≤ y4 → s_X11_entryAt x2 x3 (fun r_3 : Int32 => s_X11_entryAt x1 x3 (fun r_4 : Int32 => vp_in (r_4 + y4) 5497 ∧ vp_in (r_3 + y4) 5497 ∧ ∀ f_5 : Nat → Int32, f_5 = upd z.2.1 (r_3 + y4).toNatClampNeg (z.2.1 (r_4 + y4).toNatClampNeg) → ∀ x_6 : Int32, x_6 = y4 + (1 : Int32) → K3 x_6 (z.1, f_5, z.2.2)))))
theorem zc_X11_copies : zCalV RX11 yX11_copies cX11_copies 5 none 3 := ⟨q_im_X11_copies, q_se_X11_copies, q_in_X11, q_cd_X11_copies, ⟨by decide, by decide, by decide +kernel⟩, rfl⟩
abbrev rm_X11_copies : Room := { frames := 1, cells := 0, slots := 0, locals := 21 }
def v_X11_copies (u : zModel) (x1 : Int32) (x2 : Int32) (x3 : Int32) (Q : zModel → Prop) : Prop := ∃ I3 : Nat → Int32 → zModel → Prop, (∀ (n : Nat) (y4 : Int32) (z : zModel), I3 n y4 z → t_X11_copies_3 x1 x2 x3 y4 z (fun q0 q1 => ∃ k : Nat, k < n ∧ I3 k q0 q1) Q) ∧ t_X11_copies_e u x1 x2 x3 (fun q0 q1 => ∃ k : Nat, I3 k q0 q1) Q
set_option maxHeartbeats 4000000 in
set_option maxRecDepth 100000 in
theorem L_X11_copies (l : Launch) (dC : Nat → ClassId) (dI : Nat → Nat → Nat) (cI cJ cS : ClassId) (a : Nat → Nat) (u : zModel) (x1 : Int32) (x2 : Int32) (x3 : Int32) (Q : zModel → Prop) (I3 : Nat → Int32 → zModel → Prop) (h3 : ∀ (n : Nat) (y4 : Int32) (z : zModel), I3 n y4 z → t_X11_copies_3 x1 x2 x3 y4 z (fun q0 q1 => ∃ k : Nat, k < n ∧ I3 k q0 q1) Q) (hf : t_X11_copies_e u x1 x2 x3 (fun q0 q1 => ∃ k : Nat, I3 k q0 q1) Q) : ∀ sz : Nat, Met l yX11_copies (Cond.code yX11_copies cX11_copies 5 none :: zT) rm_X11_copies (zPm dC dI cI cJ cS (cl_X11 cI cJ a u) [.ref (a 0), .int x1, .int x2, .int x3] sz) (va_Qv Q (zB dC dI cI cJ cS (va_A (cl_X11 cI cJ a u) sz) (fun z => cl_X11 cI cJ a z)) (va_A (cl_X11 cI cJ a u) sz)) 0 0 (va_A (cl_X11 cI cJ a u) sz) := by
  intro sz
  refine z_enterM (Qc := fun A => va_Qv Q (zB dC dI cI cJ cS A (fun z => cl_X11 cI cJ a z)) A) (cc := cX11_copies) (maxL := 5) (ret := none) (by decide) (Nat.le_of_ble_eq_true rfl) ?_
  intro p e s m below meth c ls A X hP hD hS hA hl
  obtain ⟨⟨hx, hb, hml, hown, hts⟩, hr, hlk, hK⟩ := id X
  have hl : lv_has ls 5 [(0, .ref (a 0)), (1, .int x1), (2, .int x2), (3, .int x3)] := hl
  have LP : ∀ n : Nat, (∀ (y4 : Int32) (z : zModel) (H : Heap) (locs : List Loc) (ls : Array Slot), I3 n y4 z → va_P (dC, dI) vwCl (cl_X11 cI cJ a z) H → va_D A (cl_X11 cI cJ a z) → va_S A s.heap H locs → lv_has ls 5 [(0, .ref (a 0)), (1, .int x1), (2, .int x2), (3, .int x3), (4, .int y4)] → W p l e rm_X11_copies s m [.ref (a 0), .int x1, .int x2, .int x3].toArray below meth c H locs 0 0 (MQ below (va_Qv Q (zB dC dI cI cJ cS A (fun z => cl_X11 cI cJ a z)) A) [.ref (a 0), .int x1, .int x2, .int x3].toArray s 0 0 A) (F0 m 3 ls [])) := by
    intro n
    induction n using Nat.strongRecOn with
    | _ n ih =>
      intro y4 z H locs ls hI hP hD hS hl
      have hf := h3 n y4 z hI
      unfold t_X11_copies_3 at hf
      refine lv_iload hx hb dX11_copies_3 (lv_at hl 4 rfl) ?_
      refine lv_bipush (v := 6) hx hb dX11_copies_5 (by decide) ?_
      refine lv_icmp_ge (tgt := 42) hx hb dX11_copies_7 (by decide) (fun c_2 => ?_) (fun c_2 => ?_)
      · have hf := hf.1 c_2
        exact z_retMv (Wf := (fun z => cl_X11 cI cJ a z)) (u := z) X hf hP hD hS dX11_copies_42
      · have hf := hf.2 c_2
        refine lv_aload_n hx hb dX11_copies_10 rfl (lv_at hl 0 rfl) ?_
        refine va_get (D := (dC, dI)) (ci := 10) (v := .ref (a 1)) (C := RX11) (T := TX11) (N := 17) hx hb hts inX11 hown hK hP 0 rfl rfl 1 (by decide) (hts _ q_fl_X11_7) (fun _ h9 => h9) rfl dX11_copies_11 ?_
        refine lv_iload_n hx hb dX11_copies_14 rfl (lv_at hl 2 rfl) ?_
        refine lv_iload_n hx hb dX11_copies_15 rfl (lv_at hl 3 rfl) ?_
        refine z_cSi (As := [.int x2, .int x3]) (rest := [.ref (a 1)]) X (c_X11_entryAt l dC dI cI cJ cS   x2 x3 _ hf) zc_X11_entryAt q_ml_X11_63 ⟨rfl, rfl⟩ ⟨Nat.le_of_ble_eq_true rfl, Nat.le_of_ble_eq_true rfl⟩ hP [] rfl hl.1 rfl rfl (Nat.le_of_ble_eq_true rfl) ⟨Nat.zero_le _, Nat.zero_le _⟩ dX11_copies_16 (fun r_3 hf => ?_)
        refine lv_iload hx hb dX11_copies_19 (lv_at hl 4 rfl) ?_
        refine lv_iadd hx hb dX11_copies_21 ?_
        refine lv_aload_n hx hb dX11_copies_22 rfl (lv_at hl 0 rfl) ?_
        refine va_get (D := (dC, dI)) (ci := 10) (v := .ref (a 1)) (C := RX11) (T := TX11) (N := 17) hx hb hts inX11 hown hK hP 0 rfl rfl 1 (by decide) (hts _ q_fl_X11_7) (fun _ h9 => h9) rfl dX11_copies_23 ?_
        refine lv_iload_n hx hb dX11_copies_26 rfl (lv_at hl 1 rfl) ?_
        refine lv_iload_n hx hb dX11_copies_27 rfl (lv_at hl 3 rfl) ?_
        refine z_cSi (As := [.int x1, .int x3]) (rest := [.ref (a 1), .int (r_3 + y4), .ref (a 1)]) X (c_X11_entryAt l dC dI cI cJ cS   x1 x3 _ hf) zc_X11_entryAt q_ml_X11_63 ⟨rfl, rfl⟩ ⟨Nat.le_of_ble_eq_true rfl, Nat.le_of_ble_eq_true rfl⟩ hP [] rfl hl.1 rfl rfl (Nat.le_of_ble_eq_true rfl) ⟨Nat.zero_le _, Nat.zero_le _⟩ dX11_copies_28 (fun r_4 hf => ?_)
        refine lv_iload hx hb dX11_copies_31 (lv_at hl 4 rfl) ?_
        refine lv_iadd hx hb dX11_copies_33 ?_
        obtain ⟨hg, hf⟩ := hf
        refine va_iald hx hb hK hP 1 0 rfl rfl hg dX11_copies_34 ?_
        obtain ⟨hg, hf⟩ := hf
        refine z_iast (Wn := fun f_5 => cl_X11 cI cJ a (z.1, f_5, z.2.2)) X hP hD hS 1 0 rfl rfl hg (fun _ => rfl) dX11_copies_35 (fun f_5 H locs ef_5 hP hD hS => ?_)
        have hf := hf f_5 ef_5
        obtain ⟨x_6, ex_6⟩ : ∃ y : Int32, y = y4 + (1 : Int32) := ⟨_, rfl⟩
        have hf := hf x_6 ex_6
        refine lv_iinc (v := x_6) (lv' := [(4, .int x_6), (0, .ref (a 0)), (1, .int x1), (2, .int x2), (3, .int x3)]) hx hb dX11_copies_36 hl (k := 4) rfl (by rw [ex_6]; rfl) (by decide) rfl (fun ls hl => ?_)
        refine lv_goto (tgt := 3) hx hb dX11_copies_39 (by decide) ?_
        obtain ⟨k_7, hk_7, hf⟩ := hf
        exact (ih k_7 hk_7) _ (z.1, f_5, z.2.2) _ _ ls hf hP hD hS (lv_sub hl [1, 2, 3, 4, 0] rfl)
  unfold t_X11_copies_e at hf
  refine lv_iconst (v := 0) hx hb dX11_copies_0 (by decide) ?_
  refine lv_istore (lv' := [(4, .int (0 : Int32)), (0, .ref (a 0)), (1, .int x1), (2, .int x2), (3, .int x3)]) hx hb dX11_copies_1 hl (by decide) rfl (fun ls hl => ?_)
  obtain ⟨k_1, hf⟩ := hf
  exact (LP k_1) _ u _ _ ls hf hP hD hS (lv_sub hl [1, 2, 3, 4, 0] rfl)
/-- an entry copied from a level to another, the first i numbers -/
def mCp (m : Nat → Int32) (a b k i : Nat) : Nat → Int32 := fun j => if 3102 + 6 * (64 * b + k) ≤ j ∧ j < 3102 + 6 * (64 * b + k) + i then m (3102 + 6 * (64 * a + k) + (j - (3102 + 6 * (64 * b + k)))) else m j
def s_X11_copies (u : zModel) (x1 x2 x3 : Int32) (Q : zModel → Prop) : Prop := ∃ a b k : Nat, a < 6 ∧ b < 6 ∧ k < 64 ∧ x1 = nI a ∧ x2 = nI b ∧ x3 = nI k ∧ Q (u.1, mCp u.2.1 a b k 6, u.2.2)
theorem st_X11_copies {u : zModel} {x1 x2 x3 : Int32} {Q : zModel → Prop} (h : s_X11_copies u x1 x2 x3 Q) : v_X11_copies u x1 x2 x3 Q := by
  obtain ⟨a, b, k, ha, hb, hk, rfl, rfl, rfl, h⟩ := h
  have e0 : (u.1, mCp u.2.1 a b k 0, u.2.2) = u := by
    rw [show mCp u.2.1 a b k 0 = u.2.1 from funext fun j => if_neg (by omega)]
  refine zlp2 (T := fun y z K => t_X11_copies_3 (nI a) (nI b) (nI k) y z K Q) (E := fun K => t_X11_copies_e u (nI a) (nI b) (nI k) K Q) 6 (fun i => nI i) (fun i => (u.1, mCp u.2.1 a b k i, u.2.2)) (fun K hK => ?_) ?_ ?_
  · have hK : K (nI 0) (u.1, mCp u.2.1 a b k 0, u.2.2) := hK
    rw [e0] at hK
    exact hK
  · intro i hi K hK
    refine ⟨fun c => absurd c (ge6 hi), fun _ => ?_⟩
    unfold s_X11_entryAt
    rw [ix_ent, ix_ent]
    dsimp only
    rw [nI_add, nI_add, nI_clamp (by omega), nI_clamp (by omega)]
    refine ⟨vp_in_nI (by omega) (by decide), vp_in_nI (by omega) (by decide), fun f e x e' => ?_⟩
    rw [e', nI_1, e]
    have : upd (mCp u.2.1 a b k i) (3102 + 6 * (64 * b + k) + i) (mCp u.2.1 a b k i (3102 + 6 * (64 * a + k) + i)) = mCp u.2.1 a b k (i + 1) := by
      have e1 : mCp u.2.1 a b k i (3102 + 6 * (64 * a + k) + i) = u.2.1 (3102 + 6 * (64 * a + k) + i) := if_neg (by omega)
      rw [e1]
      funext j
      unfold upd mCp
      by_cases hj : j = 3102 + 6 * (64 * b + k) + i
      · rw [if_pos hj, if_pos (by omega), show j - (3102 + 6 * (64 * b + k)) = i by omega]
      · rw [if_neg hj]
        by_cases h2 : 3102 + 6 * (64 * b + k) ≤ j ∧ j < 3102 + 6 * (64 * b + k) + i
        · rw [if_pos h2, if_pos (by omega)]
        · rw [if_neg h2, if_neg (by omega)]
    rw [this]; exact hK
  · intro K
    exact ⟨fun _ => h, fun c => absurd (le6 (Nat.le_refl 6) (by decide)) c⟩
theorem c_X11_copies (l : Launch) (dC : Nat → ClassId) (dI : Nat → Nat → Nat) (cI cJ cS : ClassId) (a : Nat → Nat) (u : zModel) (x1 : Int32) (x2 : Int32) (x3 : Int32) (Q : zModel → Prop) (hf : s_X11_copies u x1 x2 x3 Q) : ∀ sz : Nat, Met l yX11_copies (Cond.code yX11_copies cX11_copies 5 none :: zT) rm_X11_copies (zPm dC dI cI cJ cS (cl_X11 cI cJ a u) [.ref (a 0), .int x1, .int x2, .int x3] sz) (va_Qv Q (zB dC dI cI cJ cS (va_A (cl_X11 cI cJ a u) sz) (fun z => cl_X11 cI cJ a z)) (va_A (cl_X11 cI cJ a u) sz)) 0 0 (va_A (cl_X11 cI cJ a u) sz) := by
  obtain ⟨I3, h3, hf⟩ := st_X11_copies hf
  exact L_X11_copies l dC dI cI cJ cS a u x1 x2 x3 Q I3 h3 hf

def t_X11_enters (u : zModel) (x1 : Int32) (x2 : Int32) (Q : zModel → Prop) : Prop := s_X11_recordAt x1 x2 (fun r_1 : Int32 => vp_in (r_1 + (0 : Int32)) 5497 ∧ s_X11_entryAt (0 : Int32) (u.2.1 (r_1 + (0 : Int32)).toNatClampNeg) (fun r_2 : Int32 => vp_in (r_1 + (1 : Int32)) 5497 ∧ ∀ x_3 : Int32, x_3 = (u.2.1 (r_1 + (1 : Int32)).toNatClampNeg) → vp_in (r_1 + (3 : Int32)) 5497 ∧ vp_in (r_2 + (0 : Int32)) 5497 ∧ ∀ f_4 : Nat → Int32, f_4 = upd u.2.1 (r_2 + (0 : Int32)).toNatClampNeg (u.2.1 (r_1 + (3 : Int32)).toNatClampNeg) → ((¬ x_3 = (-1 : Int32) → vp_in (1 : Int32) 5497 ∧ (((f_4 (1 : Int32).toNatClampNeg) < x_3 → vp_in (r_2 + (1 : Int32)) 5497 ∧ ∀ f_7 : Nat → Int32, f_7 = upd f_4 (r_2 + (1 : Int32)).toNatClampNeg (3 : Int32) → vp_in (r_2 + (2 : Int32)) 5497 ∧ ∀ f_8 : Nat → Int32, f_8 = upd f_7 (r_2 + (2 : Int32)).toNatClampNeg x_3 → vp_in (r_1 + (2 : Int32)) 5497 ∧ vp_in (r_2 + (3 : Int32)) 5497 ∧ ∀ f_9 : Nat → Int32, f_9 = upd f_8 (r_2 + (3 : Int32)).toNatClampNeg (f_8 (r_1 + (2 : Int32)).toNatClampNeg) → vp_in (r_2 + (4 : Int32)) 5497 ∧ ∀ f_10 : Nat → Int32, f_10 = upd f_9 (r_2 + (4 : Int32)).toNatClampNeg x1 → vp_in (r_1 + (4 : Int32)) 5497 ∧ vp_in (r_2 + (5 : Int32)) 5497 ∧ ∀ f_11 : Nat → Int32, f_11 = upd f_10 (r_2 + (5 : Int32)).toNatClampNeg (f_10 (r_1 + (4 : Int32)).toNatClampNeg) → Q (u.1, f_11, u.2.2)) ∧ (¬ (f_4 (1 : Int32).toNatClampNeg) < x_3 → vp_in (r_2 + (1 : Int32)) 5497 ∧ ∀ f_12 : Nat → Int32, f_12 = upd f_4 (r_2 + (1 : Int32)).toNatClampNeg (2 : Int32) → vp_in (r_2 + (2 : Int32)) 5497 ∧ ∀ f_13 : Nat → Int32, f_13 = upd f_12 (r_2 + (2 : Int32)).toNatClampNeg x_3 → vp_in (r_1 + (2 : Int32)) 5497 ∧ vp_in (r_2 + (3 : Int32)) 5497 ∧ ∀ f_14 : Nat → Int32, f_14 = upd f_13 (r_2 + (3 : Int32)).toNatClampNeg (f_13 (r_1 + (2 : Int32)).toNatClampNeg) → vp_in (r_2 + (4 : Int32)) 5497 ∧ ∀ f_15 : Nat → Int32, f_15 = upd f_14 (r_2 + (4 : Int32)).toNatClampNeg x1 → vp_in (r_1 + (4 : Int32)) 5497 ∧ vp_in (r_2 + (5 : Int32)) 5497 ∧ ∀ f_16 : Nat → Int32, f_16 = upd f_15 (r_2 + (5 : Int32)).toNatClampNeg (f_15 (r_1 + (4 : Int32)).toNatClampNeg) → Q (u.1, f_16, u.2.2)))) ∧ (x_3 = (-1 : Int32) → vp_in (r_2 + (1 : Int32)) 5497 ∧ ∀ f_17 : Nat → Int32, f_17 = upd f_4 (r_2 + (1 : Int32)).toNatClampNeg (1 : Int32) → vp_in (r_2 + (2 : Int32)) 5497 ∧ ∀ f_18 : Nat → Int32, f_18 = upd f_17 (r_2 + (2 : Int32)).toNatClampNeg x_3 → vp_in (r_1 + (2 : Int32)) 5497 ∧ vp_in (r_2 + (3 : Int32)) 5497 ∧ ∀ f_19 : Nat → Int32, f_19 = upd f_18 (r_2 + (3 : Int32)).toNatClampNeg (f_18 (r_1 + (2 : Int32)).toNatClampNeg) → vp_in (r_2 + (4 : Int32)) 5497 ∧ ∀ f_20 : Nat → Int32, f_20 = upd f_19 (r_2 + (4 : Int32)).toNatClampNeg x1 → vp_in (r_1 + (4 : Int32)) 5497 ∧ vp_in (r_2 + (5 : Int32)) 5497 ∧ ∀ f_21 : Nat → Int32, f_21 = upd f_20 (r_2 + (5 : Int32)).toNatClampNeg (f_20 (r_1 + (4 : Int32)).toNatClampNeg) → Q (u.1, f_21, u.2.2)))))
theorem zc_X11_enters : zCalV RX11 yX11_enters cX11_enters 6 none 2 := ⟨q_im_X11_enters, q_se_X11_enters, q_in_X11, q_cd_X11_enters, ⟨by decide, by decide, by decide +kernel⟩, rfl⟩
abbrev rm_X11_enters : Room := { frames := 1, cells := 0, slots := 0, locals := 21 }
set_option maxHeartbeats 4000000 in
set_option maxRecDepth 100000 in
theorem L_X11_enters (l : Launch) (dC : Nat → ClassId) (dI : Nat → Nat → Nat) (cI cJ cS : ClassId) (a : Nat → Nat) (u : zModel) (x1 : Int32) (x2 : Int32) (Q : zModel → Prop) (hf : t_X11_enters u x1 x2 Q) : ∀ sz : Nat, Met l yX11_enters (Cond.code yX11_enters cX11_enters 6 none :: zT) rm_X11_enters (zPm dC dI cI cJ cS (cl_X11 cI cJ a u) [.ref (a 0), .int x1, .int x2] sz) (va_Qv Q (zB dC dI cI cJ cS (va_A (cl_X11 cI cJ a u) sz) (fun z => cl_X11 cI cJ a z)) (va_A (cl_X11 cI cJ a u) sz)) 0 0 (va_A (cl_X11 cI cJ a u) sz) := by
  intro sz
  refine z_enterM (Qc := fun A => va_Qv Q (zB dC dI cI cJ cS A (fun z => cl_X11 cI cJ a z)) A) (cc := cX11_enters) (maxL := 6) (ret := none) (by decide) (Nat.le_of_ble_eq_true rfl) ?_
  intro p e s m below meth c ls A X hP hD hS hA hl
  obtain ⟨⟨hx, hb, hml, hown, hts⟩, hr, hlk, hK⟩ := id X
  have hl : lv_has ls 6 [(0, .ref (a 0)), (1, .int x1), (2, .int x2)] := hl
  unfold t_X11_enters at hf
  refine lv_iload_n hx hb dX11_enters_0 rfl (lv_at hl 1 rfl) ?_
  refine lv_iload_n hx hb dX11_enters_1 rfl (lv_at hl 2 rfl) ?_
  refine z_cSi (As := [.int x1, .int x2]) (rest := []) X (c_X11_recordAt l dC dI cI cJ cS   x1 x2 _ hf) zc_X11_recordAt q_ml_X11_46 ⟨rfl, rfl⟩ ⟨Nat.le_of_ble_eq_true rfl, Nat.le_of_ble_eq_true rfl⟩ hP [] rfl hl.1 rfl rfl (Nat.le_of_ble_eq_true rfl) ⟨Nat.zero_le _, Nat.zero_le _⟩ dX11_enters_2 (fun r_1 hf => ?_)
  refine lv_istore_n (lv' := [(3, .int r_1), (0, .ref (a 0)), (1, .int x1), (2, .int x2)]) hx hb dX11_enters_5 rfl hl (by decide) rfl (fun ls hl => ?_)
  refine lv_iconst (v := 0) hx hb dX11_enters_6 (by decide) ?_
  refine lv_aload_n hx hb dX11_enters_7 rfl (lv_at hl 1 rfl) ?_
  refine va_get (D := (dC, dI)) (ci := 10) (v := .ref (a 1)) (C := RX11) (T := TX11) (N := 17) hx hb hts inX11 hown hK hP 0 rfl rfl 1 (by decide) (hts _ q_fl_X11_7) (fun _ h9 => h9) rfl dX11_enters_8 ?_
  refine lv_iload_n hx hb dX11_enters_11 rfl (lv_at hl 0 rfl) ?_
  refine lv_iconst (v := 0) hx hb dX11_enters_12 (by decide) ?_
  refine lv_iadd hx hb dX11_enters_13 ?_
  obtain ⟨hg, hf⟩ := hf
  refine va_iald hx hb hK hP 1 0 rfl rfl hg dX11_enters_14 ?_
  refine z_cSi (As := [.int (0 : Int32), .int (u.2.1 (r_1 + (0 : Int32)).toNatClampNeg)]) (rest := []) X (c_X11_entryAt l dC dI cI cJ cS   (0 : Int32) (u.2.1 (r_1 + (0 : Int32)).toNatClampNeg) _ hf) zc_X11_entryAt q_ml_X11_63 ⟨rfl, rfl⟩ ⟨Nat.le_of_ble_eq_true rfl, Nat.le_of_ble_eq_true rfl⟩ hP [] rfl hl.1 rfl rfl (Nat.le_of_ble_eq_true rfl) ⟨Nat.zero_le _, Nat.zero_le _⟩ dX11_enters_15 (fun r_2 hf => ?_)
  refine lv_istore (lv' := [(4, .int r_2), (3, .int r_1), (0, .ref (a 0)), (1, .int x1), (2, .int x2)]) hx hb dX11_enters_18 hl (by decide) rfl (fun ls hl => ?_)
  refine lv_aload_n hx hb dX11_enters_20 rfl (lv_at hl 2 rfl) ?_
  refine va_get (D := (dC, dI)) (ci := 10) (v := .ref (a 1)) (C := RX11) (T := TX11) (N := 17) hx hb hts inX11 hown hK hP 0 rfl rfl 1 (by decide) (hts _ q_fl_X11_7) (fun _ h9 => h9) rfl dX11_enters_21 ?_
  refine lv_iload_n hx hb dX11_enters_24 rfl (lv_at hl 1 rfl) ?_
  refine lv_iconst (v := 1) hx hb dX11_enters_25 (by decide) ?_
  refine lv_iadd hx hb dX11_enters_26 ?_
  obtain ⟨hg, hf⟩ := hf
  refine va_iald hx hb hK hP 1 0 rfl rfl hg dX11_enters_27 ?_
  refine lv_topi (fun x_3 ex_3 => ?_)
  have hf := hf x_3 ex_3
  refine lv_istore (lv' := [(5, .int x_3), (4, .int r_2), (3, .int r_1), (0, .ref (a 0)), (1, .int x1), (2, .int x2)]) hx hb dX11_enters_28 hl (by decide) rfl (fun ls hl => ?_)
  refine lv_aload_n hx hb dX11_enters_30 rfl (lv_at hl 3 rfl) ?_
  refine va_get (D := (dC, dI)) (ci := 10) (v := .ref (a 1)) (C := RX11) (T := TX11) (N := 17) hx hb hts inX11 hown hK hP 0 rfl rfl 1 (by decide) (hts _ q_fl_X11_7) (fun _ h9 => h9) rfl dX11_enters_31 ?_
  refine lv_iload hx hb dX11_enters_34 (lv_at hl 1 rfl) ?_
  refine lv_iconst (v := 0) hx hb dX11_enters_36 (by decide) ?_
  refine lv_iadd hx hb dX11_enters_37 ?_
  refine lv_aload_n hx hb dX11_enters_38 rfl (lv_at hl 3 rfl) ?_
  refine va_get (D := (dC, dI)) (ci := 10) (v := .ref (a 1)) (C := RX11) (T := TX11) (N := 17) hx hb hts inX11 hown hK hP 0 rfl rfl 1 (by decide) (hts _ q_fl_X11_7) (fun _ h9 => h9) rfl dX11_enters_39 ?_
  refine lv_iload_n hx hb dX11_enters_42 rfl (lv_at hl 2 rfl) ?_
  refine lv_iconst (v := 3) hx hb dX11_enters_43 (by decide) ?_
  refine lv_iadd hx hb dX11_enters_44 ?_
  obtain ⟨hg, hf⟩ := hf
  refine va_iald hx hb hK hP 1 0 rfl rfl hg dX11_enters_45 ?_
  obtain ⟨hg, hf⟩ := hf
  refine z_iast (Wn := fun f_4 => cl_X11 cI cJ a (u.1, f_4, u.2.2)) X hP hD hS 1 0 rfl rfl hg (fun _ => rfl) dX11_enters_46 (fun f_4 H locs ef_4 hP hD hS => ?_)
  have hf := hf f_4 ef_4
  refine lv_aload_n hx hb dX11_enters_47 rfl (lv_at hl 3 rfl) ?_
  refine va_get (D := (dC, dI)) (ci := 10) (v := .ref (a 1)) (C := RX11) (T := TX11) (N := 17) hx hb hts inX11 hown hK hP 0 rfl rfl 1 (by decide) (hts _ q_fl_X11_7) (fun _ h9 => h9) rfl dX11_enters_48 ?_
  refine lv_iload hx hb dX11_enters_51 (lv_at hl 1 rfl) ?_
  refine lv_iconst (v := 1) hx hb dX11_enters_53 (by decide) ?_
  refine lv_iadd hx hb dX11_enters_54 ?_
  refine lv_iload hx hb dX11_enters_55 (lv_at hl 0 rfl) ?_
  refine lv_iconst (v := (-1)) hx hb dX11_enters_57 (by decide) ?_
  refine lv_icmp_ne (tgt := 65) hx hb dX11_enters_58 (by decide) (fun c_5 => ?_) (fun c_5 => ?_)
  · have hf := hf.1 c_5
    refine lv_iload hx hb dX11_enters_65 (lv_at hl 0 rfl) ?_
    refine lv_aload_n hx hb dX11_enters_67 rfl (lv_at hl 3 rfl) ?_
    refine va_get (D := (dC, dI)) (ci := 10) (v := .ref (a 1)) (C := RX11) (T := TX11) (N := 17) hx hb hts inX11 hown hK hP 0 rfl rfl 1 (by decide) (hts _ q_fl_X11_7) (fun _ h9 => h9) rfl dX11_enters_68 ?_
    refine lv_iconst (v := 1) hx hb dX11_enters_71 (by decide) ?_
    obtain ⟨hg, hf⟩ := hf
    refine va_iald hx hb hK hP 1 0 rfl rfl hg dX11_enters_72 ?_
    refine lv_icmp_gt (tgt := 80) hx hb dX11_enters_73 (by decide) (fun c_6 => ?_) (fun c_6 => ?_)
    · have hf := hf.1 c_6
      refine lv_iconst (v := 3) hx hb dX11_enters_80 (by decide) ?_
      obtain ⟨hg, hf⟩ := hf
      refine z_iast (Wn := fun f_7 => cl_X11 cI cJ a (u.1, f_7, u.2.2)) X hP hD hS 1 0 rfl rfl hg (fun _ => rfl) dX11_enters_81 (fun f_7 H locs ef_7 hP hD hS => ?_)
      have hf := hf f_7 ef_7
      refine lv_aload_n hx hb dX11_enters_82 rfl (lv_at hl 3 rfl) ?_
      refine va_get (D := (dC, dI)) (ci := 10) (v := .ref (a 1)) (C := RX11) (T := TX11) (N := 17) hx hb hts inX11 hown hK hP 0 rfl rfl 1 (by decide) (hts _ q_fl_X11_7) (fun _ h9 => h9) rfl dX11_enters_83 ?_
      refine lv_iload hx hb dX11_enters_86 (lv_at hl 1 rfl) ?_
      refine lv_iconst (v := 2) hx hb dX11_enters_88 (by decide) ?_
      refine lv_iadd hx hb dX11_enters_89 ?_
      refine lv_iload hx hb dX11_enters_90 (lv_at hl 0 rfl) ?_
      obtain ⟨hg, hf⟩ := hf
      refine z_iast (Wn := fun f_8 => cl_X11 cI cJ a (u.1, f_8, u.2.2)) X hP hD hS 1 0 rfl rfl hg (fun _ => rfl) dX11_enters_92 (fun f_8 H locs ef_8 hP hD hS => ?_)
      have hf := hf f_8 ef_8
      refine lv_aload_n hx hb dX11_enters_93 rfl (lv_at hl 3 rfl) ?_
      refine va_get (D := (dC, dI)) (ci := 10) (v := .ref (a 1)) (C := RX11) (T := TX11) (N := 17) hx hb hts inX11 hown hK hP 0 rfl rfl 1 (by decide) (hts _ q_fl_X11_7) (fun _ h9 => h9) rfl dX11_enters_94 ?_
      refine lv_iload hx hb dX11_enters_97 (lv_at hl 1 rfl) ?_
      refine lv_iconst (v := 3) hx hb dX11_enters_99 (by decide) ?_
      refine lv_iadd hx hb dX11_enters_100 ?_
      refine lv_aload_n hx hb dX11_enters_101 rfl (lv_at hl 3 rfl) ?_
      refine va_get (D := (dC, dI)) (ci := 10) (v := .ref (a 1)) (C := RX11) (T := TX11) (N := 17) hx hb hts inX11 hown hK hP 0 rfl rfl 1 (by decide) (hts _ q_fl_X11_7) (fun _ h9 => h9) rfl dX11_enters_102 ?_
      refine lv_iload_n hx hb dX11_enters_105 rfl (lv_at hl 2 rfl) ?_
      refine lv_iconst (v := 2) hx hb dX11_enters_106 (by decide) ?_
      refine lv_iadd hx hb dX11_enters_107 ?_
      obtain ⟨hg, hf⟩ := hf
      refine va_iald hx hb hK hP 1 0 rfl rfl hg dX11_enters_108 ?_
      obtain ⟨hg, hf⟩ := hf
      refine z_iast (Wn := fun f_9 => cl_X11 cI cJ a (u.1, f_9, u.2.2)) X hP hD hS 1 0 rfl rfl hg (fun _ => rfl) dX11_enters_109 (fun f_9 H locs ef_9 hP hD hS => ?_)
      have hf := hf f_9 ef_9
      refine lv_aload_n hx hb dX11_enters_110 rfl (lv_at hl 3 rfl) ?_
      refine va_get (D := (dC, dI)) (ci := 10) (v := .ref (a 1)) (C := RX11) (T := TX11) (N := 17) hx hb hts inX11 hown hK hP 0 rfl rfl 1 (by decide) (hts _ q_fl_X11_7) (fun _ h9 => h9) rfl dX11_enters_111 ?_
      refine lv_iload hx hb dX11_enters_114 (lv_at hl 1 rfl) ?_
      refine lv_iconst (v := 4) hx hb dX11_enters_116 (by decide) ?_
      refine lv_iadd hx hb dX11_enters_117 ?_
      refine lv_iload_n hx hb dX11_enters_118 rfl (lv_at hl 4 rfl) ?_
      obtain ⟨hg, hf⟩ := hf
      refine z_iast (Wn := fun f_10 => cl_X11 cI cJ a (u.1, f_10, u.2.2)) X hP hD hS 1 0 rfl rfl hg (fun _ => rfl) dX11_enters_119 (fun f_10 H locs ef_10 hP hD hS => ?_)
      have hf := hf f_10 ef_10
      refine lv_aload_n hx hb dX11_enters_120 rfl (lv_at hl 3 rfl) ?_
      refine va_get (D := (dC, dI)) (ci := 10) (v := .ref (a 1)) (C := RX11) (T := TX11) (N := 17) hx hb hts inX11 hown hK hP 0 rfl rfl 1 (by decide) (hts _ q_fl_X11_7) (fun _ h9 => h9) rfl dX11_enters_121 ?_
      refine lv_iload hx hb dX11_enters_124 (lv_at hl 1 rfl) ?_
      refine lv_iconst (v := 5) hx hb dX11_enters_126 (by decide) ?_
      refine lv_iadd hx hb dX11_enters_127 ?_
      refine lv_aload_n hx hb dX11_enters_128 rfl (lv_at hl 3 rfl) ?_
      refine va_get (D := (dC, dI)) (ci := 10) (v := .ref (a 1)) (C := RX11) (T := TX11) (N := 17) hx hb hts inX11 hown hK hP 0 rfl rfl 1 (by decide) (hts _ q_fl_X11_7) (fun _ h9 => h9) rfl dX11_enters_129 ?_
      refine lv_iload_n hx hb dX11_enters_132 rfl (lv_at hl 2 rfl) ?_
      refine lv_iconst (v := 4) hx hb dX11_enters_133 (by decide) ?_
      refine lv_iadd hx hb dX11_enters_134 ?_
      obtain ⟨hg, hf⟩ := hf
      refine va_iald hx hb hK hP 1 0 rfl rfl hg dX11_enters_135 ?_
      obtain ⟨hg, hf⟩ := hf
      refine z_iast (Wn := fun f_11 => cl_X11 cI cJ a (u.1, f_11, u.2.2)) X hP hD hS 1 0 rfl rfl hg (fun _ => rfl) dX11_enters_136 (fun f_11 H locs ef_11 hP hD hS => ?_)
      have hf := hf f_11 ef_11
      exact z_retMv (Wf := (fun z => cl_X11 cI cJ a z)) (u := (u.1, f_11, u.2.2)) X hf hP hD hS dX11_enters_137
    · have hf := hf.2 c_6
      refine lv_iconst (v := 2) hx hb dX11_enters_76 (by decide) ?_
      refine lv_goto (tgt := 81) hx hb dX11_enters_77 (by decide) ?_
      obtain ⟨hg, hf⟩ := hf
      refine z_iast (Wn := fun f_12 => cl_X11 cI cJ a (u.1, f_12, u.2.2)) X hP hD hS 1 0 rfl rfl hg (fun _ => rfl) dX11_enters_81 (fun f_12 H locs ef_12 hP hD hS => ?_)
      have hf := hf f_12 ef_12
      refine lv_aload_n hx hb dX11_enters_82 rfl (lv_at hl 3 rfl) ?_
      refine va_get (D := (dC, dI)) (ci := 10) (v := .ref (a 1)) (C := RX11) (T := TX11) (N := 17) hx hb hts inX11 hown hK hP 0 rfl rfl 1 (by decide) (hts _ q_fl_X11_7) (fun _ h9 => h9) rfl dX11_enters_83 ?_
      refine lv_iload hx hb dX11_enters_86 (lv_at hl 1 rfl) ?_
      refine lv_iconst (v := 2) hx hb dX11_enters_88 (by decide) ?_
      refine lv_iadd hx hb dX11_enters_89 ?_
      refine lv_iload hx hb dX11_enters_90 (lv_at hl 0 rfl) ?_
      obtain ⟨hg, hf⟩ := hf
      refine z_iast (Wn := fun f_13 => cl_X11 cI cJ a (u.1, f_13, u.2.2)) X hP hD hS 1 0 rfl rfl hg (fun _ => rfl) dX11_enters_92 (fun f_13 H locs ef_13 hP hD hS => ?_)
      have hf := hf f_13 ef_13
      refine lv_aload_n hx hb dX11_enters_93 rfl (lv_at hl 3 rfl) ?_
      refine va_get (D := (dC, dI)) (ci := 10) (v := .ref (a 1)) (C := RX11) (T := TX11) (N := 17) hx hb hts inX11 hown hK hP 0 rfl rfl 1 (by decide) (hts _ q_fl_X11_7) (fun _ h9 => h9) rfl dX11_enters_94 ?_
      refine lv_iload hx hb dX11_enters_97 (lv_at hl 1 rfl) ?_
      refine lv_iconst (v := 3) hx hb dX11_enters_99 (by decide) ?_
      refine lv_iadd hx hb dX11_enters_100 ?_
      refine lv_aload_n hx hb dX11_enters_101 rfl (lv_at hl 3 rfl) ?_
      refine va_get (D := (dC, dI)) (ci := 10) (v := .ref (a 1)) (C := RX11) (T := TX11) (N := 17) hx hb hts inX11 hown hK hP 0 rfl rfl 1 (by decide) (hts _ q_fl_X11_7) (fun _ h9 => h9) rfl dX11_enters_102 ?_
      refine lv_iload_n hx hb dX11_enters_105 rfl (lv_at hl 2 rfl) ?_
      refine lv_iconst (v := 2) hx hb dX11_enters_106 (by decide) ?_
      refine lv_iadd hx hb dX11_enters_107 ?_
      obtain ⟨hg, hf⟩ := hf
      refine va_iald hx hb hK hP 1 0 rfl rfl hg dX11_enters_108 ?_
      obtain ⟨hg, hf⟩ := hf
      refine z_iast (Wn := fun f_14 => cl_X11 cI cJ a (u.1, f_14, u.2.2)) X hP hD hS 1 0 rfl rfl hg (fun _ => rfl) dX11_enters_109 (fun f_14 H locs ef_14 hP hD hS => ?_)
      have hf := hf f_14 ef_14
      refine lv_aload_n hx hb dX11_enters_110 rfl (lv_at hl 3 rfl) ?_
      refine va_get (D := (dC, dI)) (ci := 10) (v := .ref (a 1)) (C := RX11) (T := TX11) (N := 17) hx hb hts inX11 hown hK hP 0 rfl rfl 1 (by decide) (hts _ q_fl_X11_7) (fun _ h9 => h9) rfl dX11_enters_111 ?_
      refine lv_iload hx hb dX11_enters_114 (lv_at hl 1 rfl) ?_
      refine lv_iconst (v := 4) hx hb dX11_enters_116 (by decide) ?_
      refine lv_iadd hx hb dX11_enters_117 ?_
      refine lv_iload_n hx hb dX11_enters_118 rfl (lv_at hl 4 rfl) ?_
      obtain ⟨hg, hf⟩ := hf
      refine z_iast (Wn := fun f_15 => cl_X11 cI cJ a (u.1, f_15, u.2.2)) X hP hD hS 1 0 rfl rfl hg (fun _ => rfl) dX11_enters_119 (fun f_15 H locs ef_15 hP hD hS => ?_)
      have hf := hf f_15 ef_15
      refine lv_aload_n hx hb dX11_enters_120 rfl (lv_at hl 3 rfl) ?_
      refine va_get (D := (dC, dI)) (ci := 10) (v := .ref (a 1)) (C := RX11) (T := TX11) (N := 17) hx hb hts inX11 hown hK hP 0 rfl rfl 1 (by decide) (hts _ q_fl_X11_7) (fun _ h9 => h9) rfl dX11_enters_121 ?_
      refine lv_iload hx hb dX11_enters_124 (lv_at hl 1 rfl) ?_
      refine lv_iconst (v := 5) hx hb dX11_enters_126 (by decide) ?_
      refine lv_iadd hx hb dX11_enters_127 ?_
      refine lv_aload_n hx hb dX11_enters_128 rfl (lv_at hl 3 rfl) ?_
      refine va_get (D := (dC, dI)) (ci := 10) (v := .ref (a 1)) (C := RX11) (T := TX11) (N := 17) hx hb hts inX11 hown hK hP 0 rfl rfl 1 (by decide) (hts _ q_fl_X11_7) (fun _ h9 => h9) rfl dX11_enters_129 ?_
      refine lv_iload_n hx hb dX11_enters_132 rfl (lv_at hl 2 rfl) ?_
      refine lv_iconst (v := 4) hx hb dX11_enters_133 (by decide) ?_
      refine lv_iadd hx hb dX11_enters_134 ?_
      obtain ⟨hg, hf⟩ := hf
      refine va_iald hx hb hK hP 1 0 rfl rfl hg dX11_enters_135 ?_
      obtain ⟨hg, hf⟩ := hf
      refine z_iast (Wn := fun f_16 => cl_X11 cI cJ a (u.1, f_16, u.2.2)) X hP hD hS 1 0 rfl rfl hg (fun _ => rfl) dX11_enters_136 (fun f_16 H locs ef_16 hP hD hS => ?_)
      have hf := hf f_16 ef_16
      exact z_retMv (Wf := (fun z => cl_X11 cI cJ a z)) (u := (u.1, f_16, u.2.2)) X hf hP hD hS dX11_enters_137
  · have hf := hf.2 c_5
    refine lv_iconst (v := 1) hx hb dX11_enters_61 (by decide) ?_
    refine lv_goto (tgt := 81) hx hb dX11_enters_62 (by decide) ?_
    obtain ⟨hg, hf⟩ := hf
    refine z_iast (Wn := fun f_17 => cl_X11 cI cJ a (u.1, f_17, u.2.2)) X hP hD hS 1 0 rfl rfl hg (fun _ => rfl) dX11_enters_81 (fun f_17 H locs ef_17 hP hD hS => ?_)
    have hf := hf f_17 ef_17
    refine lv_aload_n hx hb dX11_enters_82 rfl (lv_at hl 3 rfl) ?_
    refine va_get (D := (dC, dI)) (ci := 10) (v := .ref (a 1)) (C := RX11) (T := TX11) (N := 17) hx hb hts inX11 hown hK hP 0 rfl rfl 1 (by decide) (hts _ q_fl_X11_7) (fun _ h9 => h9) rfl dX11_enters_83 ?_
    refine lv_iload hx hb dX11_enters_86 (lv_at hl 1 rfl) ?_
    refine lv_iconst (v := 2) hx hb dX11_enters_88 (by decide) ?_
    refine lv_iadd hx hb dX11_enters_89 ?_
    refine lv_iload hx hb dX11_enters_90 (lv_at hl 0 rfl) ?_
    obtain ⟨hg, hf⟩ := hf
    refine z_iast (Wn := fun f_18 => cl_X11 cI cJ a (u.1, f_18, u.2.2)) X hP hD hS 1 0 rfl rfl hg (fun _ => rfl) dX11_enters_92 (fun f_18 H locs ef_18 hP hD hS => ?_)
    have hf := hf f_18 ef_18
    refine lv_aload_n hx hb dX11_enters_93 rfl (lv_at hl 3 rfl) ?_
    refine va_get (D := (dC, dI)) (ci := 10) (v := .ref (a 1)) (C := RX11) (T := TX11) (N := 17) hx hb hts inX11 hown hK hP 0 rfl rfl 1 (by decide) (hts _ q_fl_X11_7) (fun _ h9 => h9) rfl dX11_enters_94 ?_
    refine lv_iload hx hb dX11_enters_97 (lv_at hl 1 rfl) ?_
    refine lv_iconst (v := 3) hx hb dX11_enters_99 (by decide) ?_
    refine lv_iadd hx hb dX11_enters_100 ?_
    refine lv_aload_n hx hb dX11_enters_101 rfl (lv_at hl 3 rfl) ?_
    refine va_get (D := (dC, dI)) (ci := 10) (v := .ref (a 1)) (C := RX11) (T := TX11) (N := 17) hx hb hts inX11 hown hK hP 0 rfl rfl 1 (by decide) (hts _ q_fl_X11_7) (fun _ h9 => h9) rfl dX11_enters_102 ?_
    refine lv_iload_n hx hb dX11_enters_105 rfl (lv_at hl 2 rfl) ?_
    refine lv_iconst (v := 2) hx hb dX11_enters_106 (by decide) ?_
    refine lv_iadd hx hb dX11_enters_107 ?_
    obtain ⟨hg, hf⟩ := hf
    refine va_iald hx hb hK hP 1 0 rfl rfl hg dX11_enters_108 ?_
    obtain ⟨hg, hf⟩ := hf
    refine z_iast (Wn := fun f_19 => cl_X11 cI cJ a (u.1, f_19, u.2.2)) X hP hD hS 1 0 rfl rfl hg (fun _ => rfl) dX11_enters_109 (fun f_19 H locs ef_19 hP hD hS => ?_)
    have hf := hf f_19 ef_19
    refine lv_aload_n hx hb dX11_enters_110 rfl (lv_at hl 3 rfl) ?_
    refine va_get (D := (dC, dI)) (ci := 10) (v := .ref (a 1)) (C := RX11) (T := TX11) (N := 17) hx hb hts inX11 hown hK hP 0 rfl rfl 1 (by decide) (hts _ q_fl_X11_7) (fun _ h9 => h9) rfl dX11_enters_111 ?_
    refine lv_iload hx hb dX11_enters_114 (lv_at hl 1 rfl) ?_
    refine lv_iconst (v := 4) hx hb dX11_enters_116 (by decide) ?_
    refine lv_iadd hx hb dX11_enters_117 ?_
    refine lv_iload_n hx hb dX11_enters_118 rfl (lv_at hl 4 rfl) ?_
    obtain ⟨hg, hf⟩ := hf
    refine z_iast (Wn := fun f_20 => cl_X11 cI cJ a (u.1, f_20, u.2.2)) X hP hD hS 1 0 rfl rfl hg (fun _ => rfl) dX11_enters_119 (fun f_20 H locs ef_20 hP hD hS => ?_)
    have hf := hf f_20 ef_20
    refine lv_aload_n hx hb dX11_enters_120 rfl (lv_at hl 3 rfl) ?_
    refine va_get (D := (dC, dI)) (ci := 10) (v := .ref (a 1)) (C := RX11) (T := TX11) (N := 17) hx hb hts inX11 hown hK hP 0 rfl rfl 1 (by decide) (hts _ q_fl_X11_7) (fun _ h9 => h9) rfl dX11_enters_121 ?_
    refine lv_iload hx hb dX11_enters_124 (lv_at hl 1 rfl) ?_
    refine lv_iconst (v := 5) hx hb dX11_enters_126 (by decide) ?_
    refine lv_iadd hx hb dX11_enters_127 ?_
    refine lv_aload_n hx hb dX11_enters_128 rfl (lv_at hl 3 rfl) ?_
    refine va_get (D := (dC, dI)) (ci := 10) (v := .ref (a 1)) (C := RX11) (T := TX11) (N := 17) hx hb hts inX11 hown hK hP 0 rfl rfl 1 (by decide) (hts _ q_fl_X11_7) (fun _ h9 => h9) rfl dX11_enters_129 ?_
    refine lv_iload_n hx hb dX11_enters_132 rfl (lv_at hl 2 rfl) ?_
    refine lv_iconst (v := 4) hx hb dX11_enters_133 (by decide) ?_
    refine lv_iadd hx hb dX11_enters_134 ?_
    obtain ⟨hg, hf⟩ := hf
    refine va_iald hx hb hK hP 1 0 rfl rfl hg dX11_enters_135 ?_
    obtain ⟨hg, hf⟩ := hf
    refine z_iast (Wn := fun f_21 => cl_X11 cI cJ a (u.1, f_21, u.2.2)) X hP hD hS 1 0 rfl rfl hg (fun _ => rfl) dX11_enters_136 (fun f_21 H locs ef_21 hP hD hS => ?_)
    have hf := hf f_21 ef_21
    exact z_retMv (Wf := (fun z => cl_X11 cI cJ a z)) (u := (u.1, f_21, u.2.2)) X hf hP hD hS dX11_enters_137
def s_X11_enters (u : zModel) (x1 x2 : Int32) (Q : zModel → Prop) : Prop := ∃ (s k kk : Nat) (c : Int64), s < 12 ∧ k < 50 ∧ kk < 64 ∧ x1 = nI s ∧ x2 = nI k ∧ (∀ w, w < 5 → u.2.1 (102 + 5 * (50 * s + k) + w) = recF c w) ∧ cSeg c = nI s ∧ ¬ c = 0 ∧ cKey c = nI kk ∧
  ∀ m' : Nat → Int32, mE1 (u.2.1 1) c m' (3102 + 6 * kk) → (∀ j, ¬ (3102 + 6 * kk ≤ j ∧ j < 3102 + 6 * kk + 6) → m' j = u.2.1 j) → Q (u.1, m', u.2.2)
theorem st_X11_enters {u : zModel} {x1 x2 : Int32} {Q : zModel → Prop} (h : s_X11_enters u x1 x2 Q) : t_X11_enters u x1 x2 Q := by
  obtain ⟨s, k, kk, c, hs, hk, hkk, rfl, rfl, hr, hsg, hc0, hck, h⟩ := h
  obtain ⟨r, hrd⟩ : ∃ r, r = 102 + 5 * (50 * s + k) := ⟨_, rfl⟩
  obtain ⟨e, hed⟩ : ∃ e, e = 3102 + 6 * kk := ⟨_, rfl⟩
  have r0 := hr 0 (by decide)
  have r1 := hr 1 (by decide)
  have r2 := hr 2 (by decide)
  have r3 := hr 3 (by decide)
  have r4 := hr 4 (by decide)
  rw [← hrd] at r0 r1 r2 r3 r4
  rw [← hed] at h
  have r0 : u.2.1 r = nI kk := r0.trans hck
  have r1 : u.2.1 (r + 1) = lenI c := r1
  have r2 : u.2.1 (r + 2) = cSeed c := r2
  have r3 : u.2.1 (r + 3) = cNum c := r3
  have r4 : u.2.1 (r + 4) = cBeg c := r4
  unfold t_X11_enters s_X11_recordAt s_X11_entryAt
  rw [ix_rec, ← hrd]
  dsimp only
  rw [nc_0 (by omega), nc_1 (by omega), nc_2 (by omega), nc_3 (by omega), nc_4 (by omega), r0, r1, r3]
  rw [show (3102 : Int32) + ((6 : Int32) * (((64 : Int32) * (0 : Int32)) + nI kk)) = nI e from by
    rw [n_lit0, ix_ent, hed, show 64 * 0 + kk = kk by omega]]
  rw [nc_0 (by omega), nc_1 (by omega), nc_2 (by omega), nc_3 (by omega), nc_4 (by omega), nc_5 (by omega), n_c1]
  have fin : ∀ (K : Int32) (f4 f7 f8 f9 f10 f11 : Nat → Int32), K = uKind (u.2.1 1) c → f4 = upd u.2.1 e (cNum c) → f7 = upd f4 (e + 1) K → f8 = upd f7 (e + 2) (lenI c) → f9 = upd f8 (e + 3) (f8 (r + 2)) → f10 = upd f9 (e + 4) (nI s) → f11 = upd f10 (e + 5) (f10 (r + 4)) → Q (u.1, f11, u.2.2) := by
    intro K f4 f7 f8 f9 f10 f11 eK e4 e7 e8 e9 e10 e11
    have g1 : f8 (r + 2) = cSeed c := by rw [e8, up_ne (by omega), e7, up_ne (by omega), e4, up_ne (by omega), r2]
    have g2 : f10 (r + 4) = cBeg c := by rw [e10, up_ne (by omega), e9, up_ne (by omega), e8, up_ne (by omega), e7, up_ne (by omega), e4, up_ne (by omega), r4]
    rw [g1] at e9
    rw [g2] at e11
    refine h f11 ⟨?_, fun _ => lt6p ?_ ?_ ?_ ?_ ?_ ?_⟩ (fun j hj => ?_)
    · rw [e11, up_ne (by omega), e10, up_ne (by omega), e9, up_ne (by omega), e8, up_ne (by omega), e7, up_eq rfl, eK]
    · rw [e11, up_ne (by omega), e10, up_ne (by omega), e9, up_ne (by omega), e8, up_ne (by omega), e7, up_ne (by omega), e4, up_eq (Nat.add_zero e)]; rfl
    · rw [e11, up_ne (by omega), e10, up_ne (by omega), e9, up_ne (by omega), e8, up_ne (by omega), e7, up_eq rfl, eK]; rfl
    · rw [e11, up_ne (by omega), e10, up_ne (by omega), e9, up_ne (by omega), e8, up_eq rfl]; rfl
    · rw [e11, up_ne (by omega), e10, up_ne (by omega), e9, up_eq rfl]; rfl
    · rw [e11, up_ne (by omega), e10, up_eq rfl]; exact hsg.symm
    · rw [e11, up_eq rfl]; rfl
    · rw [e11, up_ne (by omega), e10, up_ne (by omega), e9, up_ne (by omega), e8, up_ne (by omega), e7, up_ne (by omega), e4, up_ne (by omega)]
  have hdr := cDrop_iff c
  have hln := lenI_ne (c := c)
  refine ⟨vi_0 (by omega) (by decide), vi_1 (by omega) (by decide), fun x3 ex3 => ⟨vi_3 (by omega) (by decide), vi_0 (by omega) (by decide), fun f4 e4 => ?_⟩⟩
  have q1 : f4 1 = u.2.1 1 := by rw [e4, up_ne (by omega)]
  rw [q1, ex3]
  refine ⟨fun d => ⟨vp_in_nI (n := 1) (by decide) (by decide), fun d2 => ⟨vi_1 (by omega) (by decide), fun f7 e7 => ⟨vi_2 (by omega) (by decide), fun f8 e8 => ⟨vi_2 (by omega) (by decide), vi_3 (by omega) (by decide), fun f9 e9 => ⟨vi_4 (by omega) (by decide), fun f10 e10 => ⟨vi_4 (by omega) (by decide), vi_5 (by omega) (by decide), fun f11 e11 => fin 3 f4 f7 f8 f9 f10 f11 ?_ e4 e7 e8 e9 e10 e11⟩⟩⟩⟩⟩, fun d2 => ⟨vi_1 (by omega) (by decide), fun f7 e7 => ⟨vi_2 (by omega) (by decide), fun f8 e8 => ⟨vi_2 (by omega) (by decide), vi_3 (by omega) (by decide), fun f9 e9 => ⟨vi_4 (by omega) (by decide), fun f10 e10 => ⟨vi_4 (by omega) (by decide), vi_5 (by omega) (by decide), fun f11 e11 => fin 2 f4 f7 f8 f9 f10 f11 ?_ e4 e7 e8 e9 e10 e11⟩⟩⟩⟩⟩⟩, fun d => ⟨vi_1 (by omega) (by decide), fun f7 e7 => ⟨vi_2 (by omega) (by decide), fun f8 e8 => ⟨vi_2 (by omega) (by decide), vi_3 (by omega) (by decide), fun f9 e9 => ⟨vi_4 (by omega) (by decide), fun f10 e10 => ⟨vi_4 (by omega) (by decide), vi_5 (by omega) (by decide), fun f11 e11 => fin 1 f4 f7 f8 f9 f10 f11 ?_ e4 e7 e8 e9 e10 e11⟩⟩⟩⟩⟩⟩
  · have hl : ¬ cLen c = 0 := fun q => d (hln.mpr q)
    have el : lenI c = cLen c := if_neg hl
    rw [el] at d2
    unfold uKind
    rw [if_neg hc0, if_neg (fun q => hl (hdr.mp q)), if_pos d2]
  · have hl : ¬ cLen c = 0 := fun q => d (hln.mpr q)
    have el : lenI c = cLen c := if_neg hl
    rw [el] at d2
    unfold uKind
    rw [if_neg hc0, if_neg (fun q => hl (hdr.mp q)), if_neg d2]
  · unfold uKind
    rw [if_neg hc0, if_pos (hdr.mpr (hln.mp d))]
theorem c_X11_enters (l : Launch) (dC : Nat → ClassId) (dI : Nat → Nat → Nat) (cI cJ cS : ClassId) (a : Nat → Nat) (u : zModel) (x1 : Int32) (x2 : Int32) (Q : zModel → Prop) (hf : s_X11_enters u x1 x2 Q) : ∀ sz : Nat, Met l yX11_enters (Cond.code yX11_enters cX11_enters 6 none :: zT) rm_X11_enters (zPm dC dI cI cJ cS (cl_X11 cI cJ a u) [.ref (a 0), .int x1, .int x2] sz) (va_Qv Q (zB dC dI cI cJ cS (va_A (cl_X11 cI cJ a u) sz) (fun z => cl_X11 cI cJ a z)) (va_A (cl_X11 cI cJ a u) sz)) 0 0 (va_A (cl_X11 cI cJ a u) sz) := L_X11_enters l dC dI cI cJ cS a u x1 x2 Q (st_X11_enters hf)

def t_X11_logs_e (u : zModel) (x1 : Int32) (x2 : Int32) (K17 : Int32 → zModel → Prop) (Q : zModel → Prop) : Prop := vp_in (5406 : Int32) 5497 ∧ ((¬ (u.2.1 (5406 : Int32).toNatClampNeg) = (30 : Int32) → vp_in (5406 : Int32) 5497 ∧ ∀ x_2 : Int32, x_2 = ((5407 : Int32) + ((3 : Int32) * (u.2.1 (5406 : Int32).toNatClampNeg))) → vp_in x_2 5497 ∧ ∀ f_3 : Nat → Int32, f_3 = upd u.2.1 x_2.toNatClampNeg x1 → vp_in (x_2 + (1 : Int32)) 5497 ∧ ∀ f_4 : Nat → Int32, f_4 = upd f_3 (x_2 + (1 : Int32)).toNatClampNeg x2 → vp_in (5 : Int32) 5497 ∧ vp_in (x_2 + (2 : Int32)) 5497 ∧ ∀ f_5 : Nat → Int32, f_5 = upd f_4 (x_2 + (2 : Int32)).toNatClampNeg (f_4 (5 : Int32).toNatClampNeg) → vp_in (5406 : Int32) 5497 ∧ vp_in (5406 : Int32) 5497 ∧ ∀ f_6 : Nat → Int32, f_6 = upd f_5 (5406 : Int32).toNatClampNeg ((f_5 (5406 : Int32).toNatClampNeg) + (1 : Int32)) → Q (u.1, f_6, u.2.2)) ∧ ((u.2.1 (5406 : Int32).toNatClampNeg) = (30 : Int32) → K17 (5407 : Int32) u))
def t_X11_logs_17 (x1 : Int32) (x2 : Int32) (y3 : Int32) (z : zModel) (K17 : Int32 → zModel → Prop) (Q : zModel → Prop) : Prop := (((5494 : Int32) ≤ y3 → vp_in (5406 : Int32) 5497 ∧ vp_in (5406 : Int32) 5497 ∧ ∀ f_9 : Nat → Int32, f_9 = upd z.2.1 (5406 : Int32).toNatClampNeg ((z.2.1 (5406 : Int32).toNatClampNeg) - (1 : Int32)) → vp_in (5406 : Int32) 5497 ∧ ∀ x_10 : Int32, x_10 = ((5407 : Int32) + ((3 : Int32) * (f_9 (5406 : Int32).toNatClampNeg))) → vp_in x_10 5497 ∧ ∀ f_11 : Nat → Int32, f_11 = upd f_9 x_10.toNatClampNeg x1 → vp_in (x_10 + (1 : Int32)) 5497 ∧ ∀ f_12 : Nat → Int32, f_12 = upd f_11 (x_10 + (1 : Int32)).toNatClampNeg x2 → vp_in (5 : Int32) 5497 ∧ vp_in (x_10 + (2 : Int32)) 5497 ∧ ∀ f_13 : Nat → Int32, f_13 = upd f_12 (x_10 + (2 : Int32)).toNatClampNeg (f_12 (5 : Int32).toNatClampNeg) → vp_in (5406 : Int32) 5497 ∧ vp_in (5406 : Int32) 5497 ∧ ∀ f_14 : Nat → Int32, f_14 = upd f_13 (5406 : Int32).toNatClampNeg ((f_13 (5406 : Int32).toNatClampNeg) + (1 : Int32)) → Q (z.1, f_14, z.2.2)) ∧ (¬ (5494 : Int32) ≤ y3 → vp_in (y3 + (3 : Int32)) 5497 ∧ vp_in y3 5497 ∧ ∀ f_15 : Nat → Int32, f_15 = upd z.2.1 y3.toNatClampNeg (z.2.1 (y3 + (3 : Int32)).toNatClampNeg) → ∀ x_16 : Int32, x_16 = y3 + (1 : Int32) → K17 x_16 (z.1, f_15, z.2.2)))
theorem zc_X11_logs : zCalV RX11 yX11_logs cX11_logs 4 none 2 := ⟨q_im_X11_logs, q_se_X11_logs, q_in_X11, q_cd_X11_logs, ⟨by decide, by decide, by decide +kernel⟩, rfl⟩
abbrev rm_X11_logs : Room := { frames := 0, cells := 0, slots := 0, locals := 0 }
def v_X11_logs (u : zModel) (x1 : Int32) (x2 : Int32) (Q : zModel → Prop) : Prop := ∃ I17 : Nat → Int32 → zModel → Prop, (∀ (n : Nat) (y3 : Int32) (z : zModel), I17 n y3 z → t_X11_logs_17 x1 x2 y3 z (fun q0 q1 => ∃ k : Nat, k < n ∧ I17 k q0 q1) Q) ∧ t_X11_logs_e u x1 x2 (fun q0 q1 => ∃ k : Nat, I17 k q0 q1) Q
set_option maxHeartbeats 4000000 in
set_option maxRecDepth 100000 in
theorem L_X11_logs (l : Launch) (dC : Nat → ClassId) (dI : Nat → Nat → Nat) (cI cJ cS : ClassId) (a : Nat → Nat) (u : zModel) (x1 : Int32) (x2 : Int32) (Q : zModel → Prop) (I17 : Nat → Int32 → zModel → Prop) (h17 : ∀ (n : Nat) (y3 : Int32) (z : zModel), I17 n y3 z → t_X11_logs_17 x1 x2 y3 z (fun q0 q1 => ∃ k : Nat, k < n ∧ I17 k q0 q1) Q) (hf : t_X11_logs_e u x1 x2 (fun q0 q1 => ∃ k : Nat, I17 k q0 q1) Q) : ∀ sz : Nat, Met l yX11_logs (Cond.code yX11_logs cX11_logs 4 none :: zT) rm_X11_logs (zPm dC dI cI cJ cS (cl_X11 cI cJ a u) [.ref (a 0), .int x1, .int x2] sz) (va_Qv Q (zB dC dI cI cJ cS (va_A (cl_X11 cI cJ a u) sz) (fun z => cl_X11 cI cJ a z)) (va_A (cl_X11 cI cJ a u) sz)) 0 0 (va_A (cl_X11 cI cJ a u) sz) := by
  intro sz
  refine z_enterM (Qc := fun A => va_Qv Q (zB dC dI cI cJ cS A (fun z => cl_X11 cI cJ a z)) A) (cc := cX11_logs) (maxL := 4) (ret := none) (by decide) (Nat.le_of_ble_eq_true rfl) ?_
  intro p e s m below meth c ls A X hP hD hS hA hl
  obtain ⟨⟨hx, hb, hml, hown, hts⟩, hr, hlk, hK⟩ := id X
  have hl : lv_has ls 4 [(0, .ref (a 0)), (1, .int x1), (2, .int x2)] := hl
  have LP : ∀ n : Nat, (∀ (y3 : Int32) (z : zModel) (H : Heap) (locs : List Loc) (ls : Array Slot), I17 n y3 z → va_P (dC, dI) vwCl (cl_X11 cI cJ a z) H → va_D A (cl_X11 cI cJ a z) → va_S A s.heap H locs → lv_has ls 4 [(0, .ref (a 0)), (1, .int x1), (2, .int x2), (3, .int y3)] → W p l e rm_X11_logs s m [.ref (a 0), .int x1, .int x2].toArray below meth c H locs 0 0 (MQ below (va_Qv Q (zB dC dI cI cJ cS A (fun z => cl_X11 cI cJ a z)) A) [.ref (a 0), .int x1, .int x2].toArray s 0 0 A) (F0 m 17 ls [])) := by
    intro n
    induction n using Nat.strongRecOn with
    | _ n ih =>
      intro y3 z H locs ls hI hP hD hS hl
      have hf := h17 n y3 z hI
      unfold t_X11_logs_17 at hf
      refine lv_iload_n hx hb dX11_logs_17 rfl (lv_at hl 3 rfl) ?_
      refine lv_sipush (v := 5494) hx hb dX11_logs_18 (by decide) ?_
      refine lv_icmp_ge (tgt := 44) hx hb dX11_logs_21 (by decide) (fun c_8 => ?_) (fun c_8 => ?_)
      · have hf := hf.1 c_8
        refine lv_aload_n hx hb dX11_logs_44 rfl (lv_at hl 0 rfl) ?_
        refine va_get (D := (dC, dI)) (ci := 10) (v := .ref (a 1)) (C := RX11) (T := TX11) (N := 17) hx hb hts inX11 hown hK hP 0 rfl rfl 1 (by decide) (hts _ q_fl_X11_7) (fun _ h9 => h9) rfl dX11_logs_45 ?_
        refine lv_sipush (v := 5406) hx hb dX11_logs_48 (by decide) ?_
        refine lv_dup2_11 hx hb dX11_logs_51 rfl rfl ?_
        obtain ⟨hg, hf⟩ := hf
        refine va_iald hx hb hK hP 1 0 rfl rfl hg dX11_logs_52 ?_
        refine lv_iconst (v := 1) hx hb dX11_logs_53 (by decide) ?_
        refine lv_isub hx hb dX11_logs_54 ?_
        obtain ⟨hg, hf⟩ := hf
        refine z_iast (Wn := fun f_9 => cl_X11 cI cJ a (z.1, f_9, z.2.2)) X hP hD hS 1 0 rfl rfl hg (fun _ => rfl) dX11_logs_55 (fun f_9 H locs ef_9 hP hD hS => ?_)
        have hf := hf f_9 ef_9
        refine lv_sipush (v := 5407) hx hb dX11_logs_56 (by decide) ?_
        refine lv_iconst (v := 3) hx hb dX11_logs_59 (by decide) ?_
        refine lv_aload_n hx hb dX11_logs_60 rfl (lv_at hl 0 rfl) ?_
        refine va_get (D := (dC, dI)) (ci := 10) (v := .ref (a 1)) (C := RX11) (T := TX11) (N := 17) hx hb hts inX11 hown hK hP 0 rfl rfl 1 (by decide) (hts _ q_fl_X11_7) (fun _ h9 => h9) rfl dX11_logs_61 ?_
        refine lv_sipush (v := 5406) hx hb dX11_logs_64 (by decide) ?_
        obtain ⟨hg, hf⟩ := hf
        refine va_iald hx hb hK hP 1 0 rfl rfl hg dX11_logs_67 ?_
        refine lv_imul hx hb dX11_logs_68 ?_
        refine lv_iadd hx hb dX11_logs_69 ?_
        refine lv_topi (fun x_10 ex_10 => ?_)
        have hf := hf x_10 ex_10
        refine lv_istore_n (lv' := [(3, .int x_10), (0, .ref (a 0)), (1, .int x1), (2, .int x2)]) hx hb dX11_logs_70 rfl hl (by decide) rfl (fun ls hl => ?_)
        refine lv_aload_n hx hb dX11_logs_71 rfl (lv_at hl 1 rfl) ?_
        refine va_get (D := (dC, dI)) (ci := 10) (v := .ref (a 1)) (C := RX11) (T := TX11) (N := 17) hx hb hts inX11 hown hK hP 0 rfl rfl 1 (by decide) (hts _ q_fl_X11_7) (fun _ h9 => h9) rfl dX11_logs_72 ?_
        refine lv_iload_n hx hb dX11_logs_75 rfl (lv_at hl 0 rfl) ?_
        refine lv_iload_n hx hb dX11_logs_76 rfl (lv_at hl 2 rfl) ?_
        obtain ⟨hg, hf⟩ := hf
        refine z_iast (Wn := fun f_11 => cl_X11 cI cJ a (z.1, f_11, z.2.2)) X hP hD hS 1 0 rfl rfl hg (fun _ => rfl) dX11_logs_77 (fun f_11 H locs ef_11 hP hD hS => ?_)
        have hf := hf f_11 ef_11
        refine lv_aload_n hx hb dX11_logs_78 rfl (lv_at hl 1 rfl) ?_
        refine va_get (D := (dC, dI)) (ci := 10) (v := .ref (a 1)) (C := RX11) (T := TX11) (N := 17) hx hb hts inX11 hown hK hP 0 rfl rfl 1 (by decide) (hts _ q_fl_X11_7) (fun _ h9 => h9) rfl dX11_logs_79 ?_
        refine lv_iload_n hx hb dX11_logs_82 rfl (lv_at hl 0 rfl) ?_
        refine lv_iconst (v := 1) hx hb dX11_logs_83 (by decide) ?_
        refine lv_iadd hx hb dX11_logs_84 ?_
        refine lv_iload_n hx hb dX11_logs_85 rfl (lv_at hl 3 rfl) ?_
        obtain ⟨hg, hf⟩ := hf
        refine z_iast (Wn := fun f_12 => cl_X11 cI cJ a (z.1, f_12, z.2.2)) X hP hD hS 1 0 rfl rfl hg (fun _ => rfl) dX11_logs_86 (fun f_12 H locs ef_12 hP hD hS => ?_)
        have hf := hf f_12 ef_12
        refine lv_aload_n hx hb dX11_logs_87 rfl (lv_at hl 1 rfl) ?_
        refine va_get (D := (dC, dI)) (ci := 10) (v := .ref (a 1)) (C := RX11) (T := TX11) (N := 17) hx hb hts inX11 hown hK hP 0 rfl rfl 1 (by decide) (hts _ q_fl_X11_7) (fun _ h9 => h9) rfl dX11_logs_88 ?_
        refine lv_iload_n hx hb dX11_logs_91 rfl (lv_at hl 0 rfl) ?_
        refine lv_iconst (v := 2) hx hb dX11_logs_92 (by decide) ?_
        refine lv_iadd hx hb dX11_logs_93 ?_
        refine lv_aload_n hx hb dX11_logs_94 rfl (lv_at hl 1 rfl) ?_
        refine va_get (D := (dC, dI)) (ci := 10) (v := .ref (a 1)) (C := RX11) (T := TX11) (N := 17) hx hb hts inX11 hown hK hP 0 rfl rfl 1 (by decide) (hts _ q_fl_X11_7) (fun _ h9 => h9) rfl dX11_logs_95 ?_
        refine lv_iconst (v := 5) hx hb dX11_logs_98 (by decide) ?_
        obtain ⟨hg, hf⟩ := hf
        refine va_iald hx hb hK hP 1 0 rfl rfl hg dX11_logs_99 ?_
        obtain ⟨hg, hf⟩ := hf
        refine z_iast (Wn := fun f_13 => cl_X11 cI cJ a (z.1, f_13, z.2.2)) X hP hD hS 1 0 rfl rfl hg (fun _ => rfl) dX11_logs_100 (fun f_13 H locs ef_13 hP hD hS => ?_)
        have hf := hf f_13 ef_13
        refine lv_aload_n hx hb dX11_logs_101 rfl (lv_at hl 1 rfl) ?_
        refine va_get (D := (dC, dI)) (ci := 10) (v := .ref (a 1)) (C := RX11) (T := TX11) (N := 17) hx hb hts inX11 hown hK hP 0 rfl rfl 1 (by decide) (hts _ q_fl_X11_7) (fun _ h9 => h9) rfl dX11_logs_102 ?_
        refine lv_sipush (v := 5406) hx hb dX11_logs_105 (by decide) ?_
        refine lv_dup2_11 hx hb dX11_logs_108 rfl rfl ?_
        obtain ⟨hg, hf⟩ := hf
        refine va_iald hx hb hK hP 1 0 rfl rfl hg dX11_logs_109 ?_
        refine lv_iconst (v := 1) hx hb dX11_logs_110 (by decide) ?_
        refine lv_iadd hx hb dX11_logs_111 ?_
        obtain ⟨hg, hf⟩ := hf
        refine z_iast (Wn := fun f_14 => cl_X11 cI cJ a (z.1, f_14, z.2.2)) X hP hD hS 1 0 rfl rfl hg (fun _ => rfl) dX11_logs_112 (fun f_14 H locs ef_14 hP hD hS => ?_)
        have hf := hf f_14 ef_14
        exact z_retMv (Wf := (fun z => cl_X11 cI cJ a z)) (u := (z.1, f_14, z.2.2)) X hf hP hD hS dX11_logs_113
      · have hf := hf.2 c_8
        refine lv_aload_n hx hb dX11_logs_24 rfl (lv_at hl 0 rfl) ?_
        refine va_get (D := (dC, dI)) (ci := 10) (v := .ref (a 1)) (C := RX11) (T := TX11) (N := 17) hx hb hts inX11 hown hK hP 0 rfl rfl 1 (by decide) (hts _ q_fl_X11_7) (fun _ h9 => h9) rfl dX11_logs_25 ?_
        refine lv_iload_n hx hb dX11_logs_28 rfl (lv_at hl 3 rfl) ?_
        refine lv_aload_n hx hb dX11_logs_29 rfl (lv_at hl 0 rfl) ?_
        refine va_get (D := (dC, dI)) (ci := 10) (v := .ref (a 1)) (C := RX11) (T := TX11) (N := 17) hx hb hts inX11 hown hK hP 0 rfl rfl 1 (by decide) (hts _ q_fl_X11_7) (fun _ h9 => h9) rfl dX11_logs_30 ?_
        refine lv_iload_n hx hb dX11_logs_33 rfl (lv_at hl 3 rfl) ?_
        refine lv_iconst (v := 3) hx hb dX11_logs_34 (by decide) ?_
        refine lv_iadd hx hb dX11_logs_35 ?_
        obtain ⟨hg, hf⟩ := hf
        refine va_iald hx hb hK hP 1 0 rfl rfl hg dX11_logs_36 ?_
        obtain ⟨hg, hf⟩ := hf
        refine z_iast (Wn := fun f_15 => cl_X11 cI cJ a (z.1, f_15, z.2.2)) X hP hD hS 1 0 rfl rfl hg (fun _ => rfl) dX11_logs_37 (fun f_15 H locs ef_15 hP hD hS => ?_)
        have hf := hf f_15 ef_15
        obtain ⟨x_16, ex_16⟩ : ∃ y : Int32, y = y3 + (1 : Int32) := ⟨_, rfl⟩
        have hf := hf x_16 ex_16
        refine lv_iinc (v := x_16) (lv' := [(3, .int x_16), (0, .ref (a 0)), (1, .int x1), (2, .int x2)]) hx hb dX11_logs_38 hl (k := 3) rfl (by rw [ex_16]; rfl) (by decide) rfl (fun ls hl => ?_)
        refine lv_goto (tgt := 17) hx hb dX11_logs_41 (by decide) ?_
        obtain ⟨k_17, hk_17, hf⟩ := hf
        exact (ih k_17 hk_17) _ (z.1, f_15, z.2.2) _ _ ls hf hP hD hS (lv_sub hl [1, 2, 3, 0] rfl)
  unfold t_X11_logs_e at hf
  refine lv_aload_n hx hb dX11_logs_0 rfl (lv_at hl 0 rfl) ?_
  refine va_get (D := (dC, dI)) (ci := 10) (v := .ref (a 1)) (C := RX11) (T := TX11) (N := 17) hx hb hts inX11 hown hK hP 0 rfl rfl 1 (by decide) (hts _ q_fl_X11_7) (fun _ h9 => h9) rfl dX11_logs_1 ?_
  refine lv_sipush (v := 5406) hx hb dX11_logs_4 (by decide) ?_
  obtain ⟨hg, hf⟩ := hf
  refine va_iald hx hb hK hP 1 0 rfl rfl hg dX11_logs_7 ?_
  refine lv_bipush (v := 30) hx hb dX11_logs_8 (by decide) ?_
  refine lv_icmp_ne (tgt := 56) hx hb dX11_logs_10 (by decide) (fun c_1 => ?_) (fun c_1 => ?_)
  · have hf := hf.1 c_1
    refine lv_sipush (v := 5407) hx hb dX11_logs_56 (by decide) ?_
    refine lv_iconst (v := 3) hx hb dX11_logs_59 (by decide) ?_
    refine lv_aload_n hx hb dX11_logs_60 rfl (lv_at hl 0 rfl) ?_
    refine va_get (D := (dC, dI)) (ci := 10) (v := .ref (a 1)) (C := RX11) (T := TX11) (N := 17) hx hb hts inX11 hown hK hP 0 rfl rfl 1 (by decide) (hts _ q_fl_X11_7) (fun _ h9 => h9) rfl dX11_logs_61 ?_
    refine lv_sipush (v := 5406) hx hb dX11_logs_64 (by decide) ?_
    obtain ⟨hg, hf⟩ := hf
    refine va_iald hx hb hK hP 1 0 rfl rfl hg dX11_logs_67 ?_
    refine lv_imul hx hb dX11_logs_68 ?_
    refine lv_iadd hx hb dX11_logs_69 ?_
    refine lv_topi (fun x_2 ex_2 => ?_)
    have hf := hf x_2 ex_2
    refine lv_istore_n (lv' := [(3, .int x_2), (0, .ref (a 0)), (1, .int x1), (2, .int x2)]) hx hb dX11_logs_70 rfl hl (by decide) rfl (fun ls hl => ?_)
    refine lv_aload_n hx hb dX11_logs_71 rfl (lv_at hl 1 rfl) ?_
    refine va_get (D := (dC, dI)) (ci := 10) (v := .ref (a 1)) (C := RX11) (T := TX11) (N := 17) hx hb hts inX11 hown hK hP 0 rfl rfl 1 (by decide) (hts _ q_fl_X11_7) (fun _ h9 => h9) rfl dX11_logs_72 ?_
    refine lv_iload_n hx hb dX11_logs_75 rfl (lv_at hl 0 rfl) ?_
    refine lv_iload_n hx hb dX11_logs_76 rfl (lv_at hl 2 rfl) ?_
    obtain ⟨hg, hf⟩ := hf
    refine z_iast (Wn := fun f_3 => cl_X11 cI cJ a (u.1, f_3, u.2.2)) X hP hD hS 1 0 rfl rfl hg (fun _ => rfl) dX11_logs_77 (fun f_3 H locs ef_3 hP hD hS => ?_)
    have hf := hf f_3 ef_3
    refine lv_aload_n hx hb dX11_logs_78 rfl (lv_at hl 1 rfl) ?_
    refine va_get (D := (dC, dI)) (ci := 10) (v := .ref (a 1)) (C := RX11) (T := TX11) (N := 17) hx hb hts inX11 hown hK hP 0 rfl rfl 1 (by decide) (hts _ q_fl_X11_7) (fun _ h9 => h9) rfl dX11_logs_79 ?_
    refine lv_iload_n hx hb dX11_logs_82 rfl (lv_at hl 0 rfl) ?_
    refine lv_iconst (v := 1) hx hb dX11_logs_83 (by decide) ?_
    refine lv_iadd hx hb dX11_logs_84 ?_
    refine lv_iload_n hx hb dX11_logs_85 rfl (lv_at hl 3 rfl) ?_
    obtain ⟨hg, hf⟩ := hf
    refine z_iast (Wn := fun f_4 => cl_X11 cI cJ a (u.1, f_4, u.2.2)) X hP hD hS 1 0 rfl rfl hg (fun _ => rfl) dX11_logs_86 (fun f_4 H locs ef_4 hP hD hS => ?_)
    have hf := hf f_4 ef_4
    refine lv_aload_n hx hb dX11_logs_87 rfl (lv_at hl 1 rfl) ?_
    refine va_get (D := (dC, dI)) (ci := 10) (v := .ref (a 1)) (C := RX11) (T := TX11) (N := 17) hx hb hts inX11 hown hK hP 0 rfl rfl 1 (by decide) (hts _ q_fl_X11_7) (fun _ h9 => h9) rfl dX11_logs_88 ?_
    refine lv_iload_n hx hb dX11_logs_91 rfl (lv_at hl 0 rfl) ?_
    refine lv_iconst (v := 2) hx hb dX11_logs_92 (by decide) ?_
    refine lv_iadd hx hb dX11_logs_93 ?_
    refine lv_aload_n hx hb dX11_logs_94 rfl (lv_at hl 1 rfl) ?_
    refine va_get (D := (dC, dI)) (ci := 10) (v := .ref (a 1)) (C := RX11) (T := TX11) (N := 17) hx hb hts inX11 hown hK hP 0 rfl rfl 1 (by decide) (hts _ q_fl_X11_7) (fun _ h9 => h9) rfl dX11_logs_95 ?_
    refine lv_iconst (v := 5) hx hb dX11_logs_98 (by decide) ?_
    obtain ⟨hg, hf⟩ := hf
    refine va_iald hx hb hK hP 1 0 rfl rfl hg dX11_logs_99 ?_
    obtain ⟨hg, hf⟩ := hf
    refine z_iast (Wn := fun f_5 => cl_X11 cI cJ a (u.1, f_5, u.2.2)) X hP hD hS 1 0 rfl rfl hg (fun _ => rfl) dX11_logs_100 (fun f_5 H locs ef_5 hP hD hS => ?_)
    have hf := hf f_5 ef_5
    refine lv_aload_n hx hb dX11_logs_101 rfl (lv_at hl 1 rfl) ?_
    refine va_get (D := (dC, dI)) (ci := 10) (v := .ref (a 1)) (C := RX11) (T := TX11) (N := 17) hx hb hts inX11 hown hK hP 0 rfl rfl 1 (by decide) (hts _ q_fl_X11_7) (fun _ h9 => h9) rfl dX11_logs_102 ?_
    refine lv_sipush (v := 5406) hx hb dX11_logs_105 (by decide) ?_
    refine lv_dup2_11 hx hb dX11_logs_108 rfl rfl ?_
    obtain ⟨hg, hf⟩ := hf
    refine va_iald hx hb hK hP 1 0 rfl rfl hg dX11_logs_109 ?_
    refine lv_iconst (v := 1) hx hb dX11_logs_110 (by decide) ?_
    refine lv_iadd hx hb dX11_logs_111 ?_
    obtain ⟨hg, hf⟩ := hf
    refine z_iast (Wn := fun f_6 => cl_X11 cI cJ a (u.1, f_6, u.2.2)) X hP hD hS 1 0 rfl rfl hg (fun _ => rfl) dX11_logs_112 (fun f_6 H locs ef_6 hP hD hS => ?_)
    have hf := hf f_6 ef_6
    exact z_retMv (Wf := (fun z => cl_X11 cI cJ a z)) (u := (u.1, f_6, u.2.2)) X hf hP hD hS dX11_logs_113
  · have hf := hf.2 c_1
    refine lv_sipush (v := 5407) hx hb dX11_logs_13 (by decide) ?_
    refine lv_istore_n (lv' := [(3, .int (5407 : Int32)), (0, .ref (a 0)), (1, .int x1), (2, .int x2)]) hx hb dX11_logs_16 rfl hl (by decide) rfl (fun ls hl => ?_)
    obtain ⟨k_7, hf⟩ := hf
    exact (LP k_7) _ u _ _ ls hf hP hD hS (lv_sub hl [1, 2, 3, 0] rfl)
def s_X11_logs (u : zModel) (x1 x2 : Int32) (Q : zModel → Prop) : Prop := ∃ d : zDiary, DiaOk d ∧ mLg d u.2.1 ∧ ∀ m' : Nat → Int32, mLg (zTell d (dN d) x1 x2 (u.2.1 5)) m' → (∀ j, j < 5406 → m' j = u.2.1 j) → Q (u.1, m', u.2.2)
/-- the log's first row left away, i numbers moved -/
def mSl (m : Nat → Int32) (i : Nat) : Nat → Int32 := fun j => if 5407 ≤ j ∧ j < 5407 + i then m (j + 3) else m j
theorem st_X11_logs {u : zModel} {x1 x2 : Int32} {Q : zModel → Prop} (h : s_X11_logs u x1 x2 Q) : v_X11_logs u x1 x2 Q := by
  obtain ⟨d, hd, hl, h⟩ := h
  have hd30 := hd.2
  have ed : u.2.1 5406 = nI (dN d) := hl.1.trans hd.1
  have e0 : (u.1, mSl u.2.1 0, u.2.2) = u := by
    rw [show mSl u.2.1 0 = u.2.1 from funext fun j => if_neg (by omega)]
  have ix : ∀ x : Nat, (5407 : Int32) + ((3 : Int32) * nI x) = nI (5407 + 3 * x) := fun x => by
    rw [show (5407 : Int32) = nI 5407 from rfl, n_lit3, n_mul, nI_add]
  by_cases hlt : dN d < 30
  · refine ⟨fun _ _ _ => False, fun _ _ _ q => q.elim, ?_⟩
    unfold t_X11_logs_e
    rw [n_c5406, ed]
    refine ⟨vp_in_nI (n := 5406) (by decide) (by decide), fun c => ⟨vp_in_nI (n := 5406) (by decide) (by decide), fun x ex => ?_⟩, fun c => ?_⟩
    · rw [ix] at ex
      subst ex
      rw [nI_clamp (by omega), nc_1 (by omega), nc_2 (by omega), n_c5]
      refine ⟨vp_in_nI (by omega) (by decide), fun f3 e3 => ⟨vi_1 (by omega) (by decide), fun f4 e4 => ⟨vp_in_nI (n := 5) (by decide) (by decide), vi_2 (by omega) (by decide), fun f5 e5 => ⟨vp_in_nI (n := 5406) (by decide) (by decide), vp_in_nI (n := 5406) (by decide) (by decide), fun f6 e6 => ?_⟩⟩⟩⟩
      have q5 : f4 5 = u.2.1 5 := by rw [e4, up_ne (by omega), e3, up_ne (by omega)]
      have q6 : f5 5406 = nI (dN d) := by rw [e5, up_ne (by omega), e4, up_ne (by omega), e3, up_ne (by omega), ed]
      rw [q5] at e5
      rw [q6, nI_1] at e6
      refine h f6 ?_ ?_
      · unfold zTell
        rw [if_pos hlt]
        refine ⟨by rw [e6, up_eq rfl], fun i hi => ?_⟩
        have ed' : dN (upd (upd (upd d.1 (3 * dN d) x1) (3 * dN d + 1) x2) (3 * dN d + 2) (u.2.1 5), nI (dN d + 1)) = dN d + 1 := nI_clamp (n := dN d + 1) (by omega)
        rw [ed'] at hi
        show f6 (5407 + i) = upd (upd (upd d.1 (3 * dN d) x1) (3 * dN d + 1) x2) (3 * dN d + 2) (u.2.1 5) i
        rw [e6, up_ne (by omega), e5, e4, e3]
        by_cases a1 : i = 3 * dN d + 2
        · rw [up_eq (by omega), up_eq a1]
        · rw [up_ne (by omega), up_ne a1]
          by_cases a2 : i = 3 * dN d + 1
          · rw [up_eq (by omega), up_eq a2]
          · rw [up_ne (by omega), up_ne a2]
            by_cases a3 : i = 3 * dN d
            · rw [up_eq (by omega), up_eq a3]
            · rw [up_ne (by omega), up_ne a3]
              exact hl.2 i (by omega)
      · intro j hj
        rw [e6, up_ne (by omega), e5, up_ne (by omega), e4, up_ne (by omega), e3, up_ne (by omega)]
    · have := (nI_eq (a := dN d) (b := 30) (by omega) (by decide)).mp c
      omega
  · have h30 : dN d = 30 := by omega
    rw [h30] at h ed
    refine zlp2 (T := fun y z K => t_X11_logs_17 x1 x2 y z K Q) (E := fun K => t_X11_logs_e u x1 x2 K Q) 87 (fun i => nI (5407 + i)) (fun i => (u.1, mSl u.2.1 i, u.2.2)) (fun K hK => ?_) ?_ ?_
    · unfold t_X11_logs_e
      rw [n_c5406, ed]
      refine ⟨vp_in_nI (n := 5406) (by decide) (by decide), fun c => absurd rfl c, fun c => ?_⟩
      have hK : K (nI 5407) (u.1, mSl u.2.1 0, u.2.2) := hK
      rw [e0] at hK
      exact hK
    · intro i hi K hK
      refine ⟨fun c => absurd c (nI_ge (b := 5494) (by omega) (by decide)), fun _ => ?_⟩
      rw [nc_3 (by omega), nI_clamp (by omega)]
      refine ⟨vi_3 (by omega) (by decide), vp_in_nI (by omega) (by decide), fun f e x e' => ?_⟩
      rw [e', nI_1, e]
      have : upd (mSl u.2.1 i) (5407 + i) (mSl u.2.1 i (5407 + i + 3)) = mSl u.2.1 (i + 1) := by
        have e1 : mSl u.2.1 i (5407 + i + 3) = u.2.1 (5407 + i + 3) := if_neg (by omega)
        rw [e1]
        funext j
        unfold upd mSl
        by_cases hj : j = 5407 + i
        · rw [if_pos hj, if_pos (by omega), hj]
        · rw [if_neg hj]
          by_cases h2 : 5407 ≤ j ∧ j < 5407 + i
          · rw [if_pos h2, if_pos (by omega)]
          · rw [if_neg h2, if_neg (by omega)]
      rw [this]; exact hK
    · intro K
      refine ⟨fun _ => ?_, fun c => absurd (nI_le (a := 5494) (Nat.le_refl 5494) (by decide)) c⟩
      rw [n_c5406, n_c5]
      refine ⟨vp_in_nI (n := 5406) (by decide) (by decide), vp_in_nI (n := 5406) (by decide) (by decide), fun f9 e9 => ⟨vp_in_nI (n := 5406) (by decide) (by decide), fun x10 e10 => ?_⟩⟩
      have e9 : f9 = upd (mSl u.2.1 87) 5406 (mSl u.2.1 87 5406 - (1 : Int32)) := e9
      have e1 : mSl u.2.1 87 5406 = nI 30 := (if_neg (by omega)).trans ed
      rw [e1, show nI 30 - (1 : Int32) = nI 29 by decide] at e9
      have e2 : f9 5406 = nI 29 := by rw [e9, up_eq rfl]
      rw [e2, ix] at e10
      subst e10
      rw [nI_clamp (by omega), nc_1 (by omega), nc_2 (by omega)]
      refine ⟨vp_in_nI (by omega) (by decide), fun f3 e3 => ⟨vi_1 (by omega) (by decide), fun f4 e4 => ⟨vp_in_nI (n := 5) (by decide) (by decide), vi_2 (by omega) (by decide), fun f5 e5 => ⟨vp_in_nI (n := 5406) (by decide) (by decide), vp_in_nI (n := 5406) (by decide) (by decide), fun f6 e6 => ?_⟩⟩⟩⟩
      have q5 : f4 5 = u.2.1 5 := by
        rw [e4, up_ne (by omega), e3, up_ne (by omega), e9, up_ne (by omega)]
        exact if_neg (by omega)
      have q6 : f5 5406 = nI 29 := by rw [e5, up_ne (by omega), e4, up_ne (by omega), e3, up_ne (by omega), e2]
      rw [q5] at e5
      rw [q6, nI_1] at e6
      refine h f6 ?_ ?_
      · unfold zTell
        rw [if_neg (by omega)]
        refine ⟨by rw [e6, up_eq rfl], fun i hi => ?_⟩
        have ed' : dN (upd (upd (upd (va_cpy d.1 d.1 3 0 87) 87 x1) 88 x2) 89 (u.2.1 5), nI 30) = 30 := nI_clamp (n := 30) (by omega)
        rw [ed'] at hi
        show f6 (5407 + i) = upd (upd (upd (va_cpy d.1 d.1 3 0 87) 87 x1) 88 x2) 89 (u.2.1 5) i
        rw [e6, up_ne (by omega), e5, e4, e3]
        by_cases a1 : i = 89
        · rw [up_eq (by omega), up_eq a1]
        · rw [up_ne (by omega), up_ne a1]
          by_cases a2 : i = 88
          · rw [up_eq (by omega), up_eq a2]
          · rw [up_ne (by omega), up_ne a2]
            by_cases a3 : i = 87
            · rw [up_eq (by omega), up_eq a3]
            · rw [up_ne (by omega), up_ne a3, e9, up_ne (by omega)]
              unfold mSl va_cpy
              rw [if_pos (by omega), if_pos (by omega)]
              have := hl.2 (i + 3) (by omega)
              rw [show 5407 + i + 3 = 5407 + (i + 3) by omega, this]
              exact congrArg d.1 (show i + 3 = 3 + (i - 0) by omega)
      · intro j hj
        rw [e6, up_ne (by omega), e5, up_ne (by omega), e4, up_ne (by omega), e3, up_ne (by omega), e9, up_ne (by omega)]
        exact if_neg (by omega)
theorem c_X11_logs (l : Launch) (dC : Nat → ClassId) (dI : Nat → Nat → Nat) (cI cJ cS : ClassId) (a : Nat → Nat) (u : zModel) (x1 : Int32) (x2 : Int32) (Q : zModel → Prop) (hf : s_X11_logs u x1 x2 Q) : ∀ sz : Nat, Met l yX11_logs (Cond.code yX11_logs cX11_logs 4 none :: zT) rm_X11_logs (zPm dC dI cI cJ cS (cl_X11 cI cJ a u) [.ref (a 0), .int x1, .int x2] sz) (va_Qv Q (zB dC dI cI cJ cS (va_A (cl_X11 cI cJ a u) sz) (fun z => cl_X11 cI cJ a z)) (va_A (cl_X11 cI cJ a u) sz)) 0 0 (va_A (cl_X11 cI cJ a u) sz) := by
  obtain ⟨I17, h17, hf⟩ := st_X11_logs hf
  exact L_X11_logs l dC dI cI cJ cS a u x1 x2 Q I17 h17 hf
