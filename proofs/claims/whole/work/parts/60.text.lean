/-! numbers of a text in the reference -/
theorem first_at {p : Nat → Bool} {j n : Nat} (h : ∀ i, i < j → p i = false) (hj : p j = true) (hn : j < n) : fa_first p n = j := by
  have hlt : fa_first p n < n := by
    by_cases q : fa_first p n < n
    · exact q
    · have hle := fa_first_le p n
      have := fa_first_no p n j (by omega)
      rw [hj] at this
      exact absurd this (by decide)
  have hy := fa_first_yes p n hlt
  rcases Nat.lt_trichotomy (fa_first p n) j with q | q | q
  · rw [h _ q] at hy; exact absurd hy (by decide)
  · exact q
  · have := fa_first_no p n j q
    rw [hj] at this
    exact absurd this (by decide)
theorem first_none {p : Nat → Bool} {n : Nat} (h : ∀ i, i < n → p i = false) : fa_first p n = n := by
  have hle := fa_first_le p n
  by_cases q : fa_first p n < n
  · have hy := fa_first_yes p n q
    rw [h _ q] at hy
    exact absurd hy (by decide)
  · omega
theorem num_skip {u : zModel} {N q : Nat} {lo hi : Int32} {Q : Int32 → zModel → Prop} (ht : mTx u N q) (hf : ¬ u.2.2.2.2.2.2.2.2.2.2.2.2.2.1 = -1) (h : Q 0 u) : s_X11_number u lo hi Q := ⟨N, q, ht, fun _ => h, fun z => absurd z hf⟩
theorem num_go {u : zModel} {N p : Nat} {lo hi : Int32} {Q : Int32 → zModel → Prop} (ht : mTx u N p) (hf : u.2.2.2.2.2.2.2.2.2.2.2.2.2.1 = -1) (hok : nmOk (mTp u) N lo hi p = true → Q (nmV (mTp u) N p) (mAt u (nI (nmE (mTp u) N p)))) (hbad : nmOk (mTp u) N lo hi p = false → ∀ (x : Int32) (q : Nat), q ≤ N → Q x (mFt (mAt u (nI q)) (nI (nmB (mTp u) N p)))) : s_X11_number u lo hi Q := ⟨N, p, ht, fun z => absurd hf z, fun _ => ⟨hok, hbad⟩⟩
theorem mTx.at {u : zModel} {N p q : Nat} (h : mTx u N p) (hq : q ≤ N) : mTx (mAt u (nI q)) N q := ⟨h.1, hq, h.2.2.1, rfl⟩
theorem nBad_at {t : Nat → Int32} {N k e j : Nat} (h : ∀ i, i < j → nOk t N k e i = true) (hj : nOk t N k e j = false) (hn : j < nN k) : nBad t N k e = j := first_at (fun i hi => by rw [h i hi]; rfl) (by rw [hj]; rfl) hn
theorem nBad_none {t : Nat → Int32} {N k e : Nat} (h : ∀ i, i < nN k → nOk t N k e i = true) : nBad t N k e = nN k := first_none (fun i hi => by rw [h i hi]; rfl)
/-- what holds where a number of a text is wrong -/
def mBad (u : zModel) (N k e : Nat) (Q : zModel → Prop) : Prop := nBad (mTp u) N k e < nN k → ∀ q, q ≤ N → Q (mFt (mAt u (nI q)) (nI (nmB (mTp u) N (nPos (mTp u) N e (nBad (mTp u) N k e)))))
theorem nAr_n {t : Nat → Int32} {N k e i : Nat} (h : ¬ k = 6) : nAr t N k e i = nmV t N (nPos t N e i) := if_neg (fun q => h q.1)
theorem lt4p {P : Nat → Prop} (h0 : P 0) (h1 : P 1) (h2 : P 2) (h3 : P 3) : ∀ i, i < 4 → P i := by
  intro i hi
  match i, hi with
  | 0, _ => exact h0
  | 1, _ => exact h1
  | 2, _ => exact h2
  | 3, _ => exact h3
  | n + 4, h => exact absurd h (by omega)
theorem lt3p {P : Nat → Prop} (h0 : P 0) (h1 : P 1) (h2 : P 2) : ∀ i, i < 3 → P i := by
  intro i hi
  match i, hi with
  | 0, _ => exact h0
  | 1, _ => exact h1
  | 2, _ => exact h2
  | n + 3, h => exact absurd h (by omega)
theorem lt1p {P : Nat → Prop} (h0 : P 0) : ∀ i, i < 1 → P i := by
  intro i hi
  match i, hi with
  | 0, _ => exact h0
  | n + 1, h => exact absurd h (by omega)
theorem lt0p {P : Nat → Prop} : ∀ i, i < 0 → P i := fun i hi => absurd hi (Nat.not_lt_zero i)
theorem lt2p {P : Nat → Prop} (h0 : P 0) (h1 : P 1) : ∀ i, i < 2 → P i := by
  intro i hi
  match i, hi with
  | 0, _ => exact h0
  | 1, _ => exact h1
  | n + 2, h => exact absurd h (by omega)
theorem nm_sk (t : Nat → Int32) (N p : Nat) (lo hi : Int32) : nmB t N (pSk t N p) = nmB t N p ∧ nmE t N (pSk t N p) = nmE t N p ∧ nmV t N (pSk t N p) = nmV t N p ∧ nmOk t N lo hi (pSk t N p) = nmOk t N lo hi p := by
  have e1 : nmB t N (pSk t N p) = nmB t N p := pSk_idem t N p
  have e2 : nmE t N (pSk t N p) = nmE t N p := by unfold nmE; rw [e1]
  have e3 : nmV t N (pSk t N p) = nmV t N p := by unfold nmV; rw [e1, e2]
  refine ⟨e1, e2, e3, ?_⟩
  unfold nmOk
  rw [e1, e2, e3]

def t_X11_storeText (u : zModel) (Q : zModel → Prop) : Prop := s_X11_number u (50 : Int32) (200 : Int32) (fun (r_1 : Int32) (u_2 : zModel) => s_X11_number u_2 (0 : Int32) (40 : Int32) (fun (r_3 : Int32) (u_4 : zModel) => s_X11_number u_4 (2 : Int32) (16 : Int32) (fun (r_5 : Int32) (u_6 : zModel) => s_X11_number u_6 (1 : Int32) (4 : Int32) (fun (r_7 : Int32) (u_8 : zModel) => ((¬ u_8.2.2.2.2.2.2.2.2.2.2.2.2.2.1 = (-1 : Int32) → Q u_8) ∧ (u_8.2.2.2.2.2.2.2.2.2.2.2.2.2.1 = (-1 : Int32) → s_X11_stores u_8 r_1 r_3 r_5 r_7 (fun (u_11 : zModel) => Q u_11)))))))
theorem zc_X11_storeText : zCalV RX11 yX11_storeText cX11_storeText 5 none 0 := ⟨q_im_X11_storeText, q_se_X11_storeText, q_in_X11, q_cd_X11_storeText, ⟨by decide, by decide, by decide +kernel⟩, rfl⟩
abbrev rm_X11_storeText : Room := { frames := 2, cells := 0, slots := 0, locals := 46 }
set_option maxHeartbeats 4000000 in
set_option maxRecDepth 100000 in
theorem L_X11_storeText (l : Launch) (dC : Nat → ClassId) (dI : Nat → Nat → Nat) (cI cJ cS : ClassId) (a : Nat → Nat) (u : zModel) (Q : zModel → Prop) (hf : t_X11_storeText u Q) : ∀ sz : Nat, Met l yX11_storeText (Cond.code yX11_storeText cX11_storeText 5 none :: zT) rm_X11_storeText (zPm dC dI cI cJ cS (cl_X11 cI cJ a u) [.ref (a 0)] sz) (va_Qv Q (zB dC dI cI cJ cS (va_A (cl_X11 cI cJ a u) sz) (fun z => cl_X11 cI cJ a z)) (va_A (cl_X11 cI cJ a u) sz)) 0 0 (va_A (cl_X11 cI cJ a u) sz) := by
  intro sz
  refine z_enterM (Qc := fun A => va_Qv Q (zB dC dI cI cJ cS A (fun z => cl_X11 cI cJ a z)) A) (cc := cX11_storeText) (maxL := 5) (ret := none) (by decide) (Nat.le_of_ble_eq_true rfl) ?_
  intro p e s m below meth c ls A X hP hD hS hA hl
  obtain ⟨⟨hx, hb, hml, hown, hts⟩, hr, hlk, hK⟩ := id X
  have hl : lv_has ls 5 [(0, .ref (a 0))] := hl
  unfold t_X11_storeText at hf
  refine lv_aload_n hx hb dX11_storeText_0 rfl (lv_at hl 0 rfl) ?_
  refine lv_bipush (v := 50) hx hb dX11_storeText_1 (by decide) ?_
  refine lv_sipush (v := 200) hx hb dX11_storeText_3 (by decide) ?_
  refine z_mVi (Wn := (fun u_2 => cl_X11 cI cJ a u_2)) (As := [.int (50 : Int32), .int (200 : Int32)]) (rest := []) (wr := []) X (c_X11_number l dC dI cI cJ cS a u (50 : Int32) (200 : Int32) _ hf _) zc_X11_number q_ml_X11_190 ⟨rfl, rfl⟩ ⟨Nat.le_of_ble_eq_true rfl, Nat.le_of_ble_eq_true rfl⟩ hP hD hS hA [0, 1, 2, 3, 4, 5, 6, 7, 8] [] rfl (by decide) rfl (by decide) (by decide) [0, 1, 2, 3, 4, 5, 6, 7, 8] (by decide) (fun _ => rfl) 10 rfl rfl hl.1 rfl rfl (Nat.le_of_ble_eq_true rfl) ⟨Nat.zero_le _, Nat.zero_le _⟩ dX11_storeText_6 (fun r_1 u_2 H locs hf hP hD hS => ?_)
  refine lv_istore_n (lv' := [(1, .int r_1), (0, .ref (a 0))]) hx hb dX11_storeText_9 rfl hl (by decide) rfl (fun ls hl => ?_)
  refine lv_aload_n hx hb dX11_storeText_10 rfl (lv_at hl 1 rfl) ?_
  refine lv_iconst (v := 0) hx hb dX11_storeText_11 (by decide) ?_
  refine lv_bipush (v := 40) hx hb dX11_storeText_12 (by decide) ?_
  refine z_mVi (Wn := (fun u_4 => cl_X11 cI cJ a u_4)) (As := [.int (0 : Int32), .int (40 : Int32)]) (rest := []) (wr := []) X (c_X11_number l dC dI cI cJ cS a u_2 (0 : Int32) (40 : Int32) _ hf _) zc_X11_number q_ml_X11_190 ⟨rfl, rfl⟩ ⟨Nat.le_of_ble_eq_true rfl, Nat.le_of_ble_eq_true rfl⟩ hP hD hS hA [0, 1, 2, 3, 4, 5, 6, 7, 8] [] rfl (by decide) rfl (by decide) (by decide) [0, 1, 2, 3, 4, 5, 6, 7, 8] (by decide) (fun _ => rfl) 10 rfl rfl hl.1 rfl rfl (Nat.le_of_ble_eq_true rfl) ⟨Nat.zero_le _, Nat.zero_le _⟩ dX11_storeText_14 (fun r_3 u_4 H locs hf hP hD hS => ?_)
  refine lv_istore_n (lv' := [(2, .int r_3), (1, .int r_1), (0, .ref (a 0))]) hx hb dX11_storeText_17 rfl hl (by decide) rfl (fun ls hl => ?_)
  refine lv_aload_n hx hb dX11_storeText_18 rfl (lv_at hl 2 rfl) ?_
  refine lv_iconst (v := 2) hx hb dX11_storeText_19 (by decide) ?_
  refine lv_bipush (v := 16) hx hb dX11_storeText_20 (by decide) ?_
  refine z_mVi (Wn := (fun u_6 => cl_X11 cI cJ a u_6)) (As := [.int (2 : Int32), .int (16 : Int32)]) (rest := []) (wr := []) X (c_X11_number l dC dI cI cJ cS a u_4 (2 : Int32) (16 : Int32) _ hf _) zc_X11_number q_ml_X11_190 ⟨rfl, rfl⟩ ⟨Nat.le_of_ble_eq_true rfl, Nat.le_of_ble_eq_true rfl⟩ hP hD hS hA [0, 1, 2, 3, 4, 5, 6, 7, 8] [] rfl (by decide) rfl (by decide) (by decide) [0, 1, 2, 3, 4, 5, 6, 7, 8] (by decide) (fun _ => rfl) 10 rfl rfl hl.1 rfl rfl (Nat.le_of_ble_eq_true rfl) ⟨Nat.zero_le _, Nat.zero_le _⟩ dX11_storeText_22 (fun r_5 u_6 H locs hf hP hD hS => ?_)
  refine lv_istore_n (lv' := [(3, .int r_5), (2, .int r_3), (1, .int r_1), (0, .ref (a 0))]) hx hb dX11_storeText_25 rfl hl (by decide) rfl (fun ls hl => ?_)
  refine lv_aload_n hx hb dX11_storeText_26 rfl (lv_at hl 3 rfl) ?_
  refine lv_iconst (v := 1) hx hb dX11_storeText_27 (by decide) ?_
  refine lv_iconst (v := 4) hx hb dX11_storeText_28 (by decide) ?_
  refine z_mVi (Wn := (fun u_8 => cl_X11 cI cJ a u_8)) (As := [.int (1 : Int32), .int (4 : Int32)]) (rest := []) (wr := []) X (c_X11_number l dC dI cI cJ cS a u_6 (1 : Int32) (4 : Int32) _ hf _) zc_X11_number q_ml_X11_190 ⟨rfl, rfl⟩ ⟨Nat.le_of_ble_eq_true rfl, Nat.le_of_ble_eq_true rfl⟩ hP hD hS hA [0, 1, 2, 3, 4, 5, 6, 7, 8] [] rfl (by decide) rfl (by decide) (by decide) [0, 1, 2, 3, 4, 5, 6, 7, 8] (by decide) (fun _ => rfl) 10 rfl rfl hl.1 rfl rfl (Nat.le_of_ble_eq_true rfl) ⟨Nat.zero_le _, Nat.zero_le _⟩ dX11_storeText_29 (fun r_7 u_8 H locs hf hP hD hS => ?_)
  refine lv_istore (lv' := [(4, .int r_7), (3, .int r_5), (2, .int r_3), (1, .int r_1), (0, .ref (a 0))]) hx hb dX11_storeText_32 hl (by decide) rfl (fun ls hl => ?_)
  refine lv_aload_n hx hb dX11_storeText_34 rfl (lv_at hl 4 rfl) ?_
  refine va_get (D := (dC, dI)) (ci := 10) (v := .int u_8.2.2.2.2.2.2.2.2.2.2.2.2.2.1) (C := RX11) (T := TX11) (N := 17) hx hb hts inX11 hown hK hP 0 rfl rfl 13 (by decide) (hts _ q_fl_X11_29) (fun _ h9 => h9) rfl dX11_storeText_35 ?_
  refine lv_iconst (v := (-1)) hx hb dX11_storeText_38 (by decide) ?_
  refine lv_icmp_ne (tgt := 51) hx hb dX11_storeText_39 (by decide) (fun c_9 => ?_) (fun c_9 => ?_)
  · have hf := hf.1 c_9
    exact z_retMv (Wf := (fun z => cl_X11 cI cJ a z)) (u := u_8) X hf hP hD hS dX11_storeText_51
  · have hf := hf.2 c_9
    refine lv_aload_n hx hb dX11_storeText_42 rfl (lv_at hl 4 rfl) ?_
    refine lv_iload_n hx hb dX11_storeText_43 rfl (lv_at hl 3 rfl) ?_
    refine lv_iload_n hx hb dX11_storeText_44 rfl (lv_at hl 2 rfl) ?_
    refine lv_iload_n hx hb dX11_storeText_45 rfl (lv_at hl 1 rfl) ?_
    refine lv_iload hx hb dX11_storeText_46 (lv_at hl 0 rfl) ?_
    refine z_mVv (Wn := (fun u_11 => cl_X11 cI cJ a u_11)) (As := [.int r_1, .int r_3, .int r_5, .int r_7]) (rest := []) (wr := []) X (c_X11_stores l dC dI cI cJ cS a u_8 r_1 r_3 r_5 r_7 _ hf _) zc_X11_stores q_ml_X11_39 ⟨rfl, rfl⟩ ⟨Nat.le_of_ble_eq_true rfl, Nat.le_of_ble_eq_true rfl⟩ hP hD hS hA [0, 1, 2, 3, 4, 5, 6, 7, 8] [] rfl (by decide) rfl (by decide) (by decide) [0, 1, 2, 3, 4, 5, 6, 7, 8] (by decide) (fun _ => rfl) 10 rfl rfl hl.1 rfl rfl (Nat.le_of_ble_eq_true rfl) ⟨Nat.zero_le _, Nat.zero_le _⟩ dX11_storeText_48 (fun u_11 H locs hf hP hD hS => ?_)
    exact z_retMv (Wf := (fun z => cl_X11 cI cJ a z)) (u := u_11) X hf hP hD hS dX11_storeText_51
def s_X11_storeText (u : zModel) (Q : zModel → Prop) : Prop := ∃ (v : zState) (N p : Nat), mTx u N p ∧ u.2.2.2.2.2.2.2.2.2.2.2.2.2.1 = -1 ∧ (nBad (mTp u) N 0 p = 4 → ∀ m' : Nat → Int32, mRel (uBegin v (nmV (mTp u) N (nPos (mTp u) N p 0)) (nmV (mTp u) N (nPos (mTp u) N p 1)) (nmV (mTp u) N (nPos (mTp u) N p 2)) (nmV (mTp u) N (nPos (mTp u) N p 3))) m' → Q (mAt (u.1, m', u.2.2) (nI (nPos (mTp u) N p 4)))) ∧ mBad u N 0 p Q
theorem st_X11_storeText {u : zModel} {Q : zModel → Prop} (h : s_X11_storeText u Q) : t_X11_storeText u Q := by
  obtain ⟨v, N, p, ht, hf, hQ, hB⟩ := h
  have hp := nPos_le (mTp u) ht.2.1
  have bad : ∀ j, j < 4 → (∀ i, i < j → nOk (mTp u) N 0 p i = true) → nOk (mTp u) N 0 p j = false → ∀ q, q ≤ N → Q (mFt (mAt u (nI q)) (nI (nmB (mTp u) N (nPos (mTp u) N p j)))) := fun j hj hi hb q hq => by
    have e := nBad_at hi hb hj
    have := hB (by rw [e]; exact hj) q hq
    rw [e] at this; exact this
  have hfa : ∀ a b : Nat, a ≤ N → ¬ (mFt (mAt u (nI b)) (nI a)).2.2.2.2.2.2.2.2.2.2.2.2.2.1 = -1 := fun a b h => n_neg (n := a) (by have := ht.1; omega)
  have htf : ∀ a q : Nat, q ≤ N → mTx (mFt (mAt u (nI q)) (nI a)) N q := fun a q hq => ⟨ht.1, hq, ht.2.2.1, rfl⟩
  refine num_go ht hf (fun k0 => ?_) (fun k0 x q hq => num_skip (htf _ q hq) (hfa _ q (nmB_le _ (hp 0))) (num_skip (htf _ q hq) (hfa _ q (nmB_le _ (hp 0))) (num_skip (htf _ q hq) (hfa _ q (nmB_le _ (hp 0))) ⟨fun _ => bad 0 (by decide) lt0p k0 q hq, fun z => absurd z (hfa _ q (nmB_le _ (hp 0)))⟩)))
  refine num_go (ht.at (hp 1)) hf (fun k1 => ?_) (fun k1 x q hq => num_skip (htf _ q hq) (hfa _ q (nmB_le _ (hp 1))) (num_skip (htf _ q hq) (hfa _ q (nmB_le _ (hp 1))) ⟨fun _ => bad 1 (by decide) (lt1p k0) k1 q hq, fun z => absurd z (hfa _ q (nmB_le _ (hp 1)))⟩))
  refine num_go (ht.at (hp 2)) hf (fun k2 => ?_) (fun k2 x q hq => num_skip (htf _ q hq) (hfa _ q (nmB_le _ (hp 2))) ⟨fun _ => bad 2 (by decide) (lt2p k0 k1) k2 q hq, fun z => absurd z (hfa _ q (nmB_le _ (hp 2)))⟩)
  refine num_go (ht.at (hp 3)) hf (fun k3 => ⟨fun z => absurd hf z, fun _ => ⟨v, fun m' hm' => ?_⟩⟩) (fun k3 x q hq => ⟨fun _ => bad 3 (by decide) (lt3p k0 k1 k2) k3 q hq, fun z => absurd z (hfa _ q (nmB_le _ (hp 3)))⟩)
  exact hQ (nBad_none (k := 0) (lt4p k0 k1 k2 k3)) m' hm'
theorem c_X11_storeText (l : Launch) (dC : Nat → ClassId) (dI : Nat → Nat → Nat) (cI cJ cS : ClassId) (a : Nat → Nat) (u : zModel) (Q : zModel → Prop) (hf : s_X11_storeText u Q) : ∀ sz : Nat, Met l yX11_storeText (Cond.code yX11_storeText cX11_storeText 5 none :: zT) rm_X11_storeText (zPm dC dI cI cJ cS (cl_X11 cI cJ a u) [.ref (a 0)] sz) (va_Qv Q (zB dC dI cI cJ cS (va_A (cl_X11 cI cJ a u) sz) (fun z => cl_X11 cI cJ a z)) (va_A (cl_X11 cI cJ a u) sz)) 0 0 (va_A (cl_X11 cI cJ a u) sz) := L_X11_storeText l dC dI cI cJ cS a u Q (st_X11_storeText hf)

def t_X11_putText (u : zModel) (Q : Int32 → zModel → Prop) : Prop := s_X11_number u (0 : Int32) (63 : Int32) (fun (r_1 : Int32) (u_2 : zModel) => s_X11_number u_2 (1 : Int32) (40 : Int32) (fun (r_3 : Int32) (u_4 : zModel) => s_X11_number u_4 (0 : Int32) (255 : Int32) (fun (r_5 : Int32) (u_6 : zModel) => ((¬ u_6.2.2.2.2.2.2.2.2.2.2.2.2.2.1 = (-1 : Int32) → Q (0 : Int32) u_6) ∧ (u_6.2.2.2.2.2.2.2.2.2.2.2.2.2.1 = (-1 : Int32) → s_X11_put0 u_6 r_1 r_3 r_5 (fun (r_8 : Int32) (u_9 : zModel) => Q r_8 u_9))))))
theorem zc_X11_putText : zCalV RX11 yX11_putText cX11_putText 4 (some .int) 0 := ⟨q_im_X11_putText, q_se_X11_putText, q_in_X11, q_cd_X11_putText, ⟨by decide, by decide, by decide +kernel⟩, rfl⟩
abbrev rm_X11_putText : Room := { frames := 7, cells := 0, slots := 0, locals := 156 }
set_option maxHeartbeats 4000000 in
set_option maxRecDepth 100000 in
theorem L_X11_putText (l : Launch) (dC : Nat → ClassId) (dI : Nat → Nat → Nat) (cI cJ cS : ClassId) (a : Nat → Nat) (u : zModel) (Q : Int32 → zModel → Prop) (hf : t_X11_putText u Q) : ∀ sz : Nat, Met l yX11_putText (Cond.code yX11_putText cX11_putText 4 (some .int) :: zT) rm_X11_putText (zPm dC dI cI cJ cS (cl_X11 cI cJ a u) [.ref (a 0)] sz) (va_Qi Q (zB dC dI cI cJ cS (va_A (cl_X11 cI cJ a u) sz) (fun z => cl_X11 cI cJ a z)) (va_A (cl_X11 cI cJ a u) sz)) 0 0 (va_A (cl_X11 cI cJ a u) sz) := by
  intro sz
  refine z_enterM (Qc := fun A => va_Qi Q (zB dC dI cI cJ cS A (fun z => cl_X11 cI cJ a z)) A) (cc := cX11_putText) (maxL := 4) (ret := (some .int)) (by decide) (Nat.le_of_ble_eq_true rfl) ?_
  intro p e s m below meth c ls A X hP hD hS hA hl
  obtain ⟨⟨hx, hb, hml, hown, hts⟩, hr, hlk, hK⟩ := id X
  have hl : lv_has ls 4 [(0, .ref (a 0))] := hl
  unfold t_X11_putText at hf
  refine lv_aload_n hx hb dX11_putText_0 rfl (lv_at hl 0 rfl) ?_
  refine lv_iconst (v := 0) hx hb dX11_putText_1 (by decide) ?_
  refine lv_bipush (v := 63) hx hb dX11_putText_2 (by decide) ?_
  refine z_mVi (Wn := (fun u_2 => cl_X11 cI cJ a u_2)) (As := [.int (0 : Int32), .int (63 : Int32)]) (rest := []) (wr := []) X (c_X11_number l dC dI cI cJ cS a u (0 : Int32) (63 : Int32) _ hf _) zc_X11_number q_ml_X11_190 ⟨rfl, rfl⟩ ⟨Nat.le_of_ble_eq_true rfl, Nat.le_of_ble_eq_true rfl⟩ hP hD hS hA [0, 1, 2, 3, 4, 5, 6, 7, 8] [] rfl (by decide) rfl (by decide) (by decide) [0, 1, 2, 3, 4, 5, 6, 7, 8] (by decide) (fun _ => rfl) 10 rfl rfl hl.1 rfl rfl (Nat.le_of_ble_eq_true rfl) ⟨Nat.zero_le _, Nat.zero_le _⟩ dX11_putText_4 (fun r_1 u_2 H locs hf hP hD hS => ?_)
  refine lv_istore_n (lv' := [(1, .int r_1), (0, .ref (a 0))]) hx hb dX11_putText_7 rfl hl (by decide) rfl (fun ls hl => ?_)
  refine lv_aload_n hx hb dX11_putText_8 rfl (lv_at hl 1 rfl) ?_
  refine lv_iconst (v := 1) hx hb dX11_putText_9 (by decide) ?_
  refine lv_bipush (v := 40) hx hb dX11_putText_10 (by decide) ?_
  refine z_mVi (Wn := (fun u_4 => cl_X11 cI cJ a u_4)) (As := [.int (1 : Int32), .int (40 : Int32)]) (rest := []) (wr := []) X (c_X11_number l dC dI cI cJ cS a u_2 (1 : Int32) (40 : Int32) _ hf _) zc_X11_number q_ml_X11_190 ⟨rfl, rfl⟩ ⟨Nat.le_of_ble_eq_true rfl, Nat.le_of_ble_eq_true rfl⟩ hP hD hS hA [0, 1, 2, 3, 4, 5, 6, 7, 8] [] rfl (by decide) rfl (by decide) (by decide) [0, 1, 2, 3, 4, 5, 6, 7, 8] (by decide) (fun _ => rfl) 10 rfl rfl hl.1 rfl rfl (Nat.le_of_ble_eq_true rfl) ⟨Nat.zero_le _, Nat.zero_le _⟩ dX11_putText_12 (fun r_3 u_4 H locs hf hP hD hS => ?_)
  refine lv_istore_n (lv' := [(2, .int r_3), (1, .int r_1), (0, .ref (a 0))]) hx hb dX11_putText_15 rfl hl (by decide) rfl (fun ls hl => ?_)
  refine lv_aload_n hx hb dX11_putText_16 rfl (lv_at hl 2 rfl) ?_
  refine lv_iconst (v := 0) hx hb dX11_putText_17 (by decide) ?_
  refine lv_sipush (v := 255) hx hb dX11_putText_18 (by decide) ?_
  refine z_mVi (Wn := (fun u_6 => cl_X11 cI cJ a u_6)) (As := [.int (0 : Int32), .int (255 : Int32)]) (rest := []) (wr := []) X (c_X11_number l dC dI cI cJ cS a u_4 (0 : Int32) (255 : Int32) _ hf _) zc_X11_number q_ml_X11_190 ⟨rfl, rfl⟩ ⟨Nat.le_of_ble_eq_true rfl, Nat.le_of_ble_eq_true rfl⟩ hP hD hS hA [0, 1, 2, 3, 4, 5, 6, 7, 8] [] rfl (by decide) rfl (by decide) (by decide) [0, 1, 2, 3, 4, 5, 6, 7, 8] (by decide) (fun _ => rfl) 10 rfl rfl hl.1 rfl rfl (Nat.le_of_ble_eq_true rfl) ⟨Nat.zero_le _, Nat.zero_le _⟩ dX11_putText_21 (fun r_5 u_6 H locs hf hP hD hS => ?_)
  refine lv_istore_n (lv' := [(3, .int r_5), (2, .int r_3), (1, .int r_1), (0, .ref (a 0))]) hx hb dX11_putText_24 rfl hl (by decide) rfl (fun ls hl => ?_)
  refine lv_aload_n hx hb dX11_putText_25 rfl (lv_at hl 3 rfl) ?_
  refine va_get (D := (dC, dI)) (ci := 10) (v := .int u_6.2.2.2.2.2.2.2.2.2.2.2.2.2.1) (C := RX11) (T := TX11) (N := 17) hx hb hts inX11 hown hK hP 0 rfl rfl 13 (by decide) (hts _ q_fl_X11_29) (fun _ h9 => h9) rfl dX11_putText_26 ?_
  refine lv_iconst (v := (-1)) hx hb dX11_putText_29 (by decide) ?_
  refine lv_icmp_ne (tgt := 43) hx hb dX11_putText_30 (by decide) (fun c_7 => ?_) (fun c_7 => ?_)
  · have hf := hf.1 c_7
    refine lv_iconst (v := 0) hx hb dX11_putText_43 (by decide) ?_
    exact z_retMi (Wf := (fun z => cl_X11 cI cJ a z)) (u := u_6) X hf hP hD hS dX11_putText_44
  · have hf := hf.2 c_7
    refine lv_aload_n hx hb dX11_putText_33 rfl (lv_at hl 3 rfl) ?_
    refine lv_iload_n hx hb dX11_putText_34 rfl (lv_at hl 2 rfl) ?_
    refine lv_iload_n hx hb dX11_putText_35 rfl (lv_at hl 1 rfl) ?_
    refine lv_iload_n hx hb dX11_putText_36 rfl (lv_at hl 0 rfl) ?_
    refine z_mVi (Wn := (fun u_9 => cl_X11 cI cJ a u_9)) (As := [.int r_1, .int r_3, .int r_5]) (rest := []) (wr := []) X (c_X11_put0 l dC dI cI cJ cS a u_6 r_1 r_3 r_5 _ hf _) zc_X11_put0 q_ml_X11_193 ⟨rfl, rfl⟩ ⟨Nat.le_of_ble_eq_true rfl, Nat.le_of_ble_eq_true rfl⟩ hP hD hS hA [0, 1, 2, 3, 4, 5, 6, 7, 8] [] rfl (by decide) rfl (by decide) (by decide) [0, 1, 2, 3, 4, 5, 6, 7, 8] (by decide) (fun _ => rfl) 10 rfl rfl hl.1 rfl rfl (Nat.le_of_ble_eq_true rfl) ⟨Nat.zero_le _, Nat.zero_le _⟩ dX11_putText_37 (fun r_8 u_9 H locs hf hP hD hS => ?_)
    refine lv_goto (tgt := 44) hx hb dX11_putText_40 (by decide) ?_
    exact z_retMi (Wf := (fun z => cl_X11 cI cJ a z)) (u := u_9) X hf hP hD hS dX11_putText_44
def s_X11_putText (u : zModel) (Q : Int32 → zModel → Prop) : Prop := ∃ (B : Nat) (v : zState) (N p : Nat), okB B v ∧ B + 2 ≤ 400000 ∧ mRel v u.2.1 ∧ mTx u N p ∧ u.2.2.2.2.2.2.2.2.2.2.2.2.2.1 = -1 ∧ (nBad (mTp u) N 1 p = 3 → ((doA v 1 (nmV (mTp u) N (nPos (mTp u) N p 0)) (nmV (mTp u) N (nPos (mTp u) N p 1)) (nmV (mTp u) N (nPos (mTp u) N p 2)) 0).1 = 0 → ∀ m' : Nat → Int32, mRel (doA v 1 (nmV (mTp u) N (nPos (mTp u) N p 0)) (nmV (mTp u) N (nPos (mTp u) N p 1)) (nmV (mTp u) N (nPos (mTp u) N p 2)) 0).2 m' → Q 0 (mAt (u.1, m', u.2.2) (nI (nPos (mTp u) N p 3)))) ∧ (¬ (doA v 1 (nmV (mTp u) N (nPos (mTp u) N p 0)) (nmV (mTp u) N (nPos (mTp u) N p 1)) (nmV (mTp u) N (nPos (mTp u) N p 2)) 0).1 = 0 → Q (doA v 1 (nmV (mTp u) N (nPos (mTp u) N p 0)) (nmV (mTp u) N (nPos (mTp u) N p 1)) (nmV (mTp u) N (nPos (mTp u) N p 2)) 0).1 (mAt u (nI (nPos (mTp u) N p 3))))) ∧ mBad u N 1 p (Q 0)
theorem nmOk_in {t : Nat → Int32} {N p : Nat} {lo hi : Int32} (h : nmOk t N lo hi p = true) : inR (nmV t N p) lo hi := (of_decide_eq_true h).2.2
theorem st_X11_putText {u : zModel} {Q : Int32 → zModel → Prop} (h : s_X11_putText u Q) : t_X11_putText u Q := by
  obtain ⟨B, v, N, p, hv, hB2, hr, ht, hf, hQ, hB⟩ := h
  have hp := nPos_le (mTp u) ht.2.1
  have bad : ∀ j, j < 3 → (∀ i, i < j → nOk (mTp u) N 1 p i = true) → nOk (mTp u) N 1 p j = false → ∀ q, q ≤ N → Q 0 (mFt (mAt u (nI q)) (nI (nmB (mTp u) N (nPos (mTp u) N p j)))) := fun j hj hi hb q hq => by
    have e := nBad_at hi hb hj
    have := hB (by rw [e]; exact hj) q hq
    rw [e] at this; exact this
  have hfa : ∀ a b : Nat, a ≤ N → ¬ (mFt (mAt u (nI b)) (nI a)).2.2.2.2.2.2.2.2.2.2.2.2.2.1 = -1 := fun a b h => n_neg (n := a) (by have := ht.1; omega)
  have htf : ∀ a q : Nat, q ≤ N → mTx (mFt (mAt u (nI q)) (nI a)) N q := fun a q hq => ⟨ht.1, hq, ht.2.2.1, rfl⟩
  refine num_go ht hf (fun k0 => ?_) (fun k0 x q hq => num_skip (htf _ q hq) (hfa _ q (nmB_le _ (hp 0))) (num_skip (htf _ q hq) (hfa _ q (nmB_le _ (hp 0))) ⟨fun _ => bad 0 (by decide) lt0p k0 q hq, fun z => absurd z (hfa _ q (nmB_le _ (hp 0)))⟩))
  refine num_go (ht.at (hp 1)) hf (fun k1 => ?_) (fun k1 x q hq => num_skip (htf _ q hq) (hfa _ q (nmB_le _ (hp 1))) ⟨fun _ => bad 1 (by decide) (lt1p k0) k1 q hq, fun z => absurd z (hfa _ q (nmB_le _ (hp 1)))⟩)
  refine num_go (ht.at (hp 2)) hf (fun k2 => ⟨fun z => absurd hf z, fun _ => ?_⟩) (fun k2 x q hq => ⟨fun _ => bad 2 (by decide) (lt2p k0 k1) k2 q hq, fun z => absurd z (hfa _ q (nmB_le _ (hp 2)))⟩)
  have hQ := hQ (nBad_none (k := 1) (lt3p k0 k1 k2))
  have i0 : inR (nmV (mTp u) N (nPos (mTp u) N p 0)) 0 63 := nmOk_in k0
  have i1 : inR (nmV (mTp u) N (nPos (mTp u) N p 1)) 1 40 := nmOk_in k1
  have i2 : inR (nmV (mTp u) N (nPos (mTp u) N p 2)) 0 255 := nmOk_in k2
  show s_X11_put0 (mAt u (nI (nPos (mTp u) N p 3))) (nmV (mTp u) N (nPos (mTp u) N p 0)) (nmV (mTp u) N (nPos (mTp u) N p 1)) (nmV (mTp u) N (nPos (mTp u) N p 2)) _
  generalize nmV (mTp u) N (nPos (mTp u) N p 0) = a at *
  generalize nmV (mTp u) N (nPos (mTp u) N p 1) = b at *
  generalize nmV (mTp u) N (nPos (mTp u) N p 2) = c at *
  obtain ⟨ka, hka, rfl, ea⟩ := key_n i0
  obtain ⟨ln, hl1, hl2, rfl, el⟩ := inR_n (a := 1) (b := 40) (by decide) (by decide) i1
  obtain ⟨sd, -, hs2, rfl, esd⟩ := inR_n (a := 0) (b := 255) (by decide) (by decide) i2
  obtain ⟨ρ, β, mo, lm, L, S, M, hP⟩ := id hv
  unfold doA at hQ
  rw [ea, el, esd] at hQ
  refine ⟨v, ρ, β, mo, lm, L, S, M, B, ka, ln, sd, hP, hB2, hka, hl1, hl2, by omega, rfl, rfl, rfl, hr, fun hfit m' hm' => ?_, fun hfit => ?_⟩
  · rw [if_pos hfit] at hQ
    exact hQ.1 rfl m' hm'
  · rw [if_neg (by rw [hfit]; decide)] at hQ
    exact hQ.2 (by show ¬ (1 : Int32) = 0; decide)
theorem c_X11_putText (l : Launch) (dC : Nat → ClassId) (dI : Nat → Nat → Nat) (cI cJ cS : ClassId) (a : Nat → Nat) (u : zModel) (Q : Int32 → zModel → Prop) (hf : s_X11_putText u Q) : ∀ sz : Nat, Met l yX11_putText (Cond.code yX11_putText cX11_putText 4 (some .int) :: zT) rm_X11_putText (zPm dC dI cI cJ cS (cl_X11 cI cJ a u) [.ref (a 0)] sz) (va_Qi Q (zB dC dI cI cJ cS (va_A (cl_X11 cI cJ a u) sz) (fun z => cl_X11 cI cJ a z)) (va_A (cl_X11 cI cJ a u) sz)) 0 0 (va_A (cl_X11 cI cJ a u) sz) := L_X11_putText l dC dI cI cJ cS a u Q (st_X11_putText hf)

def t_X11_pickText (u : zModel) (Q : Int32 → zModel → Prop) : Prop := s_X11_isFigure u (fun (r_1 : Int32) (u_2 : zModel) => ((r_1 = 0 → ((¬ u_2.2.2.2.2.2.2.2.2.2.2.2.2.2.1 = (-1 : Int32) → Q (0 : Int32) u_2) ∧ (u_2.2.2.2.2.2.2.2.2.2.2.2.2.2.1 = (-1 : Int32) → s_X11_pick0 u_2 (-1 : Int32) (fun (r_5 : Int32) (u_6 : zModel) => Q r_5 u_6)))) ∧ (¬ r_1 = 0 → s_X11_number u_2 (0 : Int32) (11 : Int32) (fun (r_7 : Int32) (u_8 : zModel) => ((¬ u_8.2.2.2.2.2.2.2.2.2.2.2.2.2.1 = (-1 : Int32) → Q (0 : Int32) u_8) ∧ (u_8.2.2.2.2.2.2.2.2.2.2.2.2.2.1 = (-1 : Int32) → s_X11_pick0 u_8 r_7 (fun (r_10 : Int32) (u_11 : zModel) => Q r_10 u_11)))))))
theorem zc_X11_pickText : zCalV RX11 yX11_pickText cX11_pickText 2 (some .int) 0 := ⟨q_im_X11_pickText, q_se_X11_pickText, q_in_X11, q_cd_X11_pickText, ⟨by decide, by decide, by decide +kernel⟩, rfl⟩
abbrev rm_X11_pickText : Room := { frames := 8, cells := 0, slots := 0, locals := 180 }
set_option maxHeartbeats 4000000 in
set_option maxRecDepth 100000 in
theorem L_X11_pickText (l : Launch) (dC : Nat → ClassId) (dI : Nat → Nat → Nat) (cI cJ cS : ClassId) (a : Nat → Nat) (u : zModel) (Q : Int32 → zModel → Prop) (hf : t_X11_pickText u Q) : ∀ sz : Nat, Met l yX11_pickText (Cond.code yX11_pickText cX11_pickText 2 (some .int) :: zT) rm_X11_pickText (zPm dC dI cI cJ cS (cl_X11 cI cJ a u) [.ref (a 0)] sz) (va_Qi Q (zB dC dI cI cJ cS (va_A (cl_X11 cI cJ a u) sz) (fun z => cl_X11 cI cJ a z)) (va_A (cl_X11 cI cJ a u) sz)) 0 0 (va_A (cl_X11 cI cJ a u) sz) := by
  intro sz
  refine z_enterM (Qc := fun A => va_Qi Q (zB dC dI cI cJ cS A (fun z => cl_X11 cI cJ a z)) A) (cc := cX11_pickText) (maxL := 2) (ret := (some .int)) (by decide) (Nat.le_of_ble_eq_true rfl) ?_
  intro p e s m below meth c ls A X hP hD hS hA hl
  obtain ⟨⟨hx, hb, hml, hown, hts⟩, hr, hlk, hK⟩ := id X
  have hl : lv_has ls 2 [(0, .ref (a 0))] := hl
  unfold t_X11_pickText at hf
  refine lv_aload_n hx hb dX11_pickText_0 rfl (lv_at hl 0 rfl) ?_
  refine z_mVi (Wn := (fun u_2 => cl_X11 cI cJ a u_2)) (As := []) (rest := []) (wr := []) X (c_X11_isFigure l dC dI cI cJ cS a u  _ hf _) zc_X11_isFigure q_ml_X11_196 ⟨rfl, rfl⟩ ⟨Nat.le_of_ble_eq_true rfl, Nat.le_of_ble_eq_true rfl⟩ hP hD hS hA [0, 1, 2, 3, 4, 5, 6, 7, 8] [] rfl (by decide) rfl (by decide) (by decide) [0, 1, 2, 3, 4, 5, 6, 7, 8] (by decide) (fun _ => rfl) 10 rfl rfl hl.1 rfl rfl (Nat.le_of_ble_eq_true rfl) ⟨Nat.zero_le _, Nat.zero_le _⟩ dX11_pickText_1 (fun r_1 u_2 H locs hf hP hD hS => ?_)
  obtain ⟨hbr_1, hf⟩ := hf
  refine lv_if_eq (tgt := 17) hx hb dX11_pickText_4 (by decide) (fun c_3 => ?_) (fun c_3 => ?_)
  · have hf := hf.1 c_3
    refine lv_iconst (v := (-1)) hx hb dX11_pickText_17 (by decide) ?_
    refine lv_istore_n (lv' := [(1, .int (-1 : Int32)), (0, .ref (a 0))]) hx hb dX11_pickText_18 rfl hl (by decide) rfl (fun ls hl => ?_)
    refine lv_aload_n hx hb dX11_pickText_19 rfl (lv_at hl 1 rfl) ?_
    refine va_get (D := (dC, dI)) (ci := 10) (v := .int u_2.2.2.2.2.2.2.2.2.2.2.2.2.2.1) (C := RX11) (T := TX11) (N := 17) hx hb hts inX11 hown hK hP 0 rfl rfl 13 (by decide) (hts _ q_fl_X11_29) (fun _ h9 => h9) rfl dX11_pickText_20 ?_
    refine lv_iconst (v := (-1)) hx hb dX11_pickText_23 (by decide) ?_
    refine lv_icmp_ne (tgt := 35) hx hb dX11_pickText_24 (by decide) (fun c_4 => ?_) (fun c_4 => ?_)
    · have hf := hf.1 c_4
      refine lv_iconst (v := 0) hx hb dX11_pickText_35 (by decide) ?_
      exact z_retMi (Wf := (fun z => cl_X11 cI cJ a z)) (u := u_2) X hf hP hD hS dX11_pickText_36
    · have hf := hf.2 c_4
      refine lv_aload_n hx hb dX11_pickText_27 rfl (lv_at hl 1 rfl) ?_
      refine lv_iload_n hx hb dX11_pickText_28 rfl (lv_at hl 0 rfl) ?_
      refine z_mVi (Wn := (fun u_6 => cl_X11 cI cJ a u_6)) (As := [.int (-1 : Int32)]) (rest := []) (wr := []) X (c_X11_pick0 l dC dI cI cJ cS a u_2 (-1 : Int32) _ hf _) zc_X11_pick0 q_ml_X11_200 ⟨rfl, rfl⟩ ⟨Nat.le_of_ble_eq_true rfl, Nat.le_of_ble_eq_true rfl⟩ hP hD hS hA [0, 1, 2, 3, 4, 5, 6, 7, 8] [] rfl (by decide) rfl (by decide) (by decide) [0, 1, 2, 3, 4, 5, 6, 7, 8] (by decide) (fun _ => rfl) 10 rfl rfl hl.1 rfl rfl (Nat.le_of_ble_eq_true rfl) ⟨Nat.zero_le _, Nat.zero_le _⟩ dX11_pickText_29 (fun r_5 u_6 H locs hf hP hD hS => ?_)
      refine lv_goto (tgt := 36) hx hb dX11_pickText_32 (by decide) ?_
      exact z_retMi (Wf := (fun z => cl_X11 cI cJ a z)) (u := u_6) X hf hP hD hS dX11_pickText_36
  · have hf := hf.2 c_3
    refine lv_aload_n hx hb dX11_pickText_7 rfl (lv_at hl 0 rfl) ?_
    refine lv_iconst (v := 0) hx hb dX11_pickText_8 (by decide) ?_
    refine lv_bipush (v := 11) hx hb dX11_pickText_9 (by decide) ?_
    refine z_mVi (Wn := (fun u_8 => cl_X11 cI cJ a u_8)) (As := [.int (0 : Int32), .int (11 : Int32)]) (rest := []) (wr := []) X (c_X11_number l dC dI cI cJ cS a u_2 (0 : Int32) (11 : Int32) _ hf _) zc_X11_number q_ml_X11_190 ⟨rfl, rfl⟩ ⟨Nat.le_of_ble_eq_true rfl, Nat.le_of_ble_eq_true rfl⟩ hP hD hS hA [0, 1, 2, 3, 4, 5, 6, 7, 8] [] rfl (by decide) rfl (by decide) (by decide) [0, 1, 2, 3, 4, 5, 6, 7, 8] (by decide) (fun _ => rfl) 10 rfl rfl hl.1 rfl rfl (Nat.le_of_ble_eq_true rfl) ⟨Nat.zero_le _, Nat.zero_le _⟩ dX11_pickText_11 (fun r_7 u_8 H locs hf hP hD hS => ?_)
    refine lv_goto (tgt := 18) hx hb dX11_pickText_14 (by decide) ?_
    refine lv_istore_n (lv' := [(1, .int r_7), (0, .ref (a 0))]) hx hb dX11_pickText_18 rfl hl (by decide) rfl (fun ls hl => ?_)
    refine lv_aload_n hx hb dX11_pickText_19 rfl (lv_at hl 1 rfl) ?_
    refine va_get (D := (dC, dI)) (ci := 10) (v := .int u_8.2.2.2.2.2.2.2.2.2.2.2.2.2.1) (C := RX11) (T := TX11) (N := 17) hx hb hts inX11 hown hK hP 0 rfl rfl 13 (by decide) (hts _ q_fl_X11_29) (fun _ h9 => h9) rfl dX11_pickText_20 ?_
    refine lv_iconst (v := (-1)) hx hb dX11_pickText_23 (by decide) ?_
    refine lv_icmp_ne (tgt := 35) hx hb dX11_pickText_24 (by decide) (fun c_9 => ?_) (fun c_9 => ?_)
    · have hf := hf.1 c_9
      refine lv_iconst (v := 0) hx hb dX11_pickText_35 (by decide) ?_
      exact z_retMi (Wf := (fun z => cl_X11 cI cJ a z)) (u := u_8) X hf hP hD hS dX11_pickText_36
    · have hf := hf.2 c_9
      refine lv_aload_n hx hb dX11_pickText_27 rfl (lv_at hl 1 rfl) ?_
      refine lv_iload_n hx hb dX11_pickText_28 rfl (lv_at hl 0 rfl) ?_
      refine z_mVi (Wn := (fun u_11 => cl_X11 cI cJ a u_11)) (As := [.int r_7]) (rest := []) (wr := []) X (c_X11_pick0 l dC dI cI cJ cS a u_8 r_7 _ hf _) zc_X11_pick0 q_ml_X11_200 ⟨rfl, rfl⟩ ⟨Nat.le_of_ble_eq_true rfl, Nat.le_of_ble_eq_true rfl⟩ hP hD hS hA [0, 1, 2, 3, 4, 5, 6, 7, 8] [] rfl (by decide) rfl (by decide) (by decide) [0, 1, 2, 3, 4, 5, 6, 7, 8] (by decide) (fun _ => rfl) 10 rfl rfl hl.1 rfl rfl (Nat.le_of_ble_eq_true rfl) ⟨Nat.zero_le _, Nat.zero_le _⟩ dX11_pickText_29 (fun r_10 u_11 H locs hf hP hD hS => ?_)
      refine lv_goto (tgt := 36) hx hb dX11_pickText_32 (by decide) ?_
      exact z_retMi (Wf := (fun z => cl_X11 cI cJ a z)) (u := u_11) X hf hP hD hS dX11_pickText_36
def s_X11_pickText (u : zModel) (Q : Int32 → zModel → Prop) : Prop := ∃ (B : Nat) (v : zState) (N p : Nat), okB B v ∧ mRel v u.2.1 ∧ mTx u N p ∧ u.2.2.2.2.2.2.2.2.2.2.2.2.2.1 = -1 ∧ ((pkNo (mTp u) N p = true ∨ nBad (mTp u) N 6 p = 1) → ((doA v 6 (nAr (mTp u) N 6 p 0) 0 0 0).1 = 0 → ∀ m' : Nat → Int32, mRel (doA v 6 (nAr (mTp u) N 6 p 0) 0 0 0).2 m' → Q 0 (mAt (u.1, m', u.2.2) (nI (nEnd (mTp u) N 6 p)))) ∧ (¬ (doA v 6 (nAr (mTp u) N 6 p 0) 0 0 0).1 = 0 → Q (doA v 6 (nAr (mTp u) N 6 p 0) 0 0 0).1 (mAt u (nI (nEnd (mTp u) N 6 p))))) ∧ (pkNo (mTp u) N p = false → mBad u N 6 p (Q 0))
theorem st_X11_pickText {u : zModel} {Q : Int32 → zModel → Prop} (h : s_X11_pickText u Q) : t_X11_pickText u Q := by
  obtain ⟨B, v, N, p, hv, hr, ht, hf, hQ, hB⟩ := h
  have hp := ht.2.1
  have hq := pSk_le (mTp u) hp
  obtain ⟨n1, n2, n3, n4⟩ := nm_sk (mTp u) N p 0 11
  obtain ⟨ρ, β, mo, lm, L, S, M, hP⟩ := id hv
  have pk : ∀ (x : Int32) (e : Nat), (x = -1 ∨ ∃ s : Nat, s < 12 ∧ x = nI s) → ((doA v 6 x 0 0 0).1 = 0 → ∀ m' : Nat → Int32, mRel (doA v 6 x 0 0 0).2 m' → Q 0 (mAt (u.1, m', u.2.2) (nI e))) ∧ (¬ (doA v 6 x 0 0 0).1 = 0 → Q (doA v 6 x 0 0 0).1 (mAt u (nI e))) → s_X11_pick0 (mAt u (nI e)) x (fun (r_5 : Int32) (u_6 : zModel) => Q r_5 u_6) := by
    intro x e hx hQ
    unfold doA at hQ
    refine ⟨v, ρ, β, mo, lm, L, S, M, B, hP, hr, hx, fun s hs es h0 m' hm' => ?_, fun h0 => ?_⟩
    · rw [if_pos h0, es, nI_clamp (by omega)] at hQ
      exact hQ.1 rfl m' hm'
    · rw [if_neg h0] at hQ
      exact hQ.2 h0
  refine ⟨N, p, ht, ?_⟩
  show (u.2.2.2.2.2.2.2.2.2.2.2.1 ≤ nI (pSk (mTp u) N p) → _) ∧ (¬ u.2.2.2.2.2.2.2.2.2.2.2.1 ≤ nI (pSk (mTp u) N p) → vp_in (nI (pSk (mTp u) N p)) 400 ∧ s_X11_isIn (mTp u (nI (pSk (mTp u) N p)).toNatClampNeg) (48 : Int32) (57 : Int32) _)
  have h400 := ht.1
  rw [ht.2.2.1, nI_clamp (by omega)]
  have no : pkNo (mTp u) N p = true → ((¬ (mAt u (nI (pSk (mTp u) N p))).2.2.2.2.2.2.2.2.2.2.2.2.2.1 = (-1 : Int32) → Q (0 : Int32) (mAt u (nI (pSk (mTp u) N p)))) ∧ ((mAt u (nI (pSk (mTp u) N p))).2.2.2.2.2.2.2.2.2.2.2.2.2.1 = (-1 : Int32) → s_X11_pick0 (mAt u (nI (pSk (mTp u) N p))) (-1 : Int32) (fun (r_5 : Int32) (u_6 : zModel) => Q r_5 u_6))) := fun hn => by
    have hQ := hQ (Or.inl hn)
    have e1 : nAr (mTp u) N 6 p 0 = -1 := if_pos ⟨rfl, hn⟩
    have e2 : nEnd (mTp u) N 6 p = pSk (mTp u) N p := if_pos ⟨rfl, hn⟩
    rw [e1, e2] at hQ
    exact ⟨fun z => absurd hf z, fun _ => pk _ _ (Or.inl rfl) hQ⟩
  refine ⟨fun c => ⟨fun _ => no ?_, fun z => absurd rfl z⟩, fun c => ⟨?_, isIn_of (fun d => ⟨fun z => absurd z (by decide), fun _ => ⟨fun z => absurd z (by decide), fun _ => ?_⟩⟩) (fun d => ⟨fun _ => ⟨fun _ => no ?_, fun z => absurd rfl z⟩, fun z => absurd rfl z⟩)⟩⟩
  · have := (nI_leI (by omega) (by omega)).mp c
    unfold pkNo
    rw [decide_eq_false (by omega)]; rfl
  · have : ¬ N ≤ pSk (mTp u) N p := fun z => c (nI_le z (by omega))
    exact vp_in_nI (by omega) (by decide)
  · have hlt : pSk (mTp u) N p < N := by
      have : ¬ N ≤ pSk (mTp u) N p := fun z => c (nI_le z (by omega))
      omega
    have hn : pkNo (mTp u) N p = false := by
      unfold pkNo
      rw [decide_eq_true hlt, show isDg (mTp u) (pSk (mTp u) N p) = true from decide_eq_true d]; rfl
    refine num_go (ht.at hq) hf (fun k0 => ⟨fun z => absurd hf z, fun _ => ?_⟩) (fun k0 x q hq2 => ⟨fun _ => ?_, fun z => absurd z (n_neg (n := nmB (mTp u) N (pSk (mTp u) N p)) (by have := nmB_le (mTp u) hq; omega))⟩)
    · have k0 : nmOk (mTp u) N 0 11 (pSk (mTp u) N p) = true := k0
      rw [n4] at k0
      have hQ := hQ (Or.inr (nBad_none (k := 6) (lt1p k0)))
      have e1 : nAr (mTp u) N 6 p 0 = nmV (mTp u) N p := if_neg (fun z => by rw [hn] at z; exact absurd z.2 (by decide))
      have e2 : nEnd (mTp u) N 6 p = nmE (mTp u) N p := if_neg (fun z => by rw [hn] at z; exact absurd z.2 (by decide))
      rw [e1, e2] at hQ
      show s_X11_pick0 (mAt u (nI (nmE (mTp u) N (pSk (mTp u) N p)))) (nmV (mTp u) N (pSk (mTp u) N p)) _
      rw [n2, n3]
      obtain ⟨s, hs, es, -⟩ := seg_n (nmOk_in k0)
      exact pk _ _ (Or.inr ⟨s, hs, es⟩) hQ
    · have k0 : nmOk (mTp u) N 0 11 (pSk (mTp u) N p) = false := k0
      rw [n4] at k0
      have e := nBad_at (t := mTp u) (N := N) (k := 6) (e := p) (j := 0) lt0p k0 (by decide)
      have := hB hn (by rw [e]; decide) q hq2
      rw [e] at this
      show Q 0 (mFt (mAt u (nI q)) (nI (nmB (mTp u) N (pSk (mTp u) N p))))
      rw [n1]; exact this
  · unfold pkNo
    rw [show isDg (mTp u) (pSk (mTp u) N p) = false from decide_eq_false d, Bool.and_false]; rfl
theorem c_X11_pickText (l : Launch) (dC : Nat → ClassId) (dI : Nat → Nat → Nat) (cI cJ cS : ClassId) (a : Nat → Nat) (u : zModel) (Q : Int32 → zModel → Prop) (hf : s_X11_pickText u Q) : ∀ sz : Nat, Met l yX11_pickText (Cond.code yX11_pickText cX11_pickText 2 (some .int) :: zT) rm_X11_pickText (zPm dC dI cI cJ cS (cl_X11 cI cJ a u) [.ref (a 0)] sz) (va_Qi Q (zB dC dI cI cJ cS (va_A (cl_X11 cI cJ a u) sz) (fun z => cl_X11 cI cJ a z)) (va_A (cl_X11 cI cJ a u) sz)) 0 0 (va_A (cl_X11 cI cJ a u) sz) := L_X11_pickText l dC dI cI cJ cS a u Q (st_X11_pickText hf)
