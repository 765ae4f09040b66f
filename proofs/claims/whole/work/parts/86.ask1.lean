/-! what is asked of the class -/
def cAsk (u : zCls) (f : zState → Int32 × Int32) (ex : Int32 → String) (Q : Int32 → zCls → Prop) (QX : String → zCls → Prop) : Prop := ∃ (B : Nat) (G : zG), okG B G ∧ B + 400 ≤ 400000 ∧ cG G u ∧ ∀ u' : zCls, cG G u' → ((f (gNow G)).1 = 0 → Q (f (gNow G)).2 u') ∧ (¬ (f (gNow G)).1 = 0 → QX (ex (f (gNow G)).1) u')
theorem lookRun_of {v : zState} {u : zCls} {x : Int32} {Q : zCls → Prop} {QX : String → zCls → Prop} (ho : zOk v) (e : u.1 = v) (h1 : isRn v x → Q u) (h0 : ¬ isRn v x → QX "java/lang/IndexOutOfBoundsException" u) : s_X10_lookAtRun u x Q QX := by
  have hr := ho.2.1.2
  have er : u.1.2.2.2.1.2.2 = nI (rN v) := by rw [e]; exact ho.r
  unfold s_X10_lookAtRun
  rw [er]
  refine ⟨fun c => h0 (fun q => q.1 c), fun c => ⟨fun d => h1 ?_, fun d => h0 (fun q => d ?_)⟩⟩
  · obtain ⟨n, hn, rfl⟩ := nI_of c
    have hlt : n < rN v := by
      have : ¬ rN v ≤ n := fun z => absurd d (nI_nlt z (by omega))
      omega
    exact run_of ho hlt
  · obtain ⟨n, hn, rfl, -⟩ := run_n ho q
    exact nI_lt hn (by omega)
theorem lenOn_of {v w : zState} {k : Nat} {Q : Int32 → Prop} (ho : zOk w) (hk : k < 64) (e : v = w) (h : Q (uLenF w k)) : s_X10_lengthOn v (nI k) Q := by
  subst e
  refine ⟨ho, k, hk, rfl, fun hv => ⟨fun q => absurd q (by decide), fun _ => ⟨k, rN v, hk, ho.2.1.2, rfl, ho.r, ?_⟩⟩, fun hv => ⟨fun _ => ?_, fun q => absurd rfl q⟩⟩
  · unfold uLenF at h
    rw [if_pos hv] at h
    exact h
  · unfold uLenF at h
    rw [if_neg (by rw [hv]; decide)] at h
    exact h
/-- the k-th one and the first, the last -/
theorem nth_0 (p : Nat → Bool) (n : Nat) (hn : n < 2 ^ 31) : zNth p n 0 = zFst p n := by
  unfold zNth zFst
  have hle := fa_first_le p n
  have hno := fa_first_no p n
  by_cases h : fa_first p n < n
  · have h0 : fa_cnt p (fa_first p n) = 0 := by
      have : ∀ m, m ≤ fa_first p n → fa_cnt p m = 0 := by
        intro m
        induction m with
        | zero => intro _; rfl
        | succ m ih => intro hm; rw [fa_cnt_no (hno m (by omega))]; exact ih (by omega)
      exact this _ (Nat.le_refl _)
    have e : fa_first (fun j => p j && decide (nI (fa_cnt p j) = 0)) n = fa_first p n := first_at (fun i hi => by rw [hno i hi]; rfl) (by rw [fa_first_yes p n h, h0]; rfl) h
    rw [e]
  · have e : fa_first (fun j => p j && decide (nI (fa_cnt p j) = 0)) n = n := first_none (fun i hi => by rw [hno i (by omega)]; rfl)
    rw [e, if_neg (Nat.lt_irrefl n), if_neg h]
theorem cnt_lt {p : Nat → Bool} {j : Nat} (hj : p j = true) : ∀ n, j < n → fa_cnt p j < fa_cnt p n
  | 0, h => absurd h (by omega)
  | n + 1, h => by
    by_cases e : j = n
    · rw [← e, fa_cnt_yes hj]; omega
    · have ih := cnt_lt hj n (by omega)
      cases hn : p n with
      | true => rw [fa_cnt_yes hn]; omega
      | false => rw [fa_cnt_no hn]; exact ih
theorem zFst_s0 (p : Nat → Bool) (n : Nat) (h : p n = false) : zFst p (n + 1) = zFst p n := by
  unfold zFst
  by_cases c : fa_first p n < n
  · have e : fa_first p (n + 1) = fa_first p n := first_at (fa_first_no p n) (fa_first_yes p n c) (by omega)
    rw [e, if_pos c, if_pos (by omega)]
  · have hle := fa_first_le p n
    have e : fa_first p (n + 1) = n + 1 := first_none (fun i hi => by
      by_cases q : i = n
      · rw [q]; exact h
      · exact fa_first_no p n i (by omega))
    rw [e, if_neg c, if_neg (by omega)]
theorem nth_last (p : Nat → Bool) : ∀ n, n < 2 ^ 30 → zNth p n (nI (fa_cnt p n) - 1) = zLst p n
  | 0, _ => rfl
  | n + 1, hn => by
    show _ = if p n then nI n else zLst p n
    have hc := fa_cnt_le p n
    cases h : p n with
    | true =>
      rw [fa_cnt_yes h, nI_pred, if_pos rfl]
      unfold zNth zFst
      have e : fa_first (fun j => p j && decide (nI (fa_cnt p j) = nI (fa_cnt p n))) (n + 1) = n := first_at (fun i hi => by
        cases q : p i with
        | false => rfl
        | true =>
          have := cnt_lt q n hi
          show (true && decide (nI (fa_cnt p i) = nI (fa_cnt p n))) = false
          rw [decide_eq_false (fun z => by have := (nI_eq (by omega) (by omega)).mp z; omega)]; rfl) (by rw [h, decide_eq_true rfl]; rfl) (by omega)
      rw [e, if_pos (by omega)]
    | false =>
      rw [fa_cnt_no h, if_neg (by decide)]
      have ih := nth_last p n (by omega)
      rw [← ih]
      unfold zNth
      exact zFst_s0 _ n (by rw [h]; rfl)
theorem okB.siz {B : Nat} {v : zState} (h : okB B v) {l : Nat} (hl : l ≤ rN v) : v.2.2.2.1.2.1 l = nI (fa_cnt (fun k => zHas v.2.2.2.1.1 l k) 64) := by
  obtain ⟨ρ, β, mo, lm, L, S, M, hP⟩ := h
  exact hP.2.2.2.2.2.2.1.2.2.2 l hl
theorem okB.rl {B : Nat} {v : zState} (h : okB B v) : rN v ≤ 4 := by
  obtain ⟨ρ, β, mo, lm, L, S, M, hP⟩ := h
  have h1 : rN v ≤ lm := hP.2.2.2.2.2.2.2.1
  have h2 := hP.2.2.2.1.2.2
  omega
theorem okB.dia {B : Nat} {v : zState} (h : okB B v) : DiaOk v.2.2.2.2.2.1 := by
  obtain ⟨ρ, β, mo, lm, L, S, M, hP⟩ := h
  exact hP.2.2.2.2.2.2.2.2.2.2.1
theorem okB.rec {B : Nat} {v : zState} (h : okB B v) {s k : Nat} (hs : s < 12) (hk : k < cN v s) : ¬ uRec v s k = 0 := by
  obtain ⟨ρ, β, mo, lm, L, S, M, hP⟩ := h
  intro q
  have hR := hP.2.2.2.2.2.1.2.2.2.2.1 s hs k hk
  have e : uRec v s k = v.2.2.1.1 (50 * s + k) := rfl
  rw [← e, q] at hR
  have := hR.2.2.2.1
  exact absurd this (by decide)

def t_X10_ofKey (u : zCls) (x1 : Int32) (x2 : Int32) (x3 : Int64) (Q : Int32 → Prop) : Prop := s_X5_kindOf u.1 x3 (fun r_1 : Int32 => ((x2 = (0 : Int32) → s_X10_lengthOn u.1 x1 (fun r_3 : Int32 => Q r_3)) ∧ (¬ x2 = (0 : Int32) → ((x2 = (1 : Int32) → s_X5_hasValue u.1 x1 (fun r_5 : Int32 => ((r_5 = 0 → Q (-1 : Int32)) ∧ (¬ r_5 = 0 → s_X0_seedOf x3 (fun r_7 : Int32 => Q r_7))))) ∧ (¬ x2 = (1 : Int32) → ((x2 = (2 : Int32) → Q r_1) ∧ (¬ x2 = (2 : Int32) → ((x2 = (3 : Int32) → ((¬ r_1 = 0 → s_X0_numberOf x3 (fun r_11 : Int32 => Q r_11)) ∧ (r_1 = 0 → Q (-1 : Int32)))) ∧ (¬ x2 = (3 : Int32) → ((x2 = (4 : Int32) → ((¬ r_1 = (3 : Int32) → Q (-1 : Int32)) ∧ (r_1 = (3 : Int32) → s_X0_segmentOf x3 (fun r_14 : Int32 => Q r_14)))) ∧ (¬ x2 = (4 : Int32) → ((x2 = (5 : Int32) → ((¬ r_1 = (3 : Int32) → Q (-1 : Int32)) ∧ (r_1 = (3 : Int32) → s_X0_beginOf x3 (fun r_17 : Int32 => Q r_17)))) ∧ (¬ x2 = (5 : Int32) → ((x2 = (6 : Int32) → s_X5_costOf u.1 x1 (fun r_19 : Int32 => Q r_19)) ∧ (¬ x2 = (6 : Int32) → ((x2 = (7 : Int32) → s_X9_levelOf u.1.2.2.2.1 x1 (fun r_21 : Int32 => Q r_21)) ∧ (¬ x2 = (7 : Int32) → s_X9_entriesOf u.1.2.2.2.1 x1 (fun r_22 : Int32 => Q r_22))))))))))))))))))
theorem zc_X10_ofKey : zCalV RX10 yX10_ofKey cX10_ofKey 6 (some .int) 3 := ⟨q_im_X10_ofKey, q_se_X10_ofKey, q_in_X10, q_cd_X10_ofKey, ⟨by decide, by decide, by decide +kernel⟩, rfl⟩
abbrev rm_X10_ofKey : Room := { frames := 4, cells := 0, slots := 0, locals := 86 }
set_option maxHeartbeats 4000000 in
set_option maxRecDepth 100000 in
theorem L_X10_ofKey (l : Launch) (dC : Nat → ClassId) (dI : Nat → Nat → Nat) (cI cJ cS : ClassId) (a : Nat → Nat) (u : zCls) (x1 : Int32) (x2 : Int32) (x3 : Int64) (Q : Int32 → Prop) (hf : t_X10_ofKey u x1 x2 x3 Q) : Met l yX10_ofKey (Cond.code yX10_ofKey cX10_ofKey 6 (some .int) :: zT) rm_X10_ofKey (zPp dC dI cI cJ cS (cl_X10 cI cJ cS a u) [.ref (a 0), .int x1, .int x2, .long x3]) (vp_Si Q) 0 0 (fun _ => False) := by
  refine z_enterP (cc := cX10_ofKey) (maxL := 6) (ret := (some .int)) (by decide) (Nat.le_of_ble_eq_true rfl) ?_
  intro p e s m below meth c ls X hP hl
  obtain ⟨⟨hx, hb, hml, hown, hts⟩, hr, hlk, hK⟩ := id X
  have hl : lv_has ls 6 [(0, .ref (a 0)), (1, .int x1), (2, .int x2), (3, .long x3)] := hl
  unfold t_X10_ofKey at hf
  refine lv_aload_n hx hb dX10_ofKey_0 rfl (lv_at hl 0 rfl) ?_
  refine va_get (D := (dC, dI)) (ci := 9) (v := .ref (a 1)) (C := RX10) (T := TX10) (N := 9) hx hb hts inX10 hown hK hP 0 rfl rfl 0 (by decide) (hts _ q_fl_X10_10) (fun _ h9 => h9) rfl dX10_ofKey_1 ?_
  refine lv_lload_n hx hb dX10_ofKey_4 rfl (lv_at hl 3 rfl) ?_
  refine z_cVi (As := [.long x3]) (rest := []) X (c_X5_kindOf l dC dI cI cJ cS (fun i => a (1 + i)) u.1 x3 _ hf) zc_X5_kindOf q_ml_X10_162 ⟨rfl, rfl⟩ ⟨Nat.le_of_ble_eq_true rfl, Nat.le_of_ble_eq_true rfl⟩ hP [1, 2, 3, 4, 5, 6, 7, 8, 9, 10, 11, 12, 13, 14, 15] rfl 4 rfl rfl hl.1 rfl rfl (Nat.le_of_ble_eq_true rfl) ⟨Nat.zero_le _, Nat.zero_le _⟩ dX10_ofKey_5 (fun r_1 hf => ?_)
  refine lv_istore (lv' := [(5, .int r_1), (0, .ref (a 0)), (1, .int x1), (2, .int x2), (3, .long x3)]) hx hb dX10_ofKey_8 hl (by decide) rfl (fun ls hl => ?_)
  refine lv_iload_n hx hb dX10_ofKey_10 rfl (lv_at hl 3 rfl) ?_
  by_cases c_2 : x2 = (0 : Int32)
  · have hf := hf.1 c_2
    refine lv_tableIn (off := 45) (tgt := 56) hx hb dX10_ofKey_11 (by rw [c_2]; decide) (by rw [c_2]; decide) (by rw [c_2]; decide) (by decide) ?_
    refine lv_aload_n hx hb dX10_ofKey_56 rfl (lv_at hl 1 rfl) ?_
    refine va_get (D := (dC, dI)) (ci := 9) (v := .ref (a 1)) (C := RX10) (T := TX10) (N := 9) hx hb hts inX10 hown hK hP 0 rfl rfl 0 (by decide) (hts _ q_fl_X10_10) (fun _ h9 => h9) rfl dX10_ofKey_57 ?_
    refine lv_iload_n hx hb dX10_ofKey_60 rfl (lv_at hl 2 rfl) ?_
    refine z_cSi (As := [.ref (a 1), .int x1]) (rest := []) X (c_X10_lengthOn l dC dI cI cJ cS (fun i => a (1 + i)) u.1 x1 _ hf) zc_X10_lengthOn q_ml_X10_144 ⟨rfl, rfl⟩ ⟨Nat.le_of_ble_eq_true rfl, Nat.le_of_ble_eq_true rfl⟩ hP [1, 2, 3, 4, 5, 6, 7, 8, 9, 10, 11, 12, 13, 14, 15] rfl hl.1 rfl rfl (Nat.le_of_ble_eq_true rfl) ⟨Nat.zero_le _, Nat.zero_le _⟩ dX10_ofKey_61 (fun r_3 hf => ?_)
    exact z_retPi X hf dX10_ofKey_64
  have hf := hf.2 c_2
  by_cases c_4 : x2 = (1 : Int32)
  · have hf := hf.1 c_4
    refine lv_tableIn (off := 54) (tgt := 65) hx hb dX10_ofKey_11 (by rw [c_4]; decide) (by rw [c_4]; decide) (by rw [c_4]; decide) (by decide) ?_
    refine lv_aload_n hx hb dX10_ofKey_65 rfl (lv_at hl 1 rfl) ?_
    refine va_get (D := (dC, dI)) (ci := 9) (v := .ref (a 1)) (C := RX10) (T := TX10) (N := 9) hx hb hts inX10 hown hK hP 0 rfl rfl 0 (by decide) (hts _ q_fl_X10_10) (fun _ h9 => h9) rfl dX10_ofKey_66 ?_
    refine lv_iload_n hx hb dX10_ofKey_69 rfl (lv_at hl 2 rfl) ?_
    refine z_cVi (As := [.int x1]) (rest := []) X (c_X5_hasValue l dC dI cI cJ cS (fun i => a (1 + i)) u.1 x1 _ hf) zc_X5_hasValue q_ml_X10_166 ⟨rfl, rfl⟩ ⟨Nat.le_of_ble_eq_true rfl, Nat.le_of_ble_eq_true rfl⟩ hP [1, 2, 3, 4, 5, 6, 7, 8, 9, 10, 11, 12, 13, 14, 15] rfl 4 rfl rfl hl.1 rfl rfl (Nat.le_of_ble_eq_true rfl) ⟨Nat.zero_le _, Nat.zero_le _⟩ dX10_ofKey_70 (fun r_5 hf => ?_)
    obtain ⟨hbr_5, hf⟩ := hf
    refine lv_if_eq (tgt := 83) hx hb dX10_ofKey_73 (by decide) (fun c_6 => ?_) (fun c_6 => ?_)
    · have hf := hf.1 c_6
      refine lv_iconst (v := (-1)) hx hb dX10_ofKey_83 (by decide) ?_
      exact z_retPi X hf dX10_ofKey_84
    · have hf := hf.2 c_6
      refine lv_lload_n hx hb dX10_ofKey_76 rfl (lv_at hl 4 rfl) ?_
      refine z_cSi (As := [.long x3]) (rest := []) X (c_X0_seedOf l dC dI cI cJ cS   x3 _ hf) zc_X0_seedOf q_ml_X10_169 ⟨rfl, rfl⟩ ⟨Nat.le_of_ble_eq_true rfl, Nat.le_of_ble_eq_true rfl⟩ hP [] rfl hl.1 rfl rfl (Nat.le_of_ble_eq_true rfl) ⟨Nat.zero_le _, Nat.zero_le _⟩ dX10_ofKey_77 (fun r_7 hf => ?_)
      refine lv_goto (tgt := 84) hx hb dX10_ofKey_80 (by decide) ?_
      exact z_retPi X hf dX10_ofKey_84
  have hf := hf.2 c_4
  by_cases c_8 : x2 = (2 : Int32)
  · have hf := hf.1 c_8
    refine lv_tableIn (off := 74) (tgt := 85) hx hb dX10_ofKey_11 (by rw [c_8]; decide) (by rw [c_8]; decide) (by rw [c_8]; decide) (by decide) ?_
    refine lv_iload hx hb dX10_ofKey_85 (lv_at hl 0 rfl) ?_
    exact z_retPi X hf dX10_ofKey_87
  have hf := hf.2 c_8
  by_cases c_9 : x2 = (3 : Int32)
  · have hf := hf.1 c_9
    refine lv_tableIn (off := 77) (tgt := 88) hx hb dX10_ofKey_11 (by rw [c_9]; decide) (by rw [c_9]; decide) (by rw [c_9]; decide) (by decide) ?_
    refine lv_iload hx hb dX10_ofKey_88 (lv_at hl 0 rfl) ?_
    refine lv_if_ne (tgt := 97) hx hb dX10_ofKey_90 (by decide) (fun c_10 => ?_) (fun c_10 => ?_)
    · have hf := hf.1 c_10
      refine lv_lload_n hx hb dX10_ofKey_97 rfl (lv_at hl 4 rfl) ?_
      refine z_cSi (As := [.long x3]) (rest := []) X (c_X0_numberOf l dC dI cI cJ cS   x3 _ hf) zc_X0_numberOf q_ml_X10_174 ⟨rfl, rfl⟩ ⟨Nat.le_of_ble_eq_true rfl, Nat.le_of_ble_eq_true rfl⟩ hP [] rfl hl.1 rfl rfl (Nat.le_of_ble_eq_true rfl) ⟨Nat.zero_le _, Nat.zero_le _⟩ dX10_ofKey_98 (fun r_11 hf => ?_)
      exact z_retPi X hf dX10_ofKey_101
    · have hf := hf.2 c_10
      refine lv_iconst (v := (-1)) hx hb dX10_ofKey_93 (by decide) ?_
      refine lv_goto (tgt := 101) hx hb dX10_ofKey_94 (by decide) ?_
      exact z_retPi X hf dX10_ofKey_101
  have hf := hf.2 c_9
  by_cases c_12 : x2 = (4 : Int32)
  · have hf := hf.1 c_12
    refine lv_tableIn (off := 91) (tgt := 102) hx hb dX10_ofKey_11 (by rw [c_12]; decide) (by rw [c_12]; decide) (by rw [c_12]; decide) (by decide) ?_
    refine lv_iload hx hb dX10_ofKey_102 (lv_at hl 0 rfl) ?_
    refine lv_iconst (v := 3) hx hb dX10_ofKey_104 (by decide) ?_
    refine lv_icmp_ne (tgt := 115) hx hb dX10_ofKey_105 (by decide) (fun c_13 => ?_) (fun c_13 => ?_)
    · have hf := hf.1 c_13
      refine lv_iconst (v := (-1)) hx hb dX10_ofKey_115 (by decide) ?_
      exact z_retPi X hf dX10_ofKey_116
    · have hf := hf.2 c_13
      refine lv_lload_n hx hb dX10_ofKey_108 rfl (lv_at hl 4 rfl) ?_
      refine z_cSi (As := [.long x3]) (rest := []) X (c_X0_segmentOf l dC dI cI cJ cS   x3 _ hf) zc_X0_segmentOf q_ml_X10_177 ⟨rfl, rfl⟩ ⟨Nat.le_of_ble_eq_true rfl, Nat.le_of_ble_eq_true rfl⟩ hP [] rfl hl.1 rfl rfl (Nat.le_of_ble_eq_true rfl) ⟨Nat.zero_le _, Nat.zero_le _⟩ dX10_ofKey_109 (fun r_14 hf => ?_)
      refine lv_goto (tgt := 116) hx hb dX10_ofKey_112 (by decide) ?_
      exact z_retPi X hf dX10_ofKey_116
  have hf := hf.2 c_12
  by_cases c_15 : x2 = (5 : Int32)
  · have hf := hf.1 c_15
    refine lv_tableIn (off := 106) (tgt := 117) hx hb dX10_ofKey_11 (by rw [c_15]; decide) (by rw [c_15]; decide) (by rw [c_15]; decide) (by decide) ?_
    refine lv_iload hx hb dX10_ofKey_117 (lv_at hl 0 rfl) ?_
    refine lv_iconst (v := 3) hx hb dX10_ofKey_119 (by decide) ?_
    refine lv_icmp_ne (tgt := 130) hx hb dX10_ofKey_120 (by decide) (fun c_16 => ?_) (fun c_16 => ?_)
    · have hf := hf.1 c_16
      refine lv_iconst (v := (-1)) hx hb dX10_ofKey_130 (by decide) ?_
      exact z_retPi X hf dX10_ofKey_131
    · have hf := hf.2 c_16
      refine lv_lload_n hx hb dX10_ofKey_123 rfl (lv_at hl 4 rfl) ?_
      refine z_cSi (As := [.long x3]) (rest := []) X (c_X0_beginOf l dC dI cI cJ cS   x3 _ hf) zc_X0_beginOf q_ml_X10_180 ⟨rfl, rfl⟩ ⟨Nat.le_of_ble_eq_true rfl, Nat.le_of_ble_eq_true rfl⟩ hP [] rfl hl.1 rfl rfl (Nat.le_of_ble_eq_true rfl) ⟨Nat.zero_le _, Nat.zero_le _⟩ dX10_ofKey_124 (fun r_17 hf => ?_)
      refine lv_goto (tgt := 131) hx hb dX10_ofKey_127 (by decide) ?_
      exact z_retPi X hf dX10_ofKey_131
  have hf := hf.2 c_15
  by_cases c_18 : x2 = (6 : Int32)
  · have hf := hf.1 c_18
    refine lv_tableIn (off := 121) (tgt := 132) hx hb dX10_ofKey_11 (by rw [c_18]; decide) (by rw [c_18]; decide) (by rw [c_18]; decide) (by decide) ?_
    refine lv_aload_n hx hb dX10_ofKey_132 rfl (lv_at hl 1 rfl) ?_
    refine va_get (D := (dC, dI)) (ci := 9) (v := .ref (a 1)) (C := RX10) (T := TX10) (N := 9) hx hb hts inX10 hown hK hP 0 rfl rfl 0 (by decide) (hts _ q_fl_X10_10) (fun _ h9 => h9) rfl dX10_ofKey_133 ?_
    refine lv_iload_n hx hb dX10_ofKey_136 rfl (lv_at hl 2 rfl) ?_
    refine z_cVi (As := [.int x1]) (rest := []) X (c_X5_costOf l dC dI cI cJ cS (fun i => a (1 + i)) u.1 x1 _ hf) zc_X5_costOf q_ml_X10_183 ⟨rfl, rfl⟩ ⟨Nat.le_of_ble_eq_true rfl, Nat.le_of_ble_eq_true rfl⟩ hP [1, 2, 3, 4, 5, 6, 7, 8, 9, 10, 11, 12, 13, 14, 15] rfl 4 rfl rfl hl.1 rfl rfl (Nat.le_of_ble_eq_true rfl) ⟨Nat.zero_le _, Nat.zero_le _⟩ dX10_ofKey_137 (fun r_19 hf => ?_)
    exact z_retPi X hf dX10_ofKey_140
  have hf := hf.2 c_18
  by_cases c_20 : x2 = (7 : Int32)
  · have hf := hf.1 c_20
    refine lv_tableIn (off := 130) (tgt := 141) hx hb dX10_ofKey_11 (by rw [c_20]; decide) (by rw [c_20]; decide) (by rw [c_20]; decide) (by decide) ?_
    refine lv_aload_n hx hb dX10_ofKey_141 rfl (lv_at hl 1 rfl) ?_
    refine va_get (D := (dC, dI)) (ci := 9) (v := .ref (a 1)) (C := RX10) (T := TX10) (N := 9) hx hb hts inX10 hown hK hP 0 rfl rfl 0 (by decide) (hts _ q_fl_X10_10) (fun _ h9 => h9) rfl dX10_ofKey_142 ?_
    refine va_get (D := (dC, dI)) (ci := 4) (v := .ref (a 9)) (C := RX5) (T := TX5) (N := 9) hx hb hts inX5 hown hK hP 1 rfl rfl 3 (by decide) (hts _ q_fl_X10_148) (fun _ h9 => h9) rfl dX10_ofKey_145 ?_
    refine lv_iload_n hx hb dX10_ofKey_148 rfl (lv_at hl 2 rfl) ?_
    refine z_cVi (As := [.int x1]) (rest := []) X (c_X9_levelOf l dC dI cI cJ cS (fun i => a (9 + i)) u.1.2.2.2.1 x1 _ hf) zc_X9_levelOf q_ml_X10_186 ⟨rfl, rfl⟩ ⟨Nat.le_of_ble_eq_true rfl, Nat.le_of_ble_eq_true rfl⟩ hP [9, 10, 11] rfl 8 rfl rfl hl.1 rfl rfl (Nat.le_of_ble_eq_true rfl) ⟨Nat.zero_le _, Nat.zero_le _⟩ dX10_ofKey_149 (fun r_21 hf => ?_)
    exact z_retPi X hf dX10_ofKey_152
  have hf := hf.2 c_20
  refine lv_tableOut (tgt := 153) hx hb dX10_ofKey_11 (by have q0 : ¬ x2.toInt = (0 : Int) := fun h => c_2 (Int32.toInt_inj.mp (show x2.toInt = (0 : Int32).toInt from h)); have q1 : ¬ x2.toInt = (1 : Int) := fun h => c_4 (Int32.toInt_inj.mp (show x2.toInt = (1 : Int32).toInt from h)); have q2 : ¬ x2.toInt = (2 : Int) := fun h => c_8 (Int32.toInt_inj.mp (show x2.toInt = (2 : Int32).toInt from h)); have q3 : ¬ x2.toInt = (3 : Int) := fun h => c_9 (Int32.toInt_inj.mp (show x2.toInt = (3 : Int32).toInt from h)); have q4 : ¬ x2.toInt = (4 : Int) := fun h => c_12 (Int32.toInt_inj.mp (show x2.toInt = (4 : Int32).toInt from h)); have q5 : ¬ x2.toInt = (5 : Int) := fun h => c_15 (Int32.toInt_inj.mp (show x2.toInt = (5 : Int32).toInt from h)); have q6 : ¬ x2.toInt = (6 : Int) := fun h => c_18 (Int32.toInt_inj.mp (show x2.toInt = (6 : Int32).toInt from h)); have q7 : ¬ x2.toInt = (7 : Int) := fun h => c_20 (Int32.toInt_inj.mp (show x2.toInt = (7 : Int32).toInt from h)); omega) (by decide) ?_
  refine lv_aload_n hx hb dX10_ofKey_153 rfl (lv_at hl 1 rfl) ?_
  refine va_get (D := (dC, dI)) (ci := 9) (v := .ref (a 1)) (C := RX10) (T := TX10) (N := 9) hx hb hts inX10 hown hK hP 0 rfl rfl 0 (by decide) (hts _ q_fl_X10_10) (fun _ h9 => h9) rfl dX10_ofKey_154 ?_
  refine va_get (D := (dC, dI)) (ci := 4) (v := .ref (a 9)) (C := RX5) (T := TX5) (N := 9) hx hb hts inX5 hown hK hP 1 rfl rfl 3 (by decide) (hts _ q_fl_X10_148) (fun _ h9 => h9) rfl dX10_ofKey_157 ?_
  refine lv_iload_n hx hb dX10_ofKey_160 rfl (lv_at hl 2 rfl) ?_
  refine z_cVi (As := [.int x1]) (rest := []) X (c_X9_entriesOf l dC dI cI cJ cS (fun i => a (9 + i)) u.1.2.2.2.1 x1 _ hf) zc_X9_entriesOf q_ml_X10_189 ⟨rfl, rfl⟩ ⟨Nat.le_of_ble_eq_true rfl, Nat.le_of_ble_eq_true rfl⟩ hP [9, 10, 11] rfl 8 rfl rfl hl.1 rfl rfl (Nat.le_of_ble_eq_true rfl) ⟨Nat.zero_le _, Nat.zero_le _⟩ dX10_ofKey_161 (fun r_22 hf => ?_)
  exact z_retPi X hf dX10_ofKey_164
def s_X10_ofKey (u : zCls) (x1 x2 : Int32) (x3 : Int64) (Q : Int32 → Prop) : Prop := ∃ k : Nat, zOk u.1 ∧ k < 64 ∧ x1 = nI k ∧ x3 = uCur u.1 k ∧ inR x2 0 8 ∧ Q (aKey u.1 k x2)
theorem uKind_0 {b : Int32} {c : Int64} : uKind b c = 0 ↔ c = 0 := by
  unfold uKind
  by_cases h : c = 0
  · rw [if_pos h]; exact ⟨fun _ => h, fun _ => rfl⟩
  · rw [if_neg h]
    refine ⟨fun q => ?_, fun q => absurd q h⟩
    split at q
    · exact absurd q (by decide)
    · split at q
      · exact absurd q (by decide)
      · exact absurd q (by decide)
theorem st_X10_ofKey {u : zCls} {x1 x2 : Int32} {x3 : Int64} {Q : Int32 → Prop} (h : s_X10_ofKey u x1 x2 x3 Q) : t_X10_ofKey u x1 x2 x3 Q := by
  obtain ⟨k, ho, hk, rfl, rfl, h8, hQ⟩ := h
  unfold aKey at hQ
  refine ⟨fun d => lenOn_of ho hk rfl (by rw [if_pos d] at hQ; exact hQ), fun d => ?_⟩
  rw [if_neg d] at hQ
  refine ⟨fun d => ⟨ho, k, hk, rfl, fun hv => ⟨fun q => absurd q (by decide), fun _ => ?_⟩, fun hv => ⟨fun _ => ?_, fun q => absurd rfl q⟩⟩, fun d => ?_⟩
  · rw [if_pos d] at hQ
    unfold uSeedF at hQ
    rw [if_pos hv] at hQ; exact hQ
  · rw [if_pos d] at hQ
    unfold uSeedF at hQ
    rw [if_neg (by rw [hv]; decide)] at hQ; exact hQ
  rw [if_neg d] at hQ
  refine ⟨fun d => by rw [if_pos d] at hQ; exact hQ, fun d => ?_⟩
  rw [if_neg d] at hQ
  refine ⟨fun d => ⟨fun z => ?_, fun z => ?_⟩, fun d => ?_⟩
  · rw [if_pos d, if_neg (fun q => z (uKind_0.mpr q))] at hQ; exact hQ
  · rw [if_pos d, if_pos (uKind_0.mp z)] at hQ; exact hQ
  rw [if_neg d] at hQ
  refine ⟨fun d => ⟨fun z => ?_, fun z => ?_⟩, fun d => ?_⟩
  · rw [if_pos d, if_neg z] at hQ; exact hQ
  · rw [if_pos d, if_pos z] at hQ; exact hQ
  rw [if_neg d] at hQ
  refine ⟨fun d => ⟨fun z => ?_, fun z => ?_⟩, fun d => ?_⟩
  · rw [if_pos d, if_neg z] at hQ; exact hQ
  · rw [if_pos d, if_pos z] at hQ; exact hQ
  rw [if_neg d] at hQ
  refine ⟨fun d => ⟨ho, k, hk, rfl, by rw [if_pos d] at hQ; exact hQ⟩, fun d => ?_⟩
  rw [if_neg d] at hQ
  refine ⟨fun d => ⟨k, rN u.1, hk, ho.2.1.2, rfl, ho.r, by rw [if_pos d] at hQ; exact hQ⟩, fun d => ?_⟩
  rw [if_neg d] at hQ
  have d8 : x2 = 8 := by
    obtain ⟨n, -, h2, rfl, -⟩ := inR_n (a := 0) (b := 8) (by decide) (by decide) h8
    rcases (show n = 0 ∨ n = 1 ∨ n = 2 ∨ n = 3 ∨ n = 4 ∨ n = 5 ∨ n = 6 ∨ n = 7 ∨ n = 8 by omega) with rfl | rfl | rfl | rfl | rfl | rfl | rfl | rfl | rfl
    all_goals first | rfl | (exfalso; first | exact (by assumption : ¬ nI 7 = (7 : Int32)) rfl | exact (by assumption : ¬ nI 6 = (6 : Int32)) rfl | exact (by assumption : ¬ nI 5 = (5 : Int32)) rfl | exact (by assumption : ¬ nI 4 = (4 : Int32)) rfl | exact (by assumption : ¬ nI 3 = (3 : Int32)) rfl | exact (by assumption : ¬ nI 2 = (2 : Int32)) rfl | exact (by assumption : ¬ nI 1 = (1 : Int32)) rfl | exact (by assumption : ¬ nI 0 = (0 : Int32)) rfl)
  rw [if_pos d8] at hQ
  exact ⟨k, rN u.1, hk, ho.2.1.2, rfl, ho.r, hQ⟩
theorem c_X10_ofKey (l : Launch) (dC : Nat → ClassId) (dI : Nat → Nat → Nat) (cI cJ cS : ClassId) (a : Nat → Nat) (u : zCls) (x1 : Int32) (x2 : Int32) (x3 : Int64) (Q : Int32 → Prop) (hf : s_X10_ofKey u x1 x2 x3 Q) : Met l yX10_ofKey (Cond.code yX10_ofKey cX10_ofKey 6 (some .int) :: zT) rm_X10_ofKey (zPp dC dI cI cJ cS (cl_X10 cI cJ cS a u) [.ref (a 0), .int x1, .int x2, .long x3]) (vp_Si Q) 0 0 (fun _ => False) := L_X10_ofKey l dC dI cI cJ cS a u x1 x2 x3 Q (st_X10_ofKey hf)

def t_X10_key (u : zCls) (x1 : Int32) (x2 : Int32) (Q : Int32 → zCls → Prop) (QX : String → zCls → Prop) : Prop := s_X10_lookAtKey x1 (fun (u_2 : Unit) => s_X10_lookAtWhat x2 (9 : Int32) (fun (u_4 : Unit) => ((¬ x2 = (9 : Int32) → s_X9_currentOf u.1.2.2.2.1 x1 (fun r_6 : Int64 => s_X10_ofKey u x1 x2 r_6 (fun r_7 : Int32 => Q r_7 u))) ∧ (x2 = (9 : Int32) → s_X5_copyFrom u.2.1 u.1 (fun (u_9 : zState × zState) => s_X5_loseUnsecured u_9.1 (fun (r_10 : Int32) (u_11 : zState) => s_X10_lengthOn u_11 x1 (fun r_12 : Int32 => Q r_12 (u_9.2, u_11, u.2.2))))))) (fun (E : String) (u_4 : Unit) => QX E u)) (fun (E : String) (u_2 : Unit) => QX E u)
theorem zc_X10_key : zCalV RX10 yX10_key cX10_key 3 (some .int) 2 := ⟨q_im_X10_key, q_se_X10_key, q_in_X10, q_cd_X10_key, ⟨by decide, by decide, by decide +kernel⟩, rfl⟩
abbrev rm_X10_key : Room := { frames := 7, cells := 2, slots := 12, locals := 111 }
set_option maxHeartbeats 4000000 in
set_option maxRecDepth 100000 in
theorem L_X10_key (l : Launch) (hlt : l.stackTraces = false) (dC : Nat → ClassId) (dI : Nat → Nat → Nat) (cI cJ cS : ClassId) (a : Nat → Nat) (u : zCls) (x1 : Int32) (x2 : Int32) (Q : Int32 → zCls → Prop) (QX : String → zCls → Prop) (hf : t_X10_key u x1 x2 Q QX) : ∀ sz : Nat, vx_Met l yX10_key (Cond.code yX10_key cX10_key 3 (some .int) :: zT) rm_X10_key (zPmF zFy dC dI cI cJ cS (cl_X10 cI cJ cS a u) [.ref (a 0), .int x1, .int x2] sz) (va_Qi Q (zB dC dI cI cJ cS (va_A (cl_X10 cI cJ cS a u) sz) (fun z => cl_X10 cI cJ cS a z)) (va_A (cl_X10 cI cJ cS a u) sz)) (zXc QX dC dI cI cJ cS (va_A (cl_X10 cI cJ cS a u) sz) (fun z => cl_X10 cI cJ cS a z)) 2 12 (va_A (cl_X10 cI cJ cS a u) sz) := by
  intro sz
  refine z_enterX (Qc := fun A => va_Qi Q (zB dC dI cI cJ cS A (fun z => cl_X10 cI cJ cS a z)) A) (XC := fun A => zXc QX dC dI cI cJ cS A (fun z => cl_X10 cI cJ cS a z)) (cc := cX10_key) (maxL := 3) (ret := (some .int)) (by decide) (Nat.le_of_ble_eq_true rfl) ?_
  intro p e s m below meth c ls A X htb hP hD hS hA hF hl
  obtain ⟨⟨hx, hb, hml, hown, hts⟩, hr, hlk, hK⟩ := id X
  have hl : lv_has ls 3 [(0, .ref (a 0)), (1, .int x1), (2, .int x2)] := hl
  unfold t_X10_key at hf
  refine lv_iload_n hx hb dX10_key_0 rfl (lv_at hl 1 rfl) ?_
  refine z_xSvO (Wn := (fun u_2 => cl_X10 cI cJ cS a u)) (As := [.int x1]) (rest := []) (wr := cl_X10 cI cJ cS a u) X fro_Fy hF (c_X10_lookAtKey l hlt dC dI cI cJ cS   x1 _ _ hf _) zc_X10_lookAtKey q_ml_X10_105 ⟨rfl, rfl⟩ ⟨Nat.le_of_ble_eq_true rfl, Nat.le_of_ble_eq_true rfl⟩ hP hD hS hA (pm_0 _) (fun _ => pm_0 _) (Wo := (fun z => cl_X10 cI cJ cS a z)) (fun u_2 => u) (fun _ => rfl) htb (fun _ _ h => h) ⟨Nat.le_of_ble_eq_true rfl, Nat.le_of_ble_eq_true rfl⟩ hl.1 rfl rfl (Nat.le_of_ble_eq_true rfl) ⟨Nat.le_of_ble_eq_true rfl, Nat.le_of_ble_eq_true rfl⟩ dX10_key_1 (fun u_2 H locs hf hP hD hS => ?_)
  refine lv_iload_n hx hb dX10_key_4 rfl (lv_at hl 2 rfl) ?_
  refine lv_bipush (v := 9) hx hb dX10_key_5 (by decide) ?_
  refine z_xSvO (Wn := (fun u_4 => cl_X10 cI cJ cS a u)) (As := [.int x2, .int (9 : Int32)]) (rest := []) (wr := cl_X10 cI cJ cS a u) X fro_Fy hF (c_X10_lookAtWhat l hlt dC dI cI cJ cS   x2 (9 : Int32) _ _ hf _) zc_X10_lookAtWhat q_ml_X10_136 ⟨rfl, rfl⟩ ⟨Nat.le_of_ble_eq_true rfl, Nat.le_of_ble_eq_true rfl⟩ hP hD hS hA (pm_0 _) (fun _ => pm_0 _) (Wo := (fun z => cl_X10 cI cJ cS a z)) (fun u_4 => u) (fun _ => rfl) htb (fun _ _ h => h) ⟨Nat.le_of_ble_eq_true rfl, Nat.le_of_ble_eq_true rfl⟩ hl.1 rfl rfl (Nat.le_of_ble_eq_true rfl) ⟨Nat.le_of_ble_eq_true rfl, Nat.le_of_ble_eq_true rfl⟩ dX10_key_7 (fun u_4 H locs hf hP hD hS => ?_)
  refine lv_iload_n hx hb dX10_key_10 rfl (lv_at hl 2 rfl) ?_
  refine lv_bipush (v := 9) hx hb dX10_key_11 (by decide) ?_
  refine lv_icmp_ne (tgt := 44) hx hb dX10_key_13 (by decide) (fun c_5 => ?_) (fun c_5 => ?_)
  · have hf := hf.1 c_5
    refine lv_aload_n hx hb dX10_key_44 rfl (lv_at hl 0 rfl) ?_
    refine lv_iload_n hx hb dX10_key_45 rfl (lv_at hl 1 rfl) ?_
    refine lv_iload_n hx hb dX10_key_46 rfl (lv_at hl 2 rfl) ?_
    refine lv_aload_n hx hb dX10_key_47 rfl (lv_at hl 0 rfl) ?_
    refine va_get (D := (dC, dI)) (ci := 9) (v := .ref (a 1)) (C := RX10) (T := TX10) (N := 9) hx hb hts inX10 hown hK hP 0 rfl rfl 0 (by decide) (hts _ q_fl_X10_10) (fun _ h9 => h9) rfl dX10_key_48 ?_
    refine va_get (D := (dC, dI)) (ci := 4) (v := .ref (a 9)) (C := RX5) (T := TX5) (N := 9) hx hb hts inX5 hown hK hP 1 rfl rfl 3 (by decide) (hts _ q_fl_X10_148) (fun _ h9 => h9) rfl dX10_key_51 ?_
    refine lv_iload_n hx hb dX10_key_54 rfl (lv_at hl 1 rfl) ?_
    refine z_cVl (As := [.int x1]) (rest := [.int x2, .int x1, .ref (a 0)]) X (c_X9_currentOf l dC dI cI cJ cS (fun i => a (9 + i)) u.1.2.2.2.1 x1 _ hf) zc_X9_currentOf q_ml_X10_152 ⟨rfl, rfl⟩ ⟨Nat.le_of_ble_eq_true rfl, Nat.le_of_ble_eq_true rfl⟩ hP [9, 10, 11] rfl 8 rfl rfl hl.1 rfl rfl (Nat.le_of_ble_eq_true rfl) ⟨Nat.le_of_ble_eq_true rfl, Nat.le_of_ble_eq_true rfl⟩ dX10_key_55 (fun r_6 hf => ?_)
    refine z_wVi (As := [.int x1, .int x2, .long r_6]) (rest := []) X (c_X10_ofKey l dC dI cI cJ cS a u x1 x2 r_6 _ hf) zc_X10_ofKey q_ml_X10_158 ⟨rfl, rfl⟩ ⟨Nat.le_of_ble_eq_true rfl, Nat.le_of_ble_eq_true rfl⟩ hP 9 rfl rfl hl.1 rfl rfl (Nat.le_of_ble_eq_true rfl) ⟨Nat.le_of_ble_eq_true rfl, Nat.le_of_ble_eq_true rfl⟩ dX10_key_58 (fun r_7 hf => ?_)
    exact vx_ret (W.widen (k := 2) (n := 12) (Nat.le_of_ble_eq_true rfl) (Nat.le_of_ble_eq_true rfl) (z_retMi (Wf := (fun z => cl_X10 cI cJ cS a z)) (u := u) X hf hP hD hS dX10_key_61))
  · have hf := hf.2 c_5
    refine lv_aload_n hx hb dX10_key_16 rfl (lv_at hl 0 rfl) ?_
    refine va_get (D := (dC, dI)) (ci := 9) (v := .ref (a 16)) (C := RX10) (T := TX10) (N := 9) hx hb hts inX10 hown hK hP 0 rfl rfl 1 (by decide) (hts _ q_fl_X10_16) (fun _ h9 => h9) rfl dX10_key_17 ?_
    refine lv_aload_n hx hb dX10_key_20 rfl (lv_at hl 0 rfl) ?_
    refine va_get (D := (dC, dI)) (ci := 9) (v := .ref (a 1)) (C := RX10) (T := TX10) (N := 9) hx hb hts inX10 hown hK hP 0 rfl rfl 0 (by decide) (hts _ q_fl_X10_10) (fun _ h9 => h9) rfl dX10_key_21 ?_
    refine z_pVv (Wn := (fun u_9 => cl_X10 cI cJ cS a (u_9.2, u_9.1, u.2.2))) (As := [.ref (a 1)]) (rest := []) (wr := rr_X10_pn cI cJ cS a u) X (c_X5_copyFrom l dC dI cI cJ cS (fun i => a (16 + i)) (fun i => a (1 + i)) u.2.1 u.1  _ hf _) zc_X5_copyFrom q_ml_X10_55 ⟨rfl, rfl⟩ ⟨Nat.le_of_ble_eq_true rfl, Nat.le_of_ble_eq_true rfl⟩ hP hD hS hA (pm_X10_pn cI cJ cS a u) (fun u_9 => pm_X10_pn cI cJ cS a (u_9.2, u_9.1, u.2.2)) 4 rfl rfl hl.1 rfl rfl (Nat.le_of_ble_eq_true rfl) ⟨Nat.le_of_ble_eq_true rfl, Nat.le_of_ble_eq_true rfl⟩ dX10_key_24 (fun u_9 H locs hf hP hD hS => ?_)
    refine lv_aload_n hx hb dX10_key_27 rfl (lv_at hl 0 rfl) ?_
    refine va_get (D := (dC, dI)) (ci := 9) (v := .ref (a 16)) (C := RX10) (T := TX10) (N := 9) hx hb hts inX10 hown hK hP 0 rfl rfl 1 (by decide) (hts _ q_fl_X10_16) (fun _ h9 => h9) rfl dX10_key_28 ?_
    refine z_pVi (Wn := (fun u_11 => cl_X10 cI cJ cS a (u_9.2, u_11, u.2.2))) (As := []) (rest := []) (wr := rr_X10_p cI cJ cS a (u_9.2, u_9.1, u.2.2)) X (c_X5_loseUnsecured l dC dI cI cJ cS (fun i => a (16 + i)) u_9.1  _ hf _) zc_X5_loseUnsecured q_ml_X10_140 ⟨rfl, rfl⟩ ⟨Nat.le_of_ble_eq_true rfl, Nat.le_of_ble_eq_true rfl⟩ hP hD hS hA (pm_X10_p cI cJ cS a (u_9.2, u_9.1, u.2.2)) (fun u_11 => pm_X10_p cI cJ cS a (u_9.2, u_11, u.2.2)) 4 rfl rfl hl.1 rfl rfl (Nat.le_of_ble_eq_true rfl) ⟨Nat.le_of_ble_eq_true rfl, Nat.le_of_ble_eq_true rfl⟩ dX10_key_31 (fun r_10 u_11 H locs hf hP hD hS => ?_)
    refine lv_pop hx hb dX10_key_34 rfl ?_
    refine lv_aload_n hx hb dX10_key_35 rfl (lv_at hl 0 rfl) ?_
    refine va_get (D := (dC, dI)) (ci := 9) (v := .ref (a 16)) (C := RX10) (T := TX10) (N := 9) hx hb hts inX10 hown hK hP 0 rfl rfl 1 (by decide) (hts _ q_fl_X10_16) (fun _ h9 => h9) rfl dX10_key_36 ?_
    refine lv_iload_n hx hb dX10_key_39 rfl (lv_at hl 1 rfl) ?_
    refine z_cSi (As := [.ref (a 16), .int x1]) (rest := []) X (c_X10_lengthOn l dC dI cI cJ cS (fun i => a (16 + i)) u_11 x1 _ hf) zc_X10_lengthOn q_ml_X10_144 ⟨rfl, rfl⟩ ⟨Nat.le_of_ble_eq_true rfl, Nat.le_of_ble_eq_true rfl⟩ hP [16, 17, 18, 19, 20, 21, 22, 23, 24, 25, 26, 27, 28, 29, 30] rfl hl.1 rfl rfl (Nat.le_of_ble_eq_true rfl) ⟨Nat.le_of_ble_eq_true rfl, Nat.le_of_ble_eq_true rfl⟩ dX10_key_40 (fun r_12 hf => ?_)
    exact vx_ret (W.widen (k := 2) (n := 12) (Nat.le_of_ble_eq_true rfl) (Nat.le_of_ble_eq_true rfl) (z_retMi (Wf := (fun z => cl_X10 cI cJ cS a z)) (u := (u_9.2, u_11, u.2.2)) X hf hP hD hS dX10_key_43))
def s_X10_key (u : zCls) (x1 : Int32) (x2 : Int32) (Q : Int32 → zCls → Prop) (QX : String → zCls → Prop) : Prop := cAsk u (fun v => fKey v x1 x2) (exO 2 3 3) Q QX
theorem st_X10_key {u : zCls} {x1 x2 : Int32} {Q : Int32 → zCls → Prop} {QX : String → zCls → Prop} (h : s_X10_key u x1 x2 Q QX) : t_X10_key u x1 x2 Q QX := by
  obtain ⟨B, G, hG, hB, hc, hQ⟩ := h
  obtain ⟨v, ev⟩ : ∃ v, v = gNow G := ⟨_, rfl⟩
  rw [← ev] at hQ
  have hv : okB B v := by rw [ev]; exact hG.1
  have ho := hv.ok
  have c1 : u.1 = v := by rw [ev]; exact hc.1
  dsimp only at hQ
  unfold fKey at hQ
  refine lookKey_of (fun i1 => lookWhat_of (fun i2 => ⟨fun d => ?_, fun d => ?_⟩) (fun i2 => ?_)) (fun i1 => ?_)
  · rw [if_pos i1, if_pos i2] at hQ
    obtain ⟨k, hk, rfl, ek⟩ := key_n i1
    rw [ek] at hQ
    refine ⟨k, rN v, hk, ho.2.1.2, rfl, by rw [c1]; exact ho.r, k, by rw [c1]; exact ho, hk, rfl, by rw [c1]; rfl, ⟨i2.1, fun z => ?_⟩, ?_⟩
    · obtain ⟨n, -, h2, rfl, -⟩ := inR_n (a := 0) (b := 9) (by decide) (by decide) i2
      have h9 : ¬ n = 9 := fun q => d (by rw [q]; rfl)
      exact absurd z (nI_nlt (a := 8) (b := n) (by omega) (by decide))
    · rw [c1]; exact (hQ u hc).1 rfl
  · rw [if_pos i1, if_pos i2] at hQ
    obtain ⟨k, hk, rfl, ek⟩ := key_n i1
    rw [ek, d] at hQ
    show s_X5_loseUnsecured u.1 (fun (r_10 : Int32) (u_11 : zState) => s_X10_lengthOn u_11 (nI k) (fun r_12 : Int32 => Q r_12 (u.1, u_11, u.2.2)))
    rw [c1]
    refine ⟨ho, hv.dia, lenOn_of (hv.crash.ok) hk rfl ?_⟩
    have hc' : cG G (v, uCrash v, u.2.2) := ⟨ev, hc.2⟩
    exact (hQ _ hc').1 rfl
  · rw [if_pos i1, if_neg i2] at hQ
    exact (hQ u hc).2 (show ¬ (2 : Int32) = 0 by decide)
  · rw [if_neg i1] at hQ
    exact (hQ u hc).2 (show ¬ (1 : Int32) = 0 by decide)
theorem c_X10_key (l : Launch) (hlt : l.stackTraces = false) (dC : Nat → ClassId) (dI : Nat → Nat → Nat) (cI cJ cS : ClassId) (a : Nat → Nat) (u : zCls) (x1 : Int32) (x2 : Int32) (Q : Int32 → zCls → Prop) (QX : String → zCls → Prop) (hf : s_X10_key u x1 x2 Q QX) : ∀ sz : Nat, vx_Met l yX10_key (Cond.code yX10_key cX10_key 3 (some .int) :: zT) rm_X10_key (zPmF zFy dC dI cI cJ cS (cl_X10 cI cJ cS a u) [.ref (a 0), .int x1, .int x2] sz) (va_Qi Q (zB dC dI cI cJ cS (va_A (cl_X10 cI cJ cS a u) sz) (fun z => cl_X10 cI cJ cS a z)) (va_A (cl_X10 cI cJ cS a u) sz)) (zXc QX dC dI cI cJ cS (va_A (cl_X10 cI cJ cS a u) sz) (fun z => cl_X10 cI cJ cS a z)) 2 12 (va_A (cl_X10 cI cJ cS a u) sz) := L_X10_key l hlt dC dI cI cJ cS a u x1 x2 Q QX (st_X10_key hf)

def t_X10_octet (u : zCls) (x1 : Int32) (x2 : Int32) (Q : Int32 → zCls → Prop) (QX : String → zCls → Prop) : Prop := s_X10_lookAtKey x1 (fun (u_2 : Unit) => ((x2 < 0 → Q (-1 : Int32) u) ∧ (¬ x2 < 0 → s_X10_lengthOn u.1 x1 (fun r_4 : Int32 => ((x2 < r_4 → s_X9_currentOf u.1.2.2.2.1 x1 (fun r_6 : Int64 => s_X0_seedOf r_6 (fun r_7 : Int32 => Q ((r_7 + ((7 : Int32) * x2)) &&& (255 : Int32)) u))) ∧ (¬ x2 < r_4 → Q (-1 : Int32) u)))))) (fun (E : String) (u_2 : Unit) => QX E u)
theorem zc_X10_octet : zCalV RX10 yX10_octet cX10_octet 3 (some .int) 2 := ⟨q_im_X10_octet, q_se_X10_octet, q_in_X10, q_cd_X10_octet, ⟨by decide, by decide, by decide +kernel⟩, rfl⟩
abbrev rm_X10_octet : Room := { frames := 7, cells := 1, slots := 6, locals := 110 }
set_option maxHeartbeats 4000000 in
set_option maxRecDepth 100000 in
theorem L_X10_octet (l : Launch) (hlt : l.stackTraces = false) (dC : Nat → ClassId) (dI : Nat → Nat → Nat) (cI cJ cS : ClassId) (a : Nat → Nat) (u : zCls) (x1 : Int32) (x2 : Int32) (Q : Int32 → zCls → Prop) (QX : String → zCls → Prop) (hf : t_X10_octet u x1 x2 Q QX) : ∀ sz : Nat, vx_Met l yX10_octet (Cond.code yX10_octet cX10_octet 3 (some .int) :: zT) rm_X10_octet (zPmF zFy dC dI cI cJ cS (cl_X10 cI cJ cS a u) [.ref (a 0), .int x1, .int x2] sz) (va_Qi Q (zB dC dI cI cJ cS (va_A (cl_X10 cI cJ cS a u) sz) (fun z => cl_X10 cI cJ cS a z)) (va_A (cl_X10 cI cJ cS a u) sz)) (zXc QX dC dI cI cJ cS (va_A (cl_X10 cI cJ cS a u) sz) (fun z => cl_X10 cI cJ cS a z)) 1 6 (va_A (cl_X10 cI cJ cS a u) sz) := by
  intro sz
  refine z_enterX (Qc := fun A => va_Qi Q (zB dC dI cI cJ cS A (fun z => cl_X10 cI cJ cS a z)) A) (XC := fun A => zXc QX dC dI cI cJ cS A (fun z => cl_X10 cI cJ cS a z)) (cc := cX10_octet) (maxL := 3) (ret := (some .int)) (by decide) (Nat.le_of_ble_eq_true rfl) ?_
  intro p e s m below meth c ls A X htb hP hD hS hA hF hl
  obtain ⟨⟨hx, hb, hml, hown, hts⟩, hr, hlk, hK⟩ := id X
  have hl : lv_has ls 3 [(0, .ref (a 0)), (1, .int x1), (2, .int x2)] := hl
  unfold t_X10_octet at hf
  refine lv_iload_n hx hb dX10_octet_0 rfl (lv_at hl 1 rfl) ?_
  refine z_xSvO (Wn := (fun u_2 => cl_X10 cI cJ cS a u)) (As := [.int x1]) (rest := []) (wr := cl_X10 cI cJ cS a u) X fro_Fy hF (c_X10_lookAtKey l hlt dC dI cI cJ cS   x1 _ _ hf _) zc_X10_lookAtKey q_ml_X10_105 ⟨rfl, rfl⟩ ⟨Nat.le_of_ble_eq_true rfl, Nat.le_of_ble_eq_true rfl⟩ hP hD hS hA (pm_0 _) (fun _ => pm_0 _) (Wo := (fun z => cl_X10 cI cJ cS a z)) (fun u_2 => u) (fun _ => rfl) htb (fun _ _ h => h) ⟨Nat.le_of_ble_eq_true rfl, Nat.le_of_ble_eq_true rfl⟩ hl.1 rfl rfl (Nat.le_of_ble_eq_true rfl) ⟨Nat.le_of_ble_eq_true rfl, Nat.le_of_ble_eq_true rfl⟩ dX10_octet_1 (fun u_2 H locs hf hP hD hS => ?_)
  refine lv_iload_n hx hb dX10_octet_4 rfl (lv_at hl 2 rfl) ?_
  refine lv_if_lt (tgt := 20) hx hb dX10_octet_5 (by decide) (fun c_3 => ?_) (fun c_3 => ?_)
  · have hf := hf.1 c_3
    refine lv_iconst (v := (-1)) hx hb dX10_octet_20 (by decide) ?_
    exact vx_ret (W.widen (k := 1) (n := 6) (Nat.le_of_ble_eq_true rfl) (Nat.le_of_ble_eq_true rfl) (z_retMi (Wf := (fun z => cl_X10 cI cJ cS a z)) (u := u) X hf hP hD hS dX10_octet_21))
  · have hf := hf.2 c_3
    refine lv_iload_n hx hb dX10_octet_8 rfl (lv_at hl 2 rfl) ?_
    refine lv_aload_n hx hb dX10_octet_9 rfl (lv_at hl 0 rfl) ?_
    refine va_get (D := (dC, dI)) (ci := 9) (v := .ref (a 1)) (C := RX10) (T := TX10) (N := 9) hx hb hts inX10 hown hK hP 0 rfl rfl 0 (by decide) (hts _ q_fl_X10_10) (fun _ h9 => h9) rfl dX10_octet_10 ?_
    refine lv_iload_n hx hb dX10_octet_13 rfl (lv_at hl 1 rfl) ?_
    refine z_cSi (As := [.ref (a 1), .int x1]) (rest := [.int x2]) X (c_X10_lengthOn l dC dI cI cJ cS (fun i => a (1 + i)) u.1 x1 _ hf) zc_X10_lengthOn q_ml_X10_144 ⟨rfl, rfl⟩ ⟨Nat.le_of_ble_eq_true rfl, Nat.le_of_ble_eq_true rfl⟩ hP [1, 2, 3, 4, 5, 6, 7, 8, 9, 10, 11, 12, 13, 14, 15] rfl hl.1 rfl rfl (Nat.le_of_ble_eq_true rfl) ⟨Nat.le_of_ble_eq_true rfl, Nat.le_of_ble_eq_true rfl⟩ dX10_octet_14 (fun r_4 hf => ?_)
    refine lv_icmp_lt (tgt := 22) hx hb dX10_octet_17 (by decide) (fun c_5 => ?_) (fun c_5 => ?_)
    · have hf := hf.1 c_5
      refine lv_aload_n hx hb dX10_octet_22 rfl (lv_at hl 0 rfl) ?_
      refine va_get (D := (dC, dI)) (ci := 9) (v := .ref (a 1)) (C := RX10) (T := TX10) (N := 9) hx hb hts inX10 hown hK hP 0 rfl rfl 0 (by decide) (hts _ q_fl_X10_10) (fun _ h9 => h9) rfl dX10_octet_23 ?_
      refine va_get (D := (dC, dI)) (ci := 4) (v := .ref (a 9)) (C := RX5) (T := TX5) (N := 9) hx hb hts inX5 hown hK hP 1 rfl rfl 3 (by decide) (hts _ q_fl_X10_148) (fun _ h9 => h9) rfl dX10_octet_26 ?_
      refine lv_iload_n hx hb dX10_octet_29 rfl (lv_at hl 1 rfl) ?_
      refine z_cVl (As := [.int x1]) (rest := []) X (c_X9_currentOf l dC dI cI cJ cS (fun i => a (9 + i)) u.1.2.2.2.1 x1 _ hf) zc_X9_currentOf q_ml_X10_152 ⟨rfl, rfl⟩ ⟨Nat.le_of_ble_eq_true rfl, Nat.le_of_ble_eq_true rfl⟩ hP [9, 10, 11] rfl 8 rfl rfl hl.1 rfl rfl (Nat.le_of_ble_eq_true rfl) ⟨Nat.le_of_ble_eq_true rfl, Nat.le_of_ble_eq_true rfl⟩ dX10_octet_30 (fun r_6 hf => ?_)
      refine z_cSi (As := [.long r_6]) (rest := []) X (c_X0_seedOf l dC dI cI cJ cS   r_6 _ hf) zc_X0_seedOf q_ml_X10_169 ⟨rfl, rfl⟩ ⟨Nat.le_of_ble_eq_true rfl, Nat.le_of_ble_eq_true rfl⟩ hP [] rfl hl.1 rfl rfl (Nat.le_of_ble_eq_true rfl) ⟨Nat.le_of_ble_eq_true rfl, Nat.le_of_ble_eq_true rfl⟩ dX10_octet_33 (fun r_7 hf => ?_)
      refine lv_bipush (v := 7) hx hb dX10_octet_36 (by decide) ?_
      refine lv_iload_n hx hb dX10_octet_38 rfl (lv_at hl 2 rfl) ?_
      refine lv_imul hx hb dX10_octet_39 ?_
      refine lv_iadd hx hb dX10_octet_40 ?_
      refine lv_sipush (v := 255) hx hb dX10_octet_41 (by decide) ?_
      refine lv_iand hx hb dX10_octet_44 ?_
      exact vx_ret (W.widen (k := 1) (n := 6) (Nat.le_of_ble_eq_true rfl) (Nat.le_of_ble_eq_true rfl) (z_retMi (Wf := (fun z => cl_X10 cI cJ cS a z)) (u := u) X hf hP hD hS dX10_octet_45))
    · have hf := hf.2 c_5
      refine lv_iconst (v := (-1)) hx hb dX10_octet_20 (by decide) ?_
      exact vx_ret (W.widen (k := 1) (n := 6) (Nat.le_of_ble_eq_true rfl) (Nat.le_of_ble_eq_true rfl) (z_retMi (Wf := (fun z => cl_X10 cI cJ cS a z)) (u := u) X hf hP hD hS dX10_octet_21))
def s_X10_octet (u : zCls) (x1 : Int32) (x2 : Int32) (Q : Int32 → zCls → Prop) (QX : String → zCls → Prop) : Prop := cAsk u (fun v => fOctet v x1 x2) (exO 2 2 2) Q QX
theorem st_X10_octet {u : zCls} {x1 x2 : Int32} {Q : Int32 → zCls → Prop} {QX : String → zCls → Prop} (h : s_X10_octet u x1 x2 Q QX) : t_X10_octet u x1 x2 Q QX := by
  obtain ⟨B, G, hG, hB, hc, hQ⟩ := h
  obtain ⟨v, ev⟩ : ∃ v, v = gNow G := ⟨_, rfl⟩
  rw [← ev] at hQ
  have hv : okB B v := by rw [ev]; exact hG.1
  have ho := hv.ok
  have c1 : u.1 = v := by rw [ev]; exact hc.1
  dsimp only at hQ
  unfold fOctet at hQ
  refine lookKey_of (fun i1 => ?_) (fun i1 => ?_)
  · rw [if_pos i1] at hQ
    obtain ⟨k, hk, rfl, ek⟩ := key_n i1
    rw [ek] at hQ
    have hQ := (hQ u hc).1 rfl
    dsimp only at hQ
    refine ⟨fun z => ?_, fun z => lenOn_of ho hk c1 ⟨fun z2 => ⟨k, rN v, hk, ho.2.1.2, rfl, by rw [c1]; exact ho.r, ?_⟩, fun z2 => ?_⟩⟩
    · rw [if_neg (fun q => q.1 z)] at hQ; exact hQ
    · have hval : uVal v k = true := by
        cases q : uVal v k with
        | true => rfl
        | false =>
          rw [(vof_no q).2.1] at z2
          exfalso
          rw [fa_lt] at z z2
          have e1 : (-1 : Int32).toInt = -1 := by decide
          have e2 : (0 : Int32).toInt = 0 := by decide
          omega
      obtain ⟨b1, b2, b3, b4, b5, b6⟩ := vof_eq hval
      rw [b5] at z2 hQ
      obtain ⟨n, hn, rfl⟩ := nI_of z
      have hlt : n < lnN (uCur v k) := by
        have : ¬ lnN (uCur v k) ≤ n := fun q => absurd z2 (nI_nlt q (by omega))
        omega
      have hin : inR (nI n) 0 (nI (lnN (uCur v k)) - 1) := by
        obtain ⟨r, er⟩ : ∃ r, lnN (uCur v k) = r + 1 := ⟨lnN (uCur v k) - 1, by omega⟩
        rw [er, nI_pred]
        exact ⟨nI_pos hn, nI_nlt (by omega) (by omega)⟩
      rw [if_pos hin, b6] at hQ
      show Q ((cSeed (zCur u.1.2.2.2.1.1 k (rN v + 1)) + (7 : Int32) * nI n) &&& (255 : Int32)) u
      rw [c1]
      show Q ((cSeed (uCur v k) + (7 : Int32) * nI n) &&& (255 : Int32)) u
      have e3 : cSeed (uCur v k) = nI (sdN (uCur v k)) := (sdN_eq _).1
      rw [e3]
      exact hQ
    · rw [if_neg (fun q => z2 ?_)] at hQ
      · exact hQ
      · cases hval : uVal v k with
        | false =>
          rw [(vof_no hval).2.1] at q
          exfalso
          have h1 := q.1
          have h2 := q.2
          rw [fa_lt] at h1 h2
          have e1 : ((-1 : Int32) - 1).toInt = -2 := by decide
          have e2 : (0 : Int32).toInt = 0 := by decide
          omega
        | true =>
          obtain ⟨b1, b2, b3, b4, b5, b6⟩ := vof_eq hval
          rw [b5] at q ⊢
          obtain ⟨r, er⟩ : ∃ r, lnN (uCur v k) = r + 1 := ⟨lnN (uCur v k) - 1, by omega⟩
          rw [er, nI_pred] at q
          obtain ⟨n, hn, rfl⟩ := nI_of q.1
          have : ¬ r < n := fun z => q.2 (nI_lt z hn)
          exact nI_lt (by omega) (by omega)
  · rw [if_neg i1] at hQ
    exact (hQ u hc).2 (show ¬ (1 : Int32) = 0 by decide)
theorem c_X10_octet (l : Launch) (hlt : l.stackTraces = false) (dC : Nat → ClassId) (dI : Nat → Nat → Nat) (cI cJ cS : ClassId) (a : Nat → Nat) (u : zCls) (x1 : Int32) (x2 : Int32) (Q : Int32 → zCls → Prop) (QX : String → zCls → Prop) (hf : s_X10_octet u x1 x2 Q QX) : ∀ sz : Nat, vx_Met l yX10_octet (Cond.code yX10_octet cX10_octet 3 (some .int) :: zT) rm_X10_octet (zPmF zFy dC dI cI cJ cS (cl_X10 cI cJ cS a u) [.ref (a 0), .int x1, .int x2] sz) (va_Qi Q (zB dC dI cI cJ cS (va_A (cl_X10 cI cJ cS a u) sz) (fun z => cl_X10 cI cJ cS a z)) (va_A (cl_X10 cI cJ cS a u) sz)) (zXc QX dC dI cI cJ cS (va_A (cl_X10 cI cJ cS a u) sz) (fun z => cl_X10 cI cJ cS a z)) 1 6 (va_A (cl_X10 cI cJ cS a u) sz) := L_X10_octet l hlt dC dI cI cJ cS a u x1 x2 Q QX (st_X10_octet hf)

def t_X10_from_e (u : zCls) (x1 : Int32) (x2 : Int32) (K9 : Int32 → Int32 → zCls → Prop) (Q : Int32 → zCls → Prop) (QX : String → zCls → Prop) : Prop := s_X10_lookAtKey x1 (fun (u_2 : Unit) => K9 (0 : Int32) x1 u) (fun (E : String) (u_2 : Unit) => QX E u)
def t_X10_from_9 (x1 : Int32) (x2 : Int32) (y3 : Int32) (y4 : Int32) (z : zCls) (K9 : Int32 → Int32 → zCls → Prop) (Q : Int32 → zCls → Prop) (QX : String → zCls → Prop) : Prop := (((64 : Int32) ≤ y4 → Q (-1 : Int32) z) ∧ (¬ (64 : Int32) ≤ y4 → s_X5_hasValue z.1 y4 (fun r_5 : Int32 => ((r_5 = 0 → ∀ x_7 : Int32, x_7 = y4 + (1 : Int32) → K9 y3 x_7 z) ∧ (¬ r_5 = 0 → ((¬ y3 = x2 → ∀ x_10 : Int32, x_10 = y3 + (1 : Int32) → ∀ x_11 : Int32, x_11 = y4 + (1 : Int32) → K9 x_10 x_11 z) ∧ (y3 = x2 → Q y4 z)))))))
theorem zc_X10_from : zCalV RX10 yX10_from cX10_from 5 (some .int) 2 := ⟨q_im_X10_from, q_se_X10_from, q_in_X10, q_cd_X10_from, ⟨by decide, by decide, by decide +kernel⟩, rfl⟩
abbrev rm_X10_from : Room := { frames := 7, cells := 1, slots := 6, locals := 110 }
def v_X10_from (u : zCls) (x1 : Int32) (x2 : Int32) (Q : Int32 → zCls → Prop) (QX : String → zCls → Prop) : Prop := ∃ I9 : Nat → Int32 → Int32 → zCls → Prop, (∀ (n : Nat) (y3 : Int32) (y4 : Int32) (z : zCls), I9 n y3 y4 z → t_X10_from_9 x1 x2 y3 y4 z (fun q0 q1 q2 => ∃ k : Nat, k < n ∧ I9 k q0 q1 q2) Q QX) ∧ t_X10_from_e u x1 x2 (fun q0 q1 q2 => ∃ k : Nat, I9 k q0 q1 q2) Q QX
set_option maxHeartbeats 4000000 in
set_option maxRecDepth 100000 in
theorem L_X10_from (l : Launch) (hlt : l.stackTraces = false) (dC : Nat → ClassId) (dI : Nat → Nat → Nat) (cI cJ cS : ClassId) (a : Nat → Nat) (u : zCls) (x1 : Int32) (x2 : Int32) (Q : Int32 → zCls → Prop) (QX : String → zCls → Prop) (I9 : Nat → Int32 → Int32 → zCls → Prop) (h9 : ∀ (n : Nat) (y3 : Int32) (y4 : Int32) (z : zCls), I9 n y3 y4 z → t_X10_from_9 x1 x2 y3 y4 z (fun q0 q1 q2 => ∃ k : Nat, k < n ∧ I9 k q0 q1 q2) Q QX) (hf : t_X10_from_e u x1 x2 (fun q0 q1 q2 => ∃ k : Nat, I9 k q0 q1 q2) Q QX) : ∀ sz : Nat, vx_Met l yX10_from (Cond.code yX10_from cX10_from 5 (some .int) :: zT) rm_X10_from (zPmF zFy dC dI cI cJ cS (cl_X10 cI cJ cS a u) [.ref (a 0), .int x1, .int x2] sz) (va_Qi Q (zB dC dI cI cJ cS (va_A (cl_X10 cI cJ cS a u) sz) (fun z => cl_X10 cI cJ cS a z)) (va_A (cl_X10 cI cJ cS a u) sz)) (zXc QX dC dI cI cJ cS (va_A (cl_X10 cI cJ cS a u) sz) (fun z => cl_X10 cI cJ cS a z)) 1 6 (va_A (cl_X10 cI cJ cS a u) sz) := by
  intro sz
  refine z_enterX (Qc := fun A => va_Qi Q (zB dC dI cI cJ cS A (fun z => cl_X10 cI cJ cS a z)) A) (XC := fun A => zXc QX dC dI cI cJ cS A (fun z => cl_X10 cI cJ cS a z)) (cc := cX10_from) (maxL := 5) (ret := (some .int)) (by decide) (Nat.le_of_ble_eq_true rfl) ?_
  intro p e s m below meth c ls A X htb hP hD hS hA hF hl
  obtain ⟨⟨hx, hb, hml, hown, hts⟩, hr, hlk, hK⟩ := id X
  have hl : lv_has ls 5 [(0, .ref (a 0)), (1, .int x1), (2, .int x2)] := hl
  have LP : ∀ n : Nat, (∀ (y3 : Int32) (y4 : Int32) (z : zCls) (H : Heap) (locs : List Loc) (ls : Array Slot), I9 n y3 y4 z → va_P (dC, dI) vwCl (cl_X10 cI cJ cS a z) H → va_D A (cl_X10 cI cJ cS a z) → va_S A s.heap H locs → lv_has ls 5 [(0, .ref (a 0)), (1, .int x1), (2, .int x2), (3, .int y3), (4, .int y4)] → W p l e rm_X10_from s m [.ref (a 0), .int x1, .int x2].toArray below meth c H locs 1 6 (vx_MQ below (va_Qi Q (zB dC dI cI cJ cS A (fun z => cl_X10 cI cJ cS a z)) A) (zXc QX dC dI cI cJ cS A (fun z => cl_X10 cI cJ cS a z)) [.ref (a 0), .int x1, .int x2].toArray s 1 6 A) (F0 m 9 ls [])) := by
    intro n
    induction n using Nat.strongRecOn with
    | _ n ih =>
      intro y3 y4 z H locs ls hI hP hD hS hl
      have hf := h9 n y3 y4 z hI
      unfold t_X10_from_9 at hf
      refine lv_iload hx hb dX10_from_9 (lv_at hl 4 rfl) ?_
      refine lv_bipush (v := 64) hx hb dX10_from_11 (by decide) ?_
      refine lv_icmp_ge (tgt := 45) hx hb dX10_from_13 (by decide) (fun c_4 => ?_) (fun c_4 => ?_)
      · have hf := hf.1 c_4
        refine lv_iconst (v := (-1)) hx hb dX10_from_45 (by decide) ?_
        exact vx_ret (W.widen (k := 1) (n := 6) (Nat.le_of_ble_eq_true rfl) (Nat.le_of_ble_eq_true rfl) (z_retMi (Wf := (fun z => cl_X10 cI cJ cS a z)) (u := z) X hf hP hD hS dX10_from_46))
      · have hf := hf.2 c_4
        refine lv_aload_n hx hb dX10_from_16 rfl (lv_at hl 0 rfl) ?_
        refine va_get (D := (dC, dI)) (ci := 9) (v := .ref (a 1)) (C := RX10) (T := TX10) (N := 9) hx hb hts inX10 hown hK hP 0 rfl rfl 0 (by decide) (hts _ q_fl_X10_10) (fun _ h9 => h9) rfl dX10_from_17 ?_
        refine lv_iload hx hb dX10_from_20 (lv_at hl 4 rfl) ?_
        refine z_cVi (As := [.int y4]) (rest := []) X (c_X5_hasValue l dC dI cI cJ cS (fun i => a (1 + i)) z.1 y4 _ hf) zc_X5_hasValue q_ml_X10_166 ⟨rfl, rfl⟩ ⟨Nat.le_of_ble_eq_true rfl, Nat.le_of_ble_eq_true rfl⟩ hP [1, 2, 3, 4, 5, 6, 7, 8, 9, 10, 11, 12, 13, 14, 15] rfl 4 rfl rfl hl.1 rfl rfl (Nat.le_of_ble_eq_true rfl) ⟨Nat.le_of_ble_eq_true rfl, Nat.le_of_ble_eq_true rfl⟩ dX10_from_22 (fun r_5 hf => ?_)
        obtain ⟨hbr_5, hf⟩ := hf
        refine lv_if_eq (tgt := 39) hx hb dX10_from_25 (by decide) (fun c_6 => ?_) (fun c_6 => ?_)
        · have hf := hf.1 c_6
          obtain ⟨x_7, ex_7⟩ : ∃ y : Int32, y = y4 + (1 : Int32) := ⟨_, rfl⟩
          have hf := hf x_7 ex_7
          refine lv_iinc (v := x_7) (lv' := [(4, .int x_7), (0, .ref (a 0)), (1, .int x1), (2, .int x2), (3, .int y3)]) hx hb dX10_from_39 hl (k := 4) rfl (by rw [ex_7]; rfl) (by decide) rfl (fun ls hl => ?_)
          refine lv_goto (tgt := 9) hx hb dX10_from_42 (by decide) ?_
          obtain ⟨k_8, hk_8, hf⟩ := hf
          exact (ih k_8 hk_8) _ _ z _ _ ls hf hP hD hS (lv_sub hl [1, 2, 3, 4, 0] rfl)
        · have hf := hf.2 c_6
          refine lv_iload_n hx hb dX10_from_28 rfl (lv_at hl 3 rfl) ?_
          refine lv_iload_n hx hb dX10_from_29 rfl (lv_at hl 2 rfl) ?_
          refine lv_icmp_ne (tgt := 36) hx hb dX10_from_30 (by decide) (fun c_9 => ?_) (fun c_9 => ?_)
          · have hf := hf.1 c_9
            obtain ⟨x_10, ex_10⟩ : ∃ y : Int32, y = y3 + (1 : Int32) := ⟨_, rfl⟩
            have hf := hf x_10 ex_10
            refine lv_iinc (v := x_10) (lv' := [(3, .int x_10), (0, .ref (a 0)), (1, .int x1), (2, .int x2), (4, .int y4)]) hx hb dX10_from_36 hl (k := 3) rfl (by rw [ex_10]; rfl) (by decide) rfl (fun ls hl => ?_)
            obtain ⟨x_11, ex_11⟩ : ∃ y : Int32, y = y4 + (1 : Int32) := ⟨_, rfl⟩
            have hf := hf x_11 ex_11
            refine lv_iinc (v := x_11) (lv' := [(4, .int x_11), (3, .int x_10), (0, .ref (a 0)), (1, .int x1), (2, .int x2)]) hx hb dX10_from_39 hl (k := 4) rfl (by rw [ex_11]; rfl) (by decide) rfl (fun ls hl => ?_)
            refine lv_goto (tgt := 9) hx hb dX10_from_42 (by decide) ?_
            obtain ⟨k_12, hk_12, hf⟩ := hf
            exact (ih k_12 hk_12) _ _ z _ _ ls hf hP hD hS (lv_sub hl [2, 3, 4, 1, 0] rfl)
          · have hf := hf.2 c_9
            refine lv_iload hx hb dX10_from_33 (lv_at hl 4 rfl) ?_
            exact vx_ret (W.widen (k := 1) (n := 6) (Nat.le_of_ble_eq_true rfl) (Nat.le_of_ble_eq_true rfl) (z_retMi (Wf := (fun z => cl_X10 cI cJ cS a z)) (u := z) X hf hP hD hS dX10_from_35))
  unfold t_X10_from_e at hf
  refine lv_iload_n hx hb dX10_from_0 rfl (lv_at hl 1 rfl) ?_
  refine z_xSvO (Wn := (fun u_2 => cl_X10 cI cJ cS a u)) (As := [.int x1]) (rest := []) (wr := cl_X10 cI cJ cS a u) X fro_Fy hF (c_X10_lookAtKey l hlt dC dI cI cJ cS   x1 _ _ hf _) zc_X10_lookAtKey q_ml_X10_105 ⟨rfl, rfl⟩ ⟨Nat.le_of_ble_eq_true rfl, Nat.le_of_ble_eq_true rfl⟩ hP hD hS hA (pm_0 _) (fun _ => pm_0 _) (Wo := (fun z => cl_X10 cI cJ cS a z)) (fun u_2 => u) (fun _ => rfl) htb (fun _ _ h => h) ⟨Nat.le_of_ble_eq_true rfl, Nat.le_of_ble_eq_true rfl⟩ hl.1 rfl rfl (Nat.le_of_ble_eq_true rfl) ⟨Nat.le_of_ble_eq_true rfl, Nat.le_of_ble_eq_true rfl⟩ dX10_from_1 (fun u_2 H locs hf hP hD hS => ?_)
  refine lv_iconst (v := 0) hx hb dX10_from_4 (by decide) ?_
  refine lv_istore_n (lv' := [(3, .int (0 : Int32)), (0, .ref (a 0)), (1, .int x1), (2, .int x2)]) hx hb dX10_from_5 rfl hl (by decide) rfl (fun ls hl => ?_)
  refine lv_iload_n hx hb dX10_from_6 rfl (lv_at hl 2 rfl) ?_
  refine lv_istore (lv' := [(4, .int x1), (3, .int (0 : Int32)), (0, .ref (a 0)), (1, .int x1), (2, .int x2)]) hx hb dX10_from_7 hl (by decide) rfl (fun ls hl => ?_)
  obtain ⟨k_3, hf⟩ := hf
  exact (LP k_3) _ _ u _ _ ls hf hP hD hS (lv_sub hl [2, 3, 4, 1, 0] rfl)
def s_X10_from (u : zCls) (x1 : Int32) (x2 : Int32) (Q : Int32 → zCls → Prop) (QX : String → zCls → Prop) : Prop := cAsk u (fun v => fFrom v x1 x2) (exO 2 2 2) Q QX
theorem st_X10_from {u : zCls} {x1 x2 : Int32} {Q : Int32 → zCls → Prop} {QX : String → zCls → Prop} (h : s_X10_from u x1 x2 Q QX) : v_X10_from u x1 x2 Q QX := by
  obtain ⟨B, G, hG, hB, hc, hQ⟩ := h
  obtain ⟨v, ev⟩ : ∃ v, v = gNow G := ⟨_, rfl⟩
  rw [← ev] at hQ
  have hv : okB B v := by rw [ev]; exact hG.1
  have ho := hv.ok
  have c1 : u.1 = v := by rw [ev]; exact hc.1
  dsimp only at hQ
  unfold fFrom at hQ
  by_cases i1 : inR x1 0 63
  · rw [if_pos i1] at hQ
    have hQ := (hQ u hc).1 rfl
    dsimp only at hQ
    obtain ⟨k, hk, rfl, ek⟩ := key_n i1
    rw [ek] at hQ
    refine ⟨fun n y3 y4 z => ∃ o : Nat, o ≤ 64 ∧ n = 64 - o ∧ y4 = nI o ∧ z = u ∧ uFr v x2 (64 - k) k 0 = uFr v x2 (64 - o) o y3, ?_, ?_⟩
    · rintro n y3 y4 z ⟨o, ho6, rfl, rfl, rfl, er⟩
      rw [er] at hQ
      refine ⟨fun c => ?_, fun c => ?_⟩
      · have := (nI_leI (a := 64) (b := o) (by decide) (by omega)).mp c
        rw [show 64 - o = 0 by omega] at hQ
        exact hQ
      · have hlt : o < 64 := by
          have : ¬ 64 ≤ o := fun q => c (nI_le (a := 64) q (by omega))
          omega
        obtain ⟨m, em⟩ : ∃ m, 64 - o = m + 1 := ⟨63 - o, by omega⟩
        rw [em] at hQ er
        show s_X5_hasValue z.1 (nI o) _
        rw [c1]
        refine ⟨ho, o, hlt, rfl, fun hv' => ⟨fun q => absurd q (by decide), fun _ => ⟨fun d x ex y ey => ?_, fun d => ?_⟩⟩, fun hv' => ⟨fun _ x ex => ?_, fun q => absurd rfl q⟩⟩
        · refine ⟨64 - (o + 1), by omega, o + 1, hlt, rfl, by rw [ey, nI_1], rfl, ?_⟩
          rw [er, show 64 - (o + 1) = m by omega]
          show (if uVal v o then (if y3 = x2 then nI o else uFr v x2 m (o + 1) (y3 + 1)) else uFr v x2 m (o + 1) y3) = _
          rw [if_pos hv', if_neg d, ex]
        · have hQ : Q (if uVal v o then (if y3 = x2 then nI o else uFr v x2 m (o + 1) (y3 + 1)) else uFr v x2 m (o + 1) y3) z := hQ
          rw [if_pos hv', if_pos d] at hQ
          exact hQ
        · refine ⟨64 - (o + 1), by omega, o + 1, hlt, rfl, by rw [ex, nI_1], rfl, ?_⟩
          rw [er, show 64 - (o + 1) = m by omega]
          show (if uVal v o then (if y3 = x2 then nI o else uFr v x2 m (o + 1) (y3 + 1)) else uFr v x2 m (o + 1) y3) = _
          rw [if_neg (by rw [hv']; decide)]
    · exact lookKey_of (fun _ => ⟨64 - k, k, by omega, rfl, rfl, rfl, rfl⟩) (fun z => absurd i1 z)
  · rw [if_neg i1] at hQ
    exact ⟨fun _ _ _ _ => False, fun _ _ _ _ q => q.elim, lookKey_of (fun z => absurd z i1) (fun _ => (hQ u hc).2 (show ¬ (1 : Int32) = 0 by decide))⟩
theorem c_X10_from (l : Launch) (hlt : l.stackTraces = false) (dC : Nat → ClassId) (dI : Nat → Nat → Nat) (cI cJ cS : ClassId) (a : Nat → Nat) (u : zCls) (x1 : Int32) (x2 : Int32) (Q : Int32 → zCls → Prop) (QX : String → zCls → Prop) (hf : s_X10_from u x1 x2 Q QX) : ∀ sz : Nat, vx_Met l yX10_from (Cond.code yX10_from cX10_from 5 (some .int) :: zT) rm_X10_from (zPmF zFy dC dI cI cJ cS (cl_X10 cI cJ cS a u) [.ref (a 0), .int x1, .int x2] sz) (va_Qi Q (zB dC dI cI cJ cS (va_A (cl_X10 cI cJ cS a u) sz) (fun z => cl_X10 cI cJ cS a z)) (va_A (cl_X10 cI cJ cS a u) sz)) (zXc QX dC dI cI cJ cS (va_A (cl_X10 cI cJ cS a u) sz) (fun z => cl_X10 cI cJ cS a z)) 1 6 (va_A (cl_X10 cI cJ cS a u) sz) := by
  obtain ⟨I9, h9, hf⟩ := st_X10_from hf
  exact L_X10_from l hlt dC dI cI cJ cS a u x1 x2 Q QX I9 h9 hf

def t_X10_below (u : zCls) (x1 : Int32) (Q : Int32 → zCls → Prop) (QX : String → zCls → Prop) : Prop := s_X10_lookAtKey x1 (fun (u_2 : Unit) => s_X5_valuesBelow u.1 x1 (fun r_3 : Int32 => Q r_3 u)) (fun (E : String) (u_2 : Unit) => QX E u)
theorem zc_X10_below : zCalV RX10 yX10_below cX10_below 2 (some .int) 1 := ⟨q_im_X10_below, q_se_X10_below, q_in_X10, q_cd_X10_below, ⟨by decide, by decide, by decide +kernel⟩, rfl⟩
abbrev rm_X10_below : Room := { frames := 7, cells := 1, slots := 6, locals := 110 }
set_option maxHeartbeats 4000000 in
set_option maxRecDepth 100000 in
theorem L_X10_below (l : Launch) (hlt : l.stackTraces = false) (dC : Nat → ClassId) (dI : Nat → Nat → Nat) (cI cJ cS : ClassId) (a : Nat → Nat) (u : zCls) (x1 : Int32) (Q : Int32 → zCls → Prop) (QX : String → zCls → Prop) (hf : t_X10_below u x1 Q QX) : ∀ sz : Nat, vx_Met l yX10_below (Cond.code yX10_below cX10_below 2 (some .int) :: zT) rm_X10_below (zPmF zFy dC dI cI cJ cS (cl_X10 cI cJ cS a u) [.ref (a 0), .int x1] sz) (va_Qi Q (zB dC dI cI cJ cS (va_A (cl_X10 cI cJ cS a u) sz) (fun z => cl_X10 cI cJ cS a z)) (va_A (cl_X10 cI cJ cS a u) sz)) (zXc QX dC dI cI cJ cS (va_A (cl_X10 cI cJ cS a u) sz) (fun z => cl_X10 cI cJ cS a z)) 1 6 (va_A (cl_X10 cI cJ cS a u) sz) := by
  intro sz
  refine z_enterX (Qc := fun A => va_Qi Q (zB dC dI cI cJ cS A (fun z => cl_X10 cI cJ cS a z)) A) (XC := fun A => zXc QX dC dI cI cJ cS A (fun z => cl_X10 cI cJ cS a z)) (cc := cX10_below) (maxL := 2) (ret := (some .int)) (by decide) (Nat.le_of_ble_eq_true rfl) ?_
  intro p e s m below meth c ls A X htb hP hD hS hA hF hl
  obtain ⟨⟨hx, hb, hml, hown, hts⟩, hr, hlk, hK⟩ := id X
  have hl : lv_has ls 2 [(0, .ref (a 0)), (1, .int x1)] := hl
  unfold t_X10_below at hf
  refine lv_iload_n hx hb dX10_below_0 rfl (lv_at hl 1 rfl) ?_
  refine z_xSvO (Wn := (fun u_2 => cl_X10 cI cJ cS a u)) (As := [.int x1]) (rest := []) (wr := cl_X10 cI cJ cS a u) X fro_Fy hF (c_X10_lookAtKey l hlt dC dI cI cJ cS   x1 _ _ hf _) zc_X10_lookAtKey q_ml_X10_105 ⟨rfl, rfl⟩ ⟨Nat.le_of_ble_eq_true rfl, Nat.le_of_ble_eq_true rfl⟩ hP hD hS hA (pm_0 _) (fun _ => pm_0 _) (Wo := (fun z => cl_X10 cI cJ cS a z)) (fun u_2 => u) (fun _ => rfl) htb (fun _ _ h => h) ⟨Nat.le_of_ble_eq_true rfl, Nat.le_of_ble_eq_true rfl⟩ hl.1 rfl rfl (Nat.le_of_ble_eq_true rfl) ⟨Nat.le_of_ble_eq_true rfl, Nat.le_of_ble_eq_true rfl⟩ dX10_below_1 (fun u_2 H locs hf hP hD hS => ?_)
  refine lv_aload_n hx hb dX10_below_4 rfl (lv_at hl 0 rfl) ?_
  refine va_get (D := (dC, dI)) (ci := 9) (v := .ref (a 1)) (C := RX10) (T := TX10) (N := 9) hx hb hts inX10 hown hK hP 0 rfl rfl 0 (by decide) (hts _ q_fl_X10_10) (fun _ h9 => h9) rfl dX10_below_5 ?_
  refine lv_iload_n hx hb dX10_below_8 rfl (lv_at hl 1 rfl) ?_
  refine z_cVi (As := [.int x1]) (rest := []) X (c_X5_valuesBelow l dC dI cI cJ cS (fun i => a (1 + i)) u.1 x1 _ hf) zc_X5_valuesBelow q_ml_X10_195 ⟨rfl, rfl⟩ ⟨Nat.le_of_ble_eq_true rfl, Nat.le_of_ble_eq_true rfl⟩ hP [1, 2, 3, 4, 5, 6, 7, 8, 9, 10, 11, 12, 13, 14, 15] rfl 4 rfl rfl hl.1 rfl rfl (Nat.le_of_ble_eq_true rfl) ⟨Nat.le_of_ble_eq_true rfl, Nat.le_of_ble_eq_true rfl⟩ dX10_below_9 (fun r_3 hf => ?_)
  exact vx_ret (W.widen (k := 1) (n := 6) (Nat.le_of_ble_eq_true rfl) (Nat.le_of_ble_eq_true rfl) (z_retMi (Wf := (fun z => cl_X10 cI cJ cS a z)) (u := u) X hf hP hD hS dX10_below_12))
def s_X10_below (u : zCls) (x1 : Int32) (Q : Int32 → zCls → Prop) (QX : String → zCls → Prop) : Prop := cAsk u (fun v => fBelow v x1) (exO 2 2 2) Q QX
theorem st_X10_below {u : zCls} {x1 : Int32} {Q : Int32 → zCls → Prop} {QX : String → zCls → Prop} (h : s_X10_below u x1 Q QX) : t_X10_below u x1 Q QX := by
  obtain ⟨B, G, hG, hB, hc, hQ⟩ := h
  obtain ⟨v, ev⟩ : ∃ v, v = gNow G := ⟨_, rfl⟩
  rw [← ev] at hQ
  have hv : okB B v := by rw [ev]; exact hG.1
  have ho := hv.ok
  have c1 : u.1 = v := by rw [ev]; exact hc.1
  dsimp only at hQ
  unfold fBelow at hQ
  refine lookKey_of (fun i1 => ?_) (fun i1 => ?_)
  · rw [if_pos i1] at hQ
    obtain ⟨k, hk, rfl, ek⟩ := key_n i1
    rw [ek] at hQ
    show s_X5_valuesBelow u.1 (nI k) _
    rw [c1]
    exact ⟨ho, k, by omega, rfl, (hQ u hc).1 rfl⟩
  · rw [if_neg i1] at hQ
    exact (hQ u hc).2 (show ¬ (1 : Int32) = 0 by decide)
theorem c_X10_below (l : Launch) (hlt : l.stackTraces = false) (dC : Nat → ClassId) (dI : Nat → Nat → Nat) (cI cJ cS : ClassId) (a : Nat → Nat) (u : zCls) (x1 : Int32) (Q : Int32 → zCls → Prop) (QX : String → zCls → Prop) (hf : s_X10_below u x1 Q QX) : ∀ sz : Nat, vx_Met l yX10_below (Cond.code yX10_below cX10_below 2 (some .int) :: zT) rm_X10_below (zPmF zFy dC dI cI cJ cS (cl_X10 cI cJ cS a u) [.ref (a 0), .int x1] sz) (va_Qi Q (zB dC dI cI cJ cS (va_A (cl_X10 cI cJ cS a u) sz) (fun z => cl_X10 cI cJ cS a z)) (va_A (cl_X10 cI cJ cS a u) sz)) (zXc QX dC dI cI cJ cS (va_A (cl_X10 cI cJ cS a u) sz) (fun z => cl_X10 cI cJ cS a z)) 1 6 (va_A (cl_X10 cI cJ cS a u) sz) := L_X10_below l hlt dC dI cI cJ cS a u x1 Q QX (st_X10_below hf)

def t_X10_rank (u : zCls) (x1 : Int32) (x2 : Int32) (Q : Int32 → zCls → Prop) (QX : String → zCls → Prop) : Prop := s_X10_lookAtKey x1 (fun (u_2 : Unit) => s_X5_hasValue u.1 x1 (fun r_3 : Int32 => ((¬ r_3 = 0 → ((x2 = 0 → s_X5_rankOf u.1 x1 (fun r_6 : Int32 => Q r_6 u)) ∧ (¬ x2 = 0 → s_X5_twinOf u.1 x1 (fun r_7 : Int32 => Q r_7 u)))) ∧ (r_3 = 0 → Q (-1 : Int32) u)))) (fun (E : String) (u_2 : Unit) => QX E u)
theorem zc_X10_rank : zCalV RX10 yX10_rank cX10_rank 3 (some .int) 2 := ⟨q_im_X10_rank, q_se_X10_rank, q_in_X10, q_cd_X10_rank, ⟨by decide, by decide, by decide +kernel⟩, rfl⟩
abbrev rm_X10_rank : Room := { frames := 7, cells := 1, slots := 6, locals := 110 }
set_option maxHeartbeats 4000000 in
set_option maxRecDepth 100000 in
theorem L_X10_rank (l : Launch) (hlt : l.stackTraces = false) (dC : Nat → ClassId) (dI : Nat → Nat → Nat) (cI cJ cS : ClassId) (a : Nat → Nat) (u : zCls) (x1 : Int32) (x2 : Int32) (Q : Int32 → zCls → Prop) (QX : String → zCls → Prop) (hf : t_X10_rank u x1 x2 Q QX) : ∀ sz : Nat, vx_Met l yX10_rank (Cond.code yX10_rank cX10_rank 3 (some .int) :: zT) rm_X10_rank (zPmF zFy dC dI cI cJ cS (cl_X10 cI cJ cS a u) [.ref (a 0), .int x1, .int x2] sz) (va_Qi Q (zB dC dI cI cJ cS (va_A (cl_X10 cI cJ cS a u) sz) (fun z => cl_X10 cI cJ cS a z)) (va_A (cl_X10 cI cJ cS a u) sz)) (zXc QX dC dI cI cJ cS (va_A (cl_X10 cI cJ cS a u) sz) (fun z => cl_X10 cI cJ cS a z)) 1 6 (va_A (cl_X10 cI cJ cS a u) sz) := by
  intro sz
  refine z_enterX (Qc := fun A => va_Qi Q (zB dC dI cI cJ cS A (fun z => cl_X10 cI cJ cS a z)) A) (XC := fun A => zXc QX dC dI cI cJ cS A (fun z => cl_X10 cI cJ cS a z)) (cc := cX10_rank) (maxL := 3) (ret := (some .int)) (by decide) (Nat.le_of_ble_eq_true rfl) ?_
  intro p e s m below meth c ls A X htb hP hD hS hA hF hl
  obtain ⟨⟨hx, hb, hml, hown, hts⟩, hr, hlk, hK⟩ := id X
  have hl : lv_has ls 3 [(0, .ref (a 0)), (1, .int x1), (2, .int x2)] := hl
  unfold t_X10_rank at hf
  refine lv_iload_n hx hb dX10_rank_0 rfl (lv_at hl 1 rfl) ?_
  refine z_xSvO (Wn := (fun u_2 => cl_X10 cI cJ cS a u)) (As := [.int x1]) (rest := []) (wr := cl_X10 cI cJ cS a u) X fro_Fy hF (c_X10_lookAtKey l hlt dC dI cI cJ cS   x1 _ _ hf _) zc_X10_lookAtKey q_ml_X10_105 ⟨rfl, rfl⟩ ⟨Nat.le_of_ble_eq_true rfl, Nat.le_of_ble_eq_true rfl⟩ hP hD hS hA (pm_0 _) (fun _ => pm_0 _) (Wo := (fun z => cl_X10 cI cJ cS a z)) (fun u_2 => u) (fun _ => rfl) htb (fun _ _ h => h) ⟨Nat.le_of_ble_eq_true rfl, Nat.le_of_ble_eq_true rfl⟩ hl.1 rfl rfl (Nat.le_of_ble_eq_true rfl) ⟨Nat.le_of_ble_eq_true rfl, Nat.le_of_ble_eq_true rfl⟩ dX10_rank_1 (fun u_2 H locs hf hP hD hS => ?_)
  refine lv_aload_n hx hb dX10_rank_4 rfl (lv_at hl 0 rfl) ?_
  refine va_get (D := (dC, dI)) (ci := 9) (v := .ref (a 1)) (C := RX10) (T := TX10) (N := 9) hx hb hts inX10 hown hK hP 0 rfl rfl 0 (by decide) (hts _ q_fl_X10_10) (fun _ h9 => h9) rfl dX10_rank_5 ?_
  refine lv_iload_n hx hb dX10_rank_8 rfl (lv_at hl 1 rfl) ?_
  refine z_cVi (As := [.int x1]) (rest := []) X (c_X5_hasValue l dC dI cI cJ cS (fun i => a (1 + i)) u.1 x1 _ hf) zc_X5_hasValue q_ml_X10_166 ⟨rfl, rfl⟩ ⟨Nat.le_of_ble_eq_true rfl, Nat.le_of_ble_eq_true rfl⟩ hP [1, 2, 3, 4, 5, 6, 7, 8, 9, 10, 11, 12, 13, 14, 15] rfl 4 rfl rfl hl.1 rfl rfl (Nat.le_of_ble_eq_true rfl) ⟨Nat.le_of_ble_eq_true rfl, Nat.le_of_ble_eq_true rfl⟩ dX10_rank_9 (fun r_3 hf => ?_)
  obtain ⟨hbr_3, hf⟩ := hf
  refine lv_if_ne (tgt := 17) hx hb dX10_rank_12 (by decide) (fun c_4 => ?_) (fun c_4 => ?_)
  · have hf := hf.1 c_4
    refine lv_iload_n hx hb dX10_rank_17 rfl (lv_at hl 2 rfl) ?_
    refine lv_if_eq (tgt := 32) hx hb dX10_rank_18 (by decide) (fun c_5 => ?_) (fun c_5 => ?_)
    · have hf := hf.1 c_5
      refine lv_aload_n hx hb dX10_rank_32 rfl (lv_at hl 0 rfl) ?_
      refine va_get (D := (dC, dI)) (ci := 9) (v := .ref (a 1)) (C := RX10) (T := TX10) (N := 9) hx hb hts inX10 hown hK hP 0 rfl rfl 0 (by decide) (hts _ q_fl_X10_10) (fun _ h9 => h9) rfl dX10_rank_33 ?_
      refine lv_iload_n hx hb dX10_rank_36 rfl (lv_at hl 1 rfl) ?_
      refine z_cVi (As := [.int x1]) (rest := []) X (c_X5_rankOf l dC dI cI cJ cS (fun i => a (1 + i)) u.1 x1 _ hf) zc_X5_rankOf q_ml_X10_259 ⟨rfl, rfl⟩ ⟨Nat.le_of_ble_eq_true rfl, Nat.le_of_ble_eq_true rfl⟩ hP [1, 2, 3, 4, 5, 6, 7, 8, 9, 10, 11, 12, 13, 14, 15] rfl 4 rfl rfl hl.1 rfl rfl (Nat.le_of_ble_eq_true rfl) ⟨Nat.le_of_ble_eq_true rfl, Nat.le_of_ble_eq_true rfl⟩ dX10_rank_37 (fun r_6 hf => ?_)
      exact vx_ret (W.widen (k := 1) (n := 6) (Nat.le_of_ble_eq_true rfl) (Nat.le_of_ble_eq_true rfl) (z_retMi (Wf := (fun z => cl_X10 cI cJ cS a z)) (u := u) X hf hP hD hS dX10_rank_40))
    · have hf := hf.2 c_5
      refine lv_aload_n hx hb dX10_rank_21 rfl (lv_at hl 0 rfl) ?_
      refine va_get (D := (dC, dI)) (ci := 9) (v := .ref (a 1)) (C := RX10) (T := TX10) (N := 9) hx hb hts inX10 hown hK hP 0 rfl rfl 0 (by decide) (hts _ q_fl_X10_10) (fun _ h9 => h9) rfl dX10_rank_22 ?_
      refine lv_iload_n hx hb dX10_rank_25 rfl (lv_at hl 1 rfl) ?_
      refine z_cVi (As := [.int x1]) (rest := []) X (c_X5_twinOf l dC dI cI cJ cS (fun i => a (1 + i)) u.1 x1 _ hf) zc_X5_twinOf q_ml_X10_256 ⟨rfl, rfl⟩ ⟨Nat.le_of_ble_eq_true rfl, Nat.le_of_ble_eq_true rfl⟩ hP [1, 2, 3, 4, 5, 6, 7, 8, 9, 10, 11, 12, 13, 14, 15] rfl 4 rfl rfl hl.1 rfl rfl (Nat.le_of_ble_eq_true rfl) ⟨Nat.le_of_ble_eq_true rfl, Nat.le_of_ble_eq_true rfl⟩ dX10_rank_26 (fun r_7 hf => ?_)
      refine lv_goto (tgt := 40) hx hb dX10_rank_29 (by decide) ?_
      exact vx_ret (W.widen (k := 1) (n := 6) (Nat.le_of_ble_eq_true rfl) (Nat.le_of_ble_eq_true rfl) (z_retMi (Wf := (fun z => cl_X10 cI cJ cS a z)) (u := u) X hf hP hD hS dX10_rank_40))
  · have hf := hf.2 c_4
    refine lv_iconst (v := (-1)) hx hb dX10_rank_15 (by decide) ?_
    exact vx_ret (W.widen (k := 1) (n := 6) (Nat.le_of_ble_eq_true rfl) (Nat.le_of_ble_eq_true rfl) (z_retMi (Wf := (fun z => cl_X10 cI cJ cS a z)) (u := u) X hf hP hD hS dX10_rank_16))
def s_X10_rank (u : zCls) (x1 : Int32) (x2 : Int32) (Q : Int32 → zCls → Prop) (QX : String → zCls → Prop) : Prop := cAsk u (fun v => fRank v x1 x2) (exO 2 2 2) Q QX
theorem st_X10_rank {u : zCls} {x1 x2 : Int32} {Q : Int32 → zCls → Prop} {QX : String → zCls → Prop} (h : s_X10_rank u x1 x2 Q QX) : t_X10_rank u x1 x2 Q QX := by
  obtain ⟨B, G, hG, hB, hc, hQ⟩ := h
  obtain ⟨v, ev⟩ : ∃ v, v = gNow G := ⟨_, rfl⟩
  rw [← ev] at hQ
  have hv : okB B v := by rw [ev]; exact hG.1
  have ho := hv.ok
  have c1 : u.1 = v := by rw [ev]; exact hc.1
  dsimp only at hQ
  unfold fRank at hQ
  refine lookKey_of (fun i1 => ?_) (fun i1 => ?_)
  · rw [if_pos i1] at hQ
    obtain ⟨k, hk, rfl, ek⟩ := key_n i1
    rw [ek] at hQ
    have hQ := (hQ u hc).1 rfl
    dsimp only at hQ
    rw [c1]
    refine ⟨ho, k, hk, rfl, fun hval => ⟨fun _ => ⟨fun d => ⟨ho, k, hk, rfl, ?_⟩, fun d => ⟨ho, k, hk, rfl, ?_⟩⟩, fun q => absurd q (by decide)⟩, fun hval => ⟨fun q => absurd rfl q, fun _ => ?_⟩⟩
    · rw [if_pos hval, if_pos d] at hQ; exact hQ
    · rw [if_pos hval, if_neg d] at hQ; exact hQ
    · rw [if_neg (by rw [hval]; decide)] at hQ; exact hQ
  · rw [if_neg i1] at hQ
    exact (hQ u hc).2 (show ¬ (1 : Int32) = 0 by decide)
theorem c_X10_rank (l : Launch) (hlt : l.stackTraces = false) (dC : Nat → ClassId) (dI : Nat → Nat → Nat) (cI cJ cS : ClassId) (a : Nat → Nat) (u : zCls) (x1 : Int32) (x2 : Int32) (Q : Int32 → zCls → Prop) (QX : String → zCls → Prop) (hf : s_X10_rank u x1 x2 Q QX) : ∀ sz : Nat, vx_Met l yX10_rank (Cond.code yX10_rank cX10_rank 3 (some .int) :: zT) rm_X10_rank (zPmF zFy dC dI cI cJ cS (cl_X10 cI cJ cS a u) [.ref (a 0), .int x1, .int x2] sz) (va_Qi Q (zB dC dI cI cJ cS (va_A (cl_X10 cI cJ cS a u) sz) (fun z => cl_X10 cI cJ cS a z)) (va_A (cl_X10 cI cJ cS a u) sz)) (zXc QX dC dI cI cJ cS (va_A (cl_X10 cI cJ cS a u) sz) (fun z => cl_X10 cI cJ cS a z)) 1 6 (va_A (cl_X10 cI cJ cS a u) sz) := L_X10_rank l hlt dC dI cI cJ cS a u x1 x2 Q QX (st_X10_rank hf)
