/-! what holds at the law's entry, out of the Statement's words and premises -/
abbrev fwC : List Cond := flatC (Jvm.Cond.and given_1 narrow_1)
abbrev tmF (own : String) (k : Nat) : Term := .field (.string own k) "java/lang/String" "value" "[B"
theorem ge9 {i : Nat} (h : ¬ i < 9) : ∃ n, i = n + 9 := ⟨i - 9, by omega⟩
theorem ge12' {i : Nat} (h : ¬ i < 12) : ∃ n, i = n + 12 := ⟨i - 12, by omega⟩
section ZF0
variable {s : State} {b : Nat} {A : Nat → Prop}
theorem fw_str {args : Array Value} {own : String} {k : Nat} {bs : List Int32} (hn : bs.length < 2 ^ 31) (hex : (Cond.exactly (.string own k) "java/lang/String").before args s = true) (hco : (Cond.eq (.field (.string own k) "java/lang/String" "coder" "B") (.int 0)).before args s = true) (har : (Cond.arrayOf (tmF own k) .byte).before args s = true) (hle : (Cond.eq (.length (tmF own k)) (.int (Int32.ofNat bs.length))).before args s = true)
    (hel : ∀ j : Nat, j < bs.length → (Cond.eq (.elem (tmF own k) (.int (Int32.ofNat j))) (.int (bs.getD j 0))).before args s = true) (hA : ∀ a : Nat, a < s.heap.size → ¬ A a) : ∃ q : Nat, (Term.string own k).eval args s none [] s = some (.ref q) ∧ zStr bs q A s s.heap := by
  obtain ⟨a, c, cA, kA, q1, q2, q3, q4, q5, q6, -⟩ := Cond.exactly_spec (args := args) (first := s) (o := none) (s := s) (idx := []) (t := .string own k) (cls := "java/lang/String") hex
  obtain ⟨t, ht, hT⟩ := va_Tof (f := fun j => .int (bs.getD j 0)) (A := A) hn har (va_eqt hle) (fun j hj => va_eqt (hel j hj)) hA
  exact ⟨a, q1, ⟨cA, q3, q5, by rw [q6]; exact q2, hA a (Array.getElem?_eq_some_iff.mp q3).1⟩, vk_OFof q1 (va_eqt hco) hA, t, vk_OFof q1 ht hA, hT⟩
theorem fw_row {args : Array Value} {C n : String} {N : Nat} {f : Nat → Int32} (hN : N < 2 ^ 31) (hl : (Cond.laysStatic C n "[I").before args s = true) (hini : (Cond.initialized C).before args s = true) (har : (Cond.arrayOf (.static C n "[I") .int).before args s = true) (hle : (Cond.eq (.length (.static C n "[I")) (.int (Int32.ofNat N))).before args s = true)
    (hel : ∀ j : Nat, j < N → (Cond.eq (.elem (.static C n "[I") (.int (Int32.ofNat j))) (.int (f j))).before args s = true) (hA : ∀ a : Nat, a < s.heap.size → ¬ A a) : zRow C n N f A s s.heap := by
  obtain ⟨t, ht, hT⟩ := va_Tof (f := fun j => .int (f j)) (A := A) hN har (va_eqt hle) (fun j hj => va_eqt (hel j hj)) hA
  exact ⟨t, va_Zof hl hini ht hA, hT⟩
end ZF0

abbrev fp_M : List Nat := [519, 529, 537, 546, 555, 565, 575, 584, 593, 602]
theorem fm_Mx : ∀ i, i < 10 → fwC[fp_M.getD i 0]? = some (Cond.exactly (.string RX11 (wiM i)) "java/lang/String") := by decide +kernel
theorem fm_Mc : ∀ i, i < 10 → fwC[fp_M.getD i 0 + 1]? = some (Cond.eq (.field (.string RX11 (wiM i)) "java/lang/String" "coder" "B") (.int 0)) := by decide +kernel
theorem fm_Ma : ∀ i, i < 10 → fwC[fp_M.getD i 0 + 2]? = some (Cond.arrayOf (tmF RX11 (wiM i)) .byte) := by decide +kernel
theorem fm_Ml : ∀ i, i < 10 → fwC[fp_M.getD i 0 + 3]? = some (Cond.eq (.length (tmF RX11 (wiM i))) (.int (Int32.ofNat (wdL i).length))) := by decide +kernel
theorem fm_Me : ∀ i, i < 10 → ∀ j, j < (wdL i).length → fwC[fp_M.getD i 0 + (4 + j)]? = some (Cond.eq (.elem (tmF RX11 (wiM i)) (.int (Int32.ofNat j))) (.int ((wdL i).getD j 0))) := by decide +kernel
theorem fm_Mr : ∀ i, i < 10 → lw_tbl[([1448, 1463, 1544, 1561, 1562, 1563, 1572, 1597, 1614, 1619] : List Nat).getD i 0]? = some (Cond.stringRef RX11 (wiM i) (wdS i)) := by decide +kernel
theorem fw_M {s : State} {args : Array Value} {A : Nat → Prop} (hts : ∀ w ∈ lw_tbl, w.before args s = true) (hs : ∀ c ∈ fwC, c.before args s = true) (hA : ∀ a : Nat, a < s.heap.size → ¬ A a) : zWd RX11 wiM A s s.heap := by
  have hw : ∀ i, i < 10 → (wdL i).length < 2 ^ 31 := by decide
  have key : ∀ i, i < 10 → ∃ q : Nat, vk_R RX11 (wiM i) (wdS i) q s ∧ zStr (wdL i) q A s s.heap := fun i hi => by
    obtain ⟨q, h1, h2⟩ := fw_str (A := A) (bs := wdL i) (own := RX11) (k := wiM i) (hw i hi) (hs _ (List.mem_of_getElem? (fm_Mx i hi))) (hs _ (List.mem_of_getElem? (fm_Mc i hi))) (hs _ (List.mem_of_getElem? (fm_Ma i hi))) (hs _ (List.mem_of_getElem? (fm_Ml i hi))) (fun j hj => hs _ (List.mem_of_getElem? (fm_Me i hi j hj))) hA
    exact ⟨q, vk_R.of (hts _ (List.mem_of_getElem? (fm_Mr i hi))) h1, h2⟩
  intro i
  by_cases hi : i < 9
  · exact key i (by omega)
  · obtain ⟨n, rfl⟩ := ge9 hi
    exact key 9 (by decide)

abbrev fp_T : List Nat := [166, 175, 182, 190, 198, 207, 216, 224, 232, 240]
theorem fm_Tx : ∀ i, i < 10 → fwC[fp_T.getD i 0]? = some (Cond.exactly (.string RX6 (wiT i)) "java/lang/String") := by decide +kernel
theorem fm_Tc : ∀ i, i < 10 → fwC[fp_T.getD i 0 + 1]? = some (Cond.eq (.field (.string RX6 (wiT i)) "java/lang/String" "coder" "B") (.int 0)) := by decide +kernel
theorem fm_Ta : ∀ i, i < 10 → fwC[fp_T.getD i 0 + 2]? = some (Cond.arrayOf (tmF RX6 (wiT i)) .byte) := by decide +kernel
theorem fm_Tl : ∀ i, i < 10 → fwC[fp_T.getD i 0 + 3]? = some (Cond.eq (.length (tmF RX6 (wiT i))) (.int (Int32.ofNat (wdL i).length))) := by decide +kernel
theorem fm_Te : ∀ i, i < 10 → ∀ j, j < (wdL i).length → fwC[fp_T.getD i 0 + (4 + j)]? = some (Cond.eq (.elem (tmF RX6 (wiT i)) (.int (Int32.ofNat j))) (.int ((wdL i).getD j 0))) := by decide +kernel
theorem fm_Tr : ∀ i, i < 10 → lw_tbl[([850, 851, 852, 853, 854, 855, 856, 857, 858, 859] : List Nat).getD i 0]? = some (Cond.stringRef RX6 (wiT i) (wdS i)) := by decide +kernel
theorem fw_T {s : State} {args : Array Value} {A : Nat → Prop} (hts : ∀ w ∈ lw_tbl, w.before args s = true) (hs : ∀ c ∈ fwC, c.before args s = true) (hA : ∀ a : Nat, a < s.heap.size → ¬ A a) : zWd RX6 wiT A s s.heap := by
  have hw : ∀ i, i < 10 → (wdL i).length < 2 ^ 31 := by decide
  have key : ∀ i, i < 10 → ∃ q : Nat, vk_R RX6 (wiT i) (wdS i) q s ∧ zStr (wdL i) q A s s.heap := fun i hi => by
    obtain ⟨q, h1, h2⟩ := fw_str (A := A) (bs := wdL i) (own := RX6) (k := wiT i) (hw i hi) (hs _ (List.mem_of_getElem? (fm_Tx i hi))) (hs _ (List.mem_of_getElem? (fm_Tc i hi))) (hs _ (List.mem_of_getElem? (fm_Ta i hi))) (hs _ (List.mem_of_getElem? (fm_Tl i hi))) (fun j hj => hs _ (List.mem_of_getElem? (fm_Te i hi j hj))) hA
    exact ⟨q, vk_R.of (hts _ (List.mem_of_getElem? (fm_Tr i hi))) h1, h2⟩
  intro i
  by_cases hi : i < 9
  · exact key i (by omega)
  · obtain ⟨n, rfl⟩ := ge9 hi
    exact key 9 (by decide)

theorem fm_WANTED : ∀ j, j < 10 → fwC[12 + j]? = some (Cond.eq (.elem (.static RX10 "WANTED" "[I") (.int (Int32.ofNat j))) (.int (rWan j))) := by decide +kernel
theorem fm_LEAST : ∀ j, j < 40 → fwC[25 + j]? = some (Cond.eq (.elem (.static RX10 "LEAST" "[I") (.int (Int32.ofNat j))) (.int (rLo j))) := by decide +kernel
theorem fm_GREATEST : ∀ j, j < 40 → fwC[68 + j]? = some (Cond.eq (.elem (.static RX10 "GREATEST" "[I") (.int (Int32.ofNat j))) (.int (rHi j))) := by decide +kernel
theorem fw_Fz {s : State} {args : Array Value} {A : Nat → Prop} (hts : ∀ w ∈ lw_tbl, w.before args s = true) (hs : ∀ c ∈ fwC, c.before args s = true) (hA : ∀ a : Nat, a < s.heap.size → ¬ A a) : zFz A s s.heap :=
  ⟨⟨va_Zof (hts (.laysStatic "java/lang/String" "COMPACT_STRINGS" "Z") (List.mem_of_getElem? (i := 873) (by decide +kernel))) (hts (.initialized "java/lang/String") (List.mem_of_getElem? (i := 114) (by decide +kernel))) (va_eqi (hs (.eq (.static "java/lang/String" "COMPACT_STRINGS" "Z") (.int 1)) (List.mem_of_getElem? (i := 4) (by decide +kernel)))) hA,
    va_Zqof (hts (.laysStatic "jdk/internal/util/Preconditions" "SIOOBE_FORMATTER" "Ljava/util/function/BiFunction;") (List.mem_of_getElem? (i := 889) (by decide +kernel))) (hts (.initialized "jdk/internal/util/Preconditions") (List.mem_of_getElem? (i := 116) (by decide +kernel))) (hs (.isRef (.static "jdk/internal/util/Preconditions" "SIOOBE_FORMATTER" "Ljava/util/function/BiFunction;")) (List.mem_of_getElem? (i := 5) (by decide +kernel))) hA⟩,
   fw_M hts hs hA, fw_T hts hs hA,
   fw_row (by decide) (hts (.laysStatic RX10 "WANTED" "[I") (List.mem_of_getElem? (i := 917) (by decide +kernel))) (hts (.initialized RX10) (List.mem_of_getElem? (i := 102) (by decide +kernel))) (hs (.arrayOf (.static RX10 "WANTED" "[I") .int) (List.mem_of_getElem? (i := 10) (by decide +kernel))) (hs (.eq (.length (.static RX10 "WANTED" "[I")) (.int (Int32.ofNat 10))) (List.mem_of_getElem? (i := 11) (by decide +kernel))) (fun j hj => hs _ (List.mem_of_getElem? (fm_WANTED j hj))) hA,
   fw_row (by decide) (hts (.laysStatic RX10 "LEAST" "[I") (List.mem_of_getElem? (i := 930) (by decide +kernel))) (hts (.initialized RX10) (List.mem_of_getElem? (i := 102) (by decide +kernel))) (hs (.arrayOf (.static RX10 "LEAST" "[I") .int) (List.mem_of_getElem? (i := 23) (by decide +kernel))) (hs (.eq (.length (.static RX10 "LEAST" "[I")) (.int (Int32.ofNat 40))) (List.mem_of_getElem? (i := 24) (by decide +kernel))) (fun j hj => hs _ (List.mem_of_getElem? (fm_LEAST j hj))) hA,
   fw_row (by decide) (hts (.laysStatic RX10 "GREATEST" "[I") (List.mem_of_getElem? (i := 932) (by decide +kernel))) (hts (.initialized RX10) (List.mem_of_getElem? (i := 102) (by decide +kernel))) (hs (.arrayOf (.static RX10 "GREATEST" "[I") .int) (List.mem_of_getElem? (i := 66) (by decide +kernel))) (hs (.eq (.length (.static RX10 "GREATEST" "[I")) (.int (Int32.ofNat 40))) (List.mem_of_getElem? (i := 67) (by decide +kernel))) (fun j hj => hs _ (List.mem_of_getElem? (fm_GREATEST j hj))) hA⟩
theorem fm_Xx : ∀ i, i < 13 → fwC[([249, 270, 303, 370, 397, 329, 452, 473, 491, 288, 351, 437, 421] : List Nat).getD i 0]? = some (Cond.exactly (.string RX10 (exI i)) "java/lang/String") := by decide +kernel
theorem fm_Xr : ∀ i, i < 13 → lw_tbl[([991, 1026, 1055, 1101, 1120, 1069, 1269, 1297, 1322, 1048, 1093, 1240, 1141] : List Nat).getD i 0]? = some (Cond.stringRef RX10 (exI i) (exS i)) := by decide +kernel
theorem fm_Xc : ∀ i, i < 4 → lw_tbl[([951, 1062, 1041, 1134] : List Nat).getD i 0]? = some (Cond.castable (exC i) (exC i)) := by decide +kernel
theorem fw_Th {s : State} {args : Array Value} {A : Nat → Prop} (hts : ∀ w ∈ lw_tbl, w.before args s = true) (hs : ∀ c ∈ fwC, c.before args s = true) (hA : ∀ a : Nat, a < s.heap.size → ¬ A a) : zTh A s s.heap := by
  refine ⟨vx_Zqof (hts (.laysStatic Bundle.tN "UNASSIGNED_STACK" Bundle.steD) (List.mem_of_getElem? (i := 976) (by decide +kernel))) (hts (.initialized Bundle.tN) (List.mem_of_getElem? (i := 120) (by decide +kernel))) (hs (.isRef (.static Bundle.tN "UNASSIGNED_STACK" Bundle.steD)) (List.mem_of_getElem? (i := 108) (by decide +kernel))) hA, vx_Zqof (hts (.laysStatic Bundle.tN "SUPPRESSED_SENTINEL" Bundle.listD) (List.mem_of_getElem? (i := 978) (by decide +kernel))) (hts (.initialized Bundle.tN) (List.mem_of_getElem? (i := 120) (by decide +kernel))) (hs (.isRef (.static Bundle.tN "SUPPRESSED_SENTINEL" Bundle.listD)) (List.mem_of_getElem? (i := 109) (by decide +kernel))) hA, ?_, ?_, ?_, ?_, ?_⟩
  · have key : ∀ i, i < 13 → ∃ q : Nat, vk_R RX10 (exI i) (exS i) q s := fun i hi => by
      obtain ⟨a, c, cA, kA, q1, -⟩ := Cond.exactly_spec (args := args) (first := s) (o := none) (s := s) (idx := []) (t := .string RX10 (exI i)) (cls := "java/lang/String") (hs _ (List.mem_of_getElem? (fm_Xx i hi)))
      exact ⟨a, vk_R.of (hts _ (List.mem_of_getElem? (fm_Xr i hi))) q1⟩
    intro i
    by_cases hi : i < 12
    · exact key i (by omega)
    · obtain ⟨n, rfl⟩ := ge12' hi
      exact key 12 (by decide)
  · intro j
    have key : ∀ i, i < 4 → va_Nw (.castable (exC i) (exC i)) s := fun i hi => va_any rfl (hts _ (List.mem_of_getElem? (fm_Xc i hi)))
    by_cases hj : j < 3
    · exact key j (by omega)
    · obtain ⟨n, rfl⟩ : ∃ n, j = n + 3 := ⟨j - 3, by omega⟩
      exact key 3 (by decide)
  · exact va_any rfl (hts (.declares (Bundle.initS "java/lang/RuntimeException")) (List.mem_of_getElem? (i := 953) (by decide +kernel)))
  · exact va_any rfl (hts (.declares (Bundle.initS "java/lang/Exception")) (List.mem_of_getElem? (i := 955) (by decide +kernel)))
  · exact va_any rfl (hts (.declares (Bundle.initS Bundle.tN)) (List.mem_of_getElem? (i := 957) (by decide +kernel)))
theorem fm_Nc02 : fwC[135]? = some (Cond.not (.castable (exC 0) (exC 2))) := by decide +kernel
theorem fm_Nc12 : fwC[136]? = some (Cond.not (.castable (exC 1) (exC 2))) := by decide +kernel
theorem fm_Nc10 : fwC[122]? = some (Cond.not (.castable (exC 1) (exC 0))) := by decide +kernel
theorem fm_Nc32 : fwC[137]? = some (Cond.not (.castable (exC 3) (exC 2))) := by decide +kernel
theorem fm_Nc30 : fwC[123]? = some (Cond.not (.castable (exC 3) (exC 0))) := by decide +kernel
theorem fw_Fw {s : State} {args : Array Value} {A : Nat → Prop} (hts : ∀ w ∈ lw_tbl, w.before args s = true) (hs : ∀ c ∈ fwC, c.before args s = true) (hA : ∀ a : Nat, a < s.heap.size → ¬ A a) : zFw A s s.heap :=
  ⟨⟨fw_Fz hts hs hA, va_any rfl (hts (.fieldLinkNest RX6 96 "AsideStore" "WANTED" "[I" "AsideStore") (List.mem_of_getElem? (i := 916) (by decide +kernel))), va_any rfl (hts _ q_mn_X6_105), fw_Th hts hs hA⟩,
   va_Nc.of (hs _ (List.mem_of_getElem? fm_Nc02)), va_Nc.of (hs _ (List.mem_of_getElem? fm_Nc12)), va_Nc.of (hs _ (List.mem_of_getElem? fm_Nc10)), va_Nc.of (hs _ (List.mem_of_getElem? fm_Nc32)), va_Nc.of (hs _ (List.mem_of_getElem? fm_Nc30))⟩
theorem fw_Fc {s : State} {args : Array Value} {A : Nat → Prop} (hts : ∀ w ∈ lw_tbl, w.before args s = true) : zFc A s s.heap :=
  ⟨va_any rfl (hts _ q_mn_X5_11), va_any rfl (hts _ q_mn_X5_20), va_any rfl (hts _ q_mn_X5_27), va_any rfl (hts _ q_mn_X5_34), va_any rfl (hts _ q_mn_X5_41), va_any rfl (hts _ q_mn_X5_48), va_any rfl (hts _ q_mn_X10_31), va_AO.of (hts (.arrayOver (.object "AsideStore$State")) (List.mem_of_getElem? (i := 364) (by decide +kernel)))⟩
theorem fw_T0 {s : State} {args : Array Value} (hts : ∀ w ∈ lw_tbl, w.before args s = true) : ∀ w ∈ zT, w.before args s = true := fun w hw => hts w (List.mem_filter.mp hw).1

theorem fw_K {s : State} {args : Array Value} (hts : ∀ w ∈ lw_tbl, w.before args s = true) : ∃ (dC : Nat → ClassId) (dI : Nat → Nat → Nat) (cI cJ cS : ClassId), va_K (dC, dI) vwCl (zTy cI cJ cS) s := by
  have htz := fw_T0 hts
  obtain ⟨c0, i0, h0⟩ := u_known (C := RX1) (T := TX1) (N := 4) (n := 4) htz inX1 (htz _ q_ib_X1)
  obtain ⟨c1, i1, h1⟩ := u_known (C := RX2) (T := TX2) (N := 2) (n := 2) htz inX2 (htz _ q_ib_X2)
  obtain ⟨c2, i2, h2⟩ := u_known (C := RX3) (T := TX3) (N := 3) (n := 3) htz inX3 (htz _ q_ib_X3)
  obtain ⟨c3, i3, h3⟩ := u_known (C := RX4) (T := TX4) (N := 5) (n := 5) htz inX4 (htz _ q_ib_X4)
  obtain ⟨c4, i4, h4⟩ := u_known (C := RX5) (T := TX5) (N := 9) (n := 9) htz inX5 (htz _ q_ib_X5)
  obtain ⟨c5, i5, h5⟩ := u_known (C := RX6) (T := TX6) (N := 7) (n := 7) htz inX6 (htz _ q_ib_X6)
  obtain ⟨c6, i6, h6⟩ := u_known (C := RX7) (T := TX7) (N := 4) (n := 4) htz inX7 (htz _ q_ib_X7)
  obtain ⟨c7, i7, h7⟩ := u_known (C := RX8) (T := TX8) (N := 5) (n := 5) htz inX8 (htz _ q_ib_X8)
  obtain ⟨c8, i8, h8⟩ := u_known (C := RX9) (T := TX9) (N := 3) (n := 3) htz inX9 (htz _ q_ib_X9)
  obtain ⟨c9, i9, h9⟩ := u_known (C := RX10) (T := TX10) (N := 9) (n := 9) htz inX10 (htz _ q_ib_X10)
  obtain ⟨c10, i10, h10⟩ := u_known (C := RX11) (T := TX11) (N := 17) (n := 17) htz inX11 (htz _ q_ib_X11)
  obtain ⟨cI, kI, pI, fI, gI, eI⟩ := Cond.arrayClass_spec (htz _ q_ac_int)
  obtain ⟨cJ, kJ, pJ, fJ, gJ, eJ⟩ := Cond.arrayClass_spec (htz _ q_ac_long)
  obtain ⟨comp, cS, kS, f1, f2, f3, f4, f5⟩ := Cond.arrayOver_spec (hts (.arrayOver (.object "AsideStore$State")) (List.mem_of_getElem? (i := 364) (by decide +kernel)))
  refine ⟨fun k => match k with | 0 => c0 | 1 => c1 | 2 => c2 | 3 => c3 | 4 => c4 | 5 => c5 | 6 => c6 | 7 => c7 | 8 => c8 | 9 => c9 | _ => c10, fun k => match k with | 0 => i0 | 1 => i1 | 2 => i2 | 3 => i3 | 4 => i4 | 5 => i5 | 6 => i6 | 7 => i7 | 8 => i8 | 9 => i9 | _ => i10, cI, cJ, cS, ?_, ?_⟩
  · intro k q hq
    match k, hq with
    | 0, hq => cases hq; exact h0
    | 1, hq => cases hq; exact h1
    | 2, hq => cases hq; exact h2
    | 3, hq => cases hq; exact h3
    | 4, hq => cases hq; exact h4
    | 5, hq => cases hq; exact h5
    | 6, hq => cases hq; exact h6
    | 7, hq => cases hq; exact h7
    | 8, hq => cases hq; exact h8
    | 9, hq => cases hq; exact h9
    | 10, hq => cases hq; exact h10
    | k + 11, hq => exact absurd hq (by simp [vwCl])
  · intro k q hq
    match k, hq with
    | 0, hq => cases hq; exact ⟨fun n z => ⟨fun k h => (by cases h), kI, gI, pI, eI⟩, fI⟩
    | 1, hq => cases hq; exact ⟨fun n z => ⟨fun k h => (by cases h), kJ, gJ, pJ, eJ⟩, fJ⟩
    | 2, hq => cases hq; exact ⟨fun n z => ⟨fun k h => (by cases h), kS, f3, comp, f4⟩, kS, comp, f3, f4, f1, f5⟩
    | k + 3, hq => exact absurd hq (by simp [zTy])
