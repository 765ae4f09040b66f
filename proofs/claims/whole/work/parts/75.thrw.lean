/-- NoSuchElementException has its constructor's link at another place than the others -/
abbrev nxB : ByteArray := prog_30_method_4_code
def nxAtoms (own : String) (ic : Nat) (X : String) : List Cond :=
  Bundle.throwableAtoms ++ Bundle.throwableSAtoms ++ (Bundle.passSAtoms X "java/lang/RuntimeException" 13 nxB ++ Bundle.chainSAtoms "java/lang/RuntimeException" ["java/lang/Exception"]) ++
  [.methodLink own ic (Bundle.initS X), .instantiable X 6, .castable X X, .selects X Bundle.tFill0 Bundle.tFill0, .selects X Bundle.tFill Bundle.tFill,
   .lays X Bundle.tN "cause" "Ljava/lang/Throwable;", .lays X Bundle.tN "stackTrace" Bundle.steD, .lays X Bundle.tN "suppressedExceptions" Bundle.listD, .lays X Bundle.tN "detailMessage" "Ljava/lang/String;",
   .isRef (.static Bundle.tN "UNASSIGNED_STACK" Bundle.steD), .isRef (.static Bundle.tN "SUPPRESSED_SENTINEL" Bundle.listD),
   .fieldLink Bundle.tN 198 Bundle.tN "backtrace" "Ljava/lang/Object;", .lays Bundle.tN Bundle.tN "backtrace" "Ljava/lang/Object;", .lays X Bundle.tN "backtrace" "Ljava/lang/Object;"]
def thL (j : Nat) : List Cond := match j with
  | 0 => vx_atS RX10 93 "java/lang/IllegalArgumentException" ["java/lang/RuntimeException", "java/lang/Exception"]
  | 1 => vx_atS RX10 129 "java/lang/IllegalStateException" ["java/lang/RuntimeException", "java/lang/Exception"]
  | 2 => vx_atS RX10 418 "java/lang/IndexOutOfBoundsException" ["java/lang/RuntimeException", "java/lang/Exception"]
  | _ => (nxAtoms RX10 427 "java/util/NoSuchElementException").filter vx_no
set_option maxRecDepth 20000 in
theorem th_g0 : ∀ w ∈ (thL 0).filter goodWord, w ∈ zT := fun w hw => zT_mem ((goodIn_r (big := lw_tbl) _ [120, 971, 980, 985, 988, 990, 972, 973, 133, 134, 974, 979, 986, 1006, 961, 1007, 963, 1008, 965, 975, 977, 967, 1002, 1003, 1005, 967, 993, 994, 995, 996, 996, 997, 998, 999, 999, 1000, 1001, 1002, 992, 950, 958, 959, 960, 962, 964, 966, 970, 969, 968] (by decide +kernel) (by decide +kernel)) w hw).1 (List.mem_filter.mp hw).2
theorem th_k0 : (.classLink RX10 89 "java/lang/IllegalArgumentException" : Cond) ∈ zT := zT_mem (List.mem_of_getElem? (i := 949) (by decide +kernel)) (by decide +kernel)
theorem th_i0 : (.initialized "java/lang/IllegalArgumentException" : Cond) ∈ zT := zT_mem (List.mem_of_getElem? (i := 123) (by decide +kernel)) (by decide +kernel)
set_option maxRecDepth 20000 in
theorem th_g1 : ∀ w ∈ (thL 1).filter goodWord, w ∈ zT := fun w hw => zT_mem ((goodIn_r (big := lw_tbl) _ [120, 971, 980, 985, 988, 990, 972, 973, 133, 134, 974, 979, 986, 1006, 961, 1007, 963, 1008, 965, 975, 977, 967, 1002, 1003, 1005, 967, 1071, 1072, 1073, 996, 996, 997, 998, 999, 999, 1000, 1001, 1002, 1070, 1061, 1063, 982, 1064, 1065, 1066, 1067, 970, 969, 1068] (by decide +kernel) (by decide +kernel)) w hw).1 (List.mem_filter.mp hw).2
theorem th_k1 : (.classLink RX10 125 "java/lang/IllegalStateException" : Cond) ∈ zT := zT_mem (List.mem_of_getElem? (i := 1060) (by decide +kernel)) (by decide +kernel)
theorem th_i1 : (.initialized "java/lang/IllegalStateException" : Cond) ∈ zT := zT_mem (List.mem_of_getElem? (i := 125) (by decide +kernel)) (by decide +kernel)
set_option maxRecDepth 20000 in
theorem th_g2 : ∀ w ∈ (thL 2).filter goodWord, w ∈ zT := fun w hw => zT_mem ((goodIn_r (big := lw_tbl) _ [120, 971, 980, 985, 988, 990, 972, 973, 133, 134, 974, 979, 986, 1006, 961, 1007, 963, 1008, 965, 975, 977, 967, 1002, 1003, 1005, 967, 1050, 1051, 1052, 996, 996, 997, 998, 999, 999, 1000, 1001, 1002, 1049, 1040, 1042, 983, 1043, 1044, 1045, 1046, 970, 969, 1047] (by decide +kernel) (by decide +kernel)) w hw).1 (List.mem_filter.mp hw).2
theorem th_k2 : (.classLink RX10 414 "java/lang/IndexOutOfBoundsException" : Cond) ∈ zT := zT_mem (List.mem_of_getElem? (i := 1039) (by decide +kernel)) (by decide +kernel)
theorem th_i2 : (.initialized "java/lang/IndexOutOfBoundsException" : Cond) ∈ zT := zT_mem (List.mem_of_getElem? (i := 124) (by decide +kernel)) (by decide +kernel)
set_option maxRecDepth 20000 in
theorem th_g3 : ∀ w ∈ (thL 3).filter goodWord, w ∈ zT := fun w hw => zT_mem ((goodIn_r (big := lw_tbl) _ [120, 971, 980, 985, 988, 990, 972, 973, 133, 134, 974, 979, 986, 1006, 961, 1007, 963, 1008, 965, 975, 977, 967, 1002, 1003, 1005, 967, 1143, 1144, 1145, 996, 996, 997, 998, 999, 999, 1000, 1001, 1002, 1142, 1133, 1135, 984, 1136, 1137, 1138, 1139, 970, 969, 1140] (by decide +kernel) (by decide +kernel)) w hw).1 (List.mem_filter.mp hw).2
theorem th_k3 : (.classLink RX10 423 "java/util/NoSuchElementException" : Cond) ∈ zT := zT_mem (List.mem_of_getElem? (i := 1132) (by decide +kernel)) (by decide +kernel)
theorem th_i3 : (.initialized "java/util/NoSuchElementException" : Cond) ∈ zT := zT_mem (List.mem_of_getElem? (i := 126) (by decide +kernel)) (by decide +kernel)
def exC (i : Nat) : String := match i with
  | 0 => "java/lang/IllegalArgumentException"
  | 1 => "java/lang/IllegalStateException"
  | 2 => "java/lang/IndexOutOfBoundsException"
  | _ => "java/util/NoSuchElementException"
def exK (i : Nat) : Nat := match i with
  | 0 => 89
  | 1 => 125
  | 2 => 414
  | _ => 423
def exN (i : Nat) : Nat := match i with
  | 0 => 93
  | 1 => 129
  | 2 => 418
  | _ => 427
def exI (i : Nat) : Nat := match i with
  | 0 => 91
  | 1 => 103
  | 2 => 108
  | 3 => 119
  | 4 => 127
  | 5 => 131
  | 6 => 251
  | 7 => 265
  | 8 => 297
  | 9 => 416
  | 10 => 419
  | 11 => 421
  | _ => 425
def exS (i : Nat) : String := match i with
  | 0 => "the text is wrong"
  | 1 => "a TERM is none"
  | 2 => "LENGTH or SEED is none"
  | 3 => "no such number of STEPS"
  | 4 => "no ACT is remembered"
  | 5 => "the ACT is refused"
  | 6 => "both RUNS are one"
  | 7 => "LENGTH is none"
  | 8 => "no such number of sweeps"
  | 9 => "no such KEY"
  | 10 => "no such SEGMENT"
  | 11 => "no such RUN"
  | _ => "no such what"
theorem th_g (j : Nat) (hj : j < 4) : ∀ w ∈ (thL j).filter goodWord, w ∈ zT := match j, hj with
  | 0, _ => th_g0
  | 1, _ => th_g1
  | 2, _ => th_g2
  | 3, _ => th_g3
  | n + 4, h => absurd h (by omega)
theorem th_k (j : Nat) (hj : j < 4) : (.classLink RX10 (exK j) (exC j) : Cond) ∈ zT := match j, hj with
  | 0, _ => th_k0
  | 1, _ => th_k1
  | 2, _ => th_k2
  | 3, _ => th_k3
  | n + 4, h => absurd h (by omega)
theorem th_i (j : Nat) (hj : j < 4) : (.initialized (exC j) : Cond) ∈ zT := match j, hj with
  | 0, _ => th_i0
  | 1, _ => th_i1
  | 2, _ => th_i2
  | 3, _ => th_i3
  | n + 4, h => absurd h (by omega)
def thB (j : Nat) : List Cond := [.declares (Bundle.initS "java/lang/RuntimeException"), .declares (Bundle.initS "java/lang/Exception"), .declares (Bundle.initS Bundle.tN), .castable (exC j) (exC j)]
theorem th_n (j : Nat) (hj : j < 4) : ∀ w ∈ (thL j).filter (fun w => !goodWord w), w ∈ thB j := match j, hj with
  | 0, _ => by decide +kernel
  | 1, _ => by decide +kernel
  | 2, _ => by decide +kernel
  | 3, _ => by decide +kernel
  | n + 4, h => absurd h (by omega)
theorem th_o (j : Nat) (hj : j < 4) : ∀ w ∈ Cond.classLink RX10 (exK j) (exC j) :: Cond.initialized (exC j) :: thL j, vx_ot w = true := match j, hj with
  | 0, _ => by decide +kernel
  | 1, _ => by decide +kernel
  | 2, _ => by decide +kernel
  | 3, _ => by decide +kernel
  | n + 4, h => absurd h (by omega)
theorem th_f (j : Nat) (hj : j < 4) : Bundle.fit (exC j) = true := match j, hj with
  | 0, _ => by decide +kernel
  | 1, _ => by decide +kernel
  | 2, _ => by decide +kernel
  | 3, _ => by decide +kernel
  | n + 4, h => absurd h (by omega)
