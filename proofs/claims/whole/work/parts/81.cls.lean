/-! the class's world: its object, now, paper, kept, the TAPE, ages, the memory, in blocks -/
abbrev zMem : Type := (Nat → zState) × Int32 × Int32
abbrev zCls : Type := zState × zState × zState × Int32 × zMem × zTape × (Nat → Int32) × Int32 × Int32
theorem z_look2 {x : Int32} {a b oa ob d : Int} (h1 : ¬ x.toInt = a) (h2 : ¬ x.toInt = b) : Op.lookupswitch.offset [(a, oa), (b, ob)] d x.toInt = d := by
  rw [Op.lookupswitch.offset_cons, if_neg (fun e => h1 e.symm), Op.lookupswitch.offset_cons, if_neg (fun e => h2 e.symm)]; rfl
abbrev cl_sl (cI cJ : ClassId) (a : Nat → Nat) (f : Nat → zState) (k : Nat) : va_W := cl_X5 cI cJ (fun j => a (15 * k + j)) (f k)
def cl_n (cI cJ : ClassId) (a : Nat → Nat) (f : Nat → zState) : Nat → Nat → va_W
  | _, 0 => []
  | i, n + 1 => cl_sl cI cJ a f i ++ cl_n cI cJ a f (i + 1) n
def rr_n (cI cJ : ClassId) (a : Nat → Nat) (f : Nat → zState) (k : Nat) : Nat → Nat → va_W
  | _, 0 => []
  | i, n + 1 => if k = i then cl_n cI cJ a f (i + 1) n else cl_sl cI cJ a f i ++ rr_n cI cJ a f k (i + 1) n
def updS (f : Nat → zState) (k : Nat) (v : zState) : Nat → zState := fun i => if i = k then v else f i
theorem updS_eq (f : Nat → zState) (k : Nat) (v : zState) : updS f k v k = v := if_pos rfl
theorem updS_ne {f : Nat → zState} {k i : Nat} {v : zState} (h : ¬ i = k) : updS f k v i = f i := if_neg h
theorem pm_n (cI cJ : ClassId) (a : Nat → Nat) (f : Nat → zState) (k : Nat) : ∀ n i, i ≤ k → k < i + n → (cl_n cI cJ a f i n).Perm (rr_n cI cJ a f k i n ++ cl_sl cI cJ a f k)
  | 0, i, h1, h2 => absurd h2 (by omega)
  | n + 1, i, h1, h2 => by
    show (cl_sl cI cJ a f i ++ cl_n cI cJ a f (i + 1) n).Perm ((if k = i then cl_n cI cJ a f (i + 1) n else cl_sl cI cJ a f i ++ rr_n cI cJ a f k (i + 1) n) ++ cl_sl cI cJ a f k)
    by_cases h : k = i
    · rw [if_pos h, h]; exact List.perm_append_comm
    · rw [if_neg h, List.append_assoc]
      exact List.Perm.append_left _ (pm_n cI cJ a f k n (i + 1) (by omega) (by omega))
theorem cl_n_up (cI cJ : ClassId) (a : Nat → Nat) (f : Nat → zState) (k : Nat) (v : zState) : ∀ n i, k < i → cl_n cI cJ a (updS f k v) i n = cl_n cI cJ a f i n
  | 0, i, h => rfl
  | n + 1, i, h => by
    show cl_sl cI cJ a (updS f k v) i ++ cl_n cI cJ a (updS f k v) (i + 1) n = cl_sl cI cJ a f i ++ cl_n cI cJ a f (i + 1) n
    rw [cl_n_up cI cJ a f k v n (i + 1) (by omega)]
    show cl_X5 cI cJ (fun j => a (15 * i + j)) (updS f k v i) ++ _ = _
    rw [updS_ne (by omega)]
theorem rr_n_up (cI cJ : ClassId) (a : Nat → Nat) (f : Nat → zState) (k : Nat) (v : zState) : ∀ n i, rr_n cI cJ a (updS f k v) k i n = rr_n cI cJ a f k i n
  | 0, i => rfl
  | n + 1, i => by
    show (if k = i then cl_n cI cJ a (updS f k v) (i + 1) n else cl_sl cI cJ a (updS f k v) i ++ rr_n cI cJ a (updS f k v) k (i + 1) n) = (if k = i then cl_n cI cJ a f (i + 1) n else cl_sl cI cJ a f i ++ rr_n cI cJ a f k (i + 1) n)
    by_cases h : k = i
    · rw [if_pos h, if_pos h, cl_n_up cI cJ a f k v n (i + 1) (by omega)]
    · rw [if_neg h, if_neg h, rr_n_up cI cJ a f k v n (i + 1)]
      show cl_X5 cI cJ (fun j => a (15 * i + j)) (updS f k v i) ++ _ = _
      rw [updS_ne (fun z => h z.symm)]
abbrev cl_X3 (cI cJ cS : ClassId) (a : Nat → Nat) (u : zMem) : va_W := (a 0, .inr (2, [.ref (a 1), .int u.2.1, .int u.2.2])) :: (a 1, .inl (cS, 8, .inr (.inr (.inr (.inr (fun i => some (a (2 + 15 * i)))))))) :: cl_n cI cJ (fun i => a (2 + i)) u.1 0 8
abbrev rr_X3 (cI cJ cS : ClassId) (a : Nat → Nat) (u : zMem) (k : Nat) : va_W := (a 0, .inr (2, [.ref (a 1), .int u.2.1, .int u.2.2])) :: (a 1, .inl (cS, 8, .inr (.inr (.inr (.inr (fun i => some (a (2 + 15 * i)))))))) :: rr_n cI cJ (fun i => a (2 + i)) u.1 k 0 8
theorem pm_X3 (cI cJ cS : ClassId) (a : Nat → Nat) (u : zMem) (k : Nat) (hk : k < 8) : (cl_X3 cI cJ cS a u).Perm (rr_X3 cI cJ cS a u k ++ cl_X5 cI cJ (fun j => a (2 + (15 * k + j))) (u.1 k)) :=
  List.Perm.append_left [_, _] (pm_n cI cJ (fun i => a (2 + i)) u.1 k 8 0 (Nat.zero_le _) (by omega))
theorem pm_X3u (cI cJ cS : ClassId) (a : Nat → Nat) (u : zMem) (k : Nat) (hk : k < 8) (v : zState) : (cl_X3 cI cJ cS a (updS u.1 k v, u.2)).Perm (rr_X3 cI cJ cS a u k ++ cl_X5 cI cJ (fun j => a (2 + (15 * k + j))) v) := by
  have h := pm_X3 cI cJ cS a (updS u.1 k v, u.2) k hk
  have e : rr_X3 cI cJ cS a (updS u.1 k v, u.2) k = rr_X3 cI cJ cS a u k := by
    show _ :: _ :: rr_n cI cJ (fun i => a (2 + i)) (updS u.1 k v) k 0 8 = _
    rw [rr_n_up]
  rw [e] at h
  have h : (cl_X3 cI cJ cS a (updS u.1 k v, u.2)).Perm (rr_X3 cI cJ cS a u k ++ cl_X5 cI cJ (fun j => a (2 + (15 * k + j))) (updS u.1 k v k)) := h
  rw [updS_eq] at h
  exact h
section PX
variable (c : Nat × va_E) (N P K T G M R P1 C P3 : va_W)
theorem px_n : (c :: (N ++ R)).Perm ((c :: R) ++ N) := pm_1 [c] N R
theorem px_p : (c :: (N ++ (P ++ R))).Perm ((c :: (N ++ R)) ++ P) := pm_1 (c :: N) P R
theorem px_k : (c :: (N ++ (P ++ (K ++ R)))).Perm ((c :: (N ++ (P ++ R))) ++ K) := by
  have := pm_1 (c :: (N ++ P)) K R
  simpa only [List.cons_append, List.append_assoc] using this
theorem px_t : (c :: (N ++ (P ++ (K ++ (T ++ R))))).Perm ((c :: (N ++ (P ++ (K ++ R)))) ++ T) := by
  have := pm_1 (c :: (N ++ (P ++ K))) T R
  simpa only [List.cons_append, List.append_assoc] using this
theorem px_m : (c :: (N ++ (P ++ (K ++ (T ++ (G ++ M)))))).Perm ((c :: (N ++ (P ++ (K ++ (T ++ G))))) ++ M) := by
  simp only [List.cons_append, List.append_assoc]
  exact List.Perm.refl _
theorem px_pn : (c :: (N ++ (P ++ R))).Perm ((c :: R) ++ (P ++ N)) := pm_2r [c] N [] P R
theorem px_np : (c :: (N ++ (P ++ R))).Perm ((c :: R) ++ (N ++ P)) := pm_2 [c] N [] P R
theorem px_kn : (c :: (N ++ (P ++ (K ++ R)))).Perm ((c :: (P ++ R)) ++ (K ++ N)) := pm_2r [c] N P K R
theorem px_nk : (c :: (N ++ (P ++ (K ++ R)))).Perm ((c :: (P ++ R)) ++ (N ++ K)) := pm_2 [c] N P K R
theorem px_mn : (c :: (N ++ (P ++ (K ++ (T ++ (G ++ M)))))).Perm ((c :: (P ++ (K ++ (T ++ G)))) ++ (M ++ N)) := by
  have := pm_2r [c] N (P ++ (K ++ (T ++ G))) M []
  simpa only [List.cons_append, List.append_assoc, List.nil_append, List.append_nil] using this
theorem px_c : (c :: (N ++ ((P1 ++ (C ++ P3)) ++ R))).Perm ((c :: (N ++ (P1 ++ (P3 ++ R)))) ++ C) := by
  have := pm_1 (c :: (N ++ P1)) C (P3 ++ R)
  simpa only [List.cons_append, List.append_assoc] using this
end PX
abbrev cl_X10 (cI cJ cS : ClassId) (a : Nat → Nat) (u : zCls) : va_W := (a 0, .inr (9, [.ref (a 1), .ref (a 16), .ref (a 31), .int u.2.2.2.1, .ref (a 50), .ref (a 46), .ref (a 49), .int u.2.2.2.2.2.2.2.1, .int u.2.2.2.2.2.2.2.2])) :: (cl_X5 cI cJ (fun i => a (1 + i)) u.1 ++ (cl_X5 cI cJ (fun i => a (16 + i)) u.2.1 ++ (cl_X5 cI cJ (fun i => a (31 + i)) u.2.2.1 ++ (cl_X6 cI cJ (fun i => a (46 + i)) u.2.2.2.2.2.1 ++ ([(a 49, .inl (cI, 64, .inl u.2.2.2.2.2.2.1))] ++ (cl_X3 cI cJ cS (fun i => a (50 + i)) u.2.2.2.2.1))))))
abbrev rr_X10_n (cI cJ cS : ClassId) (a : Nat → Nat) (u : zCls) : va_W := (a 0, .inr (9, [.ref (a 1), .ref (a 16), .ref (a 31), .int u.2.2.2.1, .ref (a 50), .ref (a 46), .ref (a 49), .int u.2.2.2.2.2.2.2.1, .int u.2.2.2.2.2.2.2.2])) :: (cl_X5 cI cJ (fun i => a (16 + i)) u.2.1 ++ (cl_X5 cI cJ (fun i => a (31 + i)) u.2.2.1 ++ (cl_X6 cI cJ (fun i => a (46 + i)) u.2.2.2.2.2.1 ++ ([(a 49, .inl (cI, 64, .inl u.2.2.2.2.2.2.1))] ++ (cl_X3 cI cJ cS (fun i => a (50 + i)) u.2.2.2.2.1)))))
theorem pm_X10_n (cI cJ cS : ClassId) (a : Nat → Nat) (u : zCls) : (cl_X10 cI cJ cS a u).Perm (rr_X10_n cI cJ cS a u ++ (cl_X5 cI cJ (fun i => a (1 + i)) u.1)) := by
  have h := px_n (a 0, .inr (9, [.ref (a 1), .ref (a 16), .ref (a 31), .int u.2.2.2.1, .ref (a 50), .ref (a 46), .ref (a 49), .int u.2.2.2.2.2.2.2.1, .int u.2.2.2.2.2.2.2.2])) (cl_X5 cI cJ (fun i => a (1 + i)) u.1) (cl_X5 cI cJ (fun i => a (16 + i)) u.2.1 ++ (cl_X5 cI cJ (fun i => a (31 + i)) u.2.2.1 ++ (cl_X6 cI cJ (fun i => a (46 + i)) u.2.2.2.2.2.1 ++ ([(a 49, .inl (cI, 64, .inl u.2.2.2.2.2.2.1))] ++ (cl_X3 cI cJ cS (fun i => a (50 + i)) u.2.2.2.2.1)))))
  exact h
abbrev rr_X10_p (cI cJ cS : ClassId) (a : Nat → Nat) (u : zCls) : va_W := (a 0, .inr (9, [.ref (a 1), .ref (a 16), .ref (a 31), .int u.2.2.2.1, .ref (a 50), .ref (a 46), .ref (a 49), .int u.2.2.2.2.2.2.2.1, .int u.2.2.2.2.2.2.2.2])) :: (cl_X5 cI cJ (fun i => a (1 + i)) u.1 ++ (cl_X5 cI cJ (fun i => a (31 + i)) u.2.2.1 ++ (cl_X6 cI cJ (fun i => a (46 + i)) u.2.2.2.2.2.1 ++ ([(a 49, .inl (cI, 64, .inl u.2.2.2.2.2.2.1))] ++ (cl_X3 cI cJ cS (fun i => a (50 + i)) u.2.2.2.2.1)))))
theorem pm_X10_p (cI cJ cS : ClassId) (a : Nat → Nat) (u : zCls) : (cl_X10 cI cJ cS a u).Perm (rr_X10_p cI cJ cS a u ++ (cl_X5 cI cJ (fun i => a (16 + i)) u.2.1)) := by
  have h := px_p (a 0, .inr (9, [.ref (a 1), .ref (a 16), .ref (a 31), .int u.2.2.2.1, .ref (a 50), .ref (a 46), .ref (a 49), .int u.2.2.2.2.2.2.2.1, .int u.2.2.2.2.2.2.2.2])) (cl_X5 cI cJ (fun i => a (1 + i)) u.1) (cl_X5 cI cJ (fun i => a (16 + i)) u.2.1) (cl_X5 cI cJ (fun i => a (31 + i)) u.2.2.1 ++ (cl_X6 cI cJ (fun i => a (46 + i)) u.2.2.2.2.2.1 ++ ([(a 49, .inl (cI, 64, .inl u.2.2.2.2.2.2.1))] ++ (cl_X3 cI cJ cS (fun i => a (50 + i)) u.2.2.2.2.1))))
  exact h
abbrev rr_X10_k (cI cJ cS : ClassId) (a : Nat → Nat) (u : zCls) : va_W := (a 0, .inr (9, [.ref (a 1), .ref (a 16), .ref (a 31), .int u.2.2.2.1, .ref (a 50), .ref (a 46), .ref (a 49), .int u.2.2.2.2.2.2.2.1, .int u.2.2.2.2.2.2.2.2])) :: (cl_X5 cI cJ (fun i => a (1 + i)) u.1 ++ (cl_X5 cI cJ (fun i => a (16 + i)) u.2.1 ++ (cl_X6 cI cJ (fun i => a (46 + i)) u.2.2.2.2.2.1 ++ ([(a 49, .inl (cI, 64, .inl u.2.2.2.2.2.2.1))] ++ (cl_X3 cI cJ cS (fun i => a (50 + i)) u.2.2.2.2.1)))))
theorem pm_X10_k (cI cJ cS : ClassId) (a : Nat → Nat) (u : zCls) : (cl_X10 cI cJ cS a u).Perm (rr_X10_k cI cJ cS a u ++ (cl_X5 cI cJ (fun i => a (31 + i)) u.2.2.1)) := by
  have h := px_k (a 0, .inr (9, [.ref (a 1), .ref (a 16), .ref (a 31), .int u.2.2.2.1, .ref (a 50), .ref (a 46), .ref (a 49), .int u.2.2.2.2.2.2.2.1, .int u.2.2.2.2.2.2.2.2])) (cl_X5 cI cJ (fun i => a (1 + i)) u.1) (cl_X5 cI cJ (fun i => a (16 + i)) u.2.1) (cl_X5 cI cJ (fun i => a (31 + i)) u.2.2.1) (cl_X6 cI cJ (fun i => a (46 + i)) u.2.2.2.2.2.1 ++ ([(a 49, .inl (cI, 64, .inl u.2.2.2.2.2.2.1))] ++ (cl_X3 cI cJ cS (fun i => a (50 + i)) u.2.2.2.2.1)))
  exact h
abbrev rr_X10_t (cI cJ cS : ClassId) (a : Nat → Nat) (u : zCls) : va_W := (a 0, .inr (9, [.ref (a 1), .ref (a 16), .ref (a 31), .int u.2.2.2.1, .ref (a 50), .ref (a 46), .ref (a 49), .int u.2.2.2.2.2.2.2.1, .int u.2.2.2.2.2.2.2.2])) :: (cl_X5 cI cJ (fun i => a (1 + i)) u.1 ++ (cl_X5 cI cJ (fun i => a (16 + i)) u.2.1 ++ (cl_X5 cI cJ (fun i => a (31 + i)) u.2.2.1 ++ ([(a 49, .inl (cI, 64, .inl u.2.2.2.2.2.2.1))] ++ (cl_X3 cI cJ cS (fun i => a (50 + i)) u.2.2.2.2.1)))))
theorem pm_X10_t (cI cJ cS : ClassId) (a : Nat → Nat) (u : zCls) : (cl_X10 cI cJ cS a u).Perm (rr_X10_t cI cJ cS a u ++ (cl_X6 cI cJ (fun i => a (46 + i)) u.2.2.2.2.2.1)) := by
  have h := px_t (a 0, .inr (9, [.ref (a 1), .ref (a 16), .ref (a 31), .int u.2.2.2.1, .ref (a 50), .ref (a 46), .ref (a 49), .int u.2.2.2.2.2.2.2.1, .int u.2.2.2.2.2.2.2.2])) (cl_X5 cI cJ (fun i => a (1 + i)) u.1) (cl_X5 cI cJ (fun i => a (16 + i)) u.2.1) (cl_X5 cI cJ (fun i => a (31 + i)) u.2.2.1) (cl_X6 cI cJ (fun i => a (46 + i)) u.2.2.2.2.2.1) ([(a 49, .inl (cI, 64, .inl u.2.2.2.2.2.2.1))] ++ (cl_X3 cI cJ cS (fun i => a (50 + i)) u.2.2.2.2.1))
  exact h
abbrev rr_X10_m (cI cJ cS : ClassId) (a : Nat → Nat) (u : zCls) : va_W := (a 0, .inr (9, [.ref (a 1), .ref (a 16), .ref (a 31), .int u.2.2.2.1, .ref (a 50), .ref (a 46), .ref (a 49), .int u.2.2.2.2.2.2.2.1, .int u.2.2.2.2.2.2.2.2])) :: (cl_X5 cI cJ (fun i => a (1 + i)) u.1 ++ (cl_X5 cI cJ (fun i => a (16 + i)) u.2.1 ++ (cl_X5 cI cJ (fun i => a (31 + i)) u.2.2.1 ++ (cl_X6 cI cJ (fun i => a (46 + i)) u.2.2.2.2.2.1 ++ ([(a 49, .inl (cI, 64, .inl u.2.2.2.2.2.2.1))])))))
theorem pm_X10_m (cI cJ cS : ClassId) (a : Nat → Nat) (u : zCls) : (cl_X10 cI cJ cS a u).Perm (rr_X10_m cI cJ cS a u ++ (cl_X3 cI cJ cS (fun i => a (50 + i)) u.2.2.2.2.1)) := by
  have h := px_m (a 0, .inr (9, [.ref (a 1), .ref (a 16), .ref (a 31), .int u.2.2.2.1, .ref (a 50), .ref (a 46), .ref (a 49), .int u.2.2.2.2.2.2.2.1, .int u.2.2.2.2.2.2.2.2])) (cl_X5 cI cJ (fun i => a (1 + i)) u.1) (cl_X5 cI cJ (fun i => a (16 + i)) u.2.1) (cl_X5 cI cJ (fun i => a (31 + i)) u.2.2.1) (cl_X6 cI cJ (fun i => a (46 + i)) u.2.2.2.2.2.1) ([(a 49, .inl (cI, 64, .inl u.2.2.2.2.2.2.1))]) (cl_X3 cI cJ cS (fun i => a (50 + i)) u.2.2.2.2.1)
  exact h
abbrev rr_X10_pn (cI cJ cS : ClassId) (a : Nat → Nat) (u : zCls) : va_W := (a 0, .inr (9, [.ref (a 1), .ref (a 16), .ref (a 31), .int u.2.2.2.1, .ref (a 50), .ref (a 46), .ref (a 49), .int u.2.2.2.2.2.2.2.1, .int u.2.2.2.2.2.2.2.2])) :: (cl_X5 cI cJ (fun i => a (31 + i)) u.2.2.1 ++ (cl_X6 cI cJ (fun i => a (46 + i)) u.2.2.2.2.2.1 ++ ([(a 49, .inl (cI, 64, .inl u.2.2.2.2.2.2.1))] ++ (cl_X3 cI cJ cS (fun i => a (50 + i)) u.2.2.2.2.1))))
theorem pm_X10_pn (cI cJ cS : ClassId) (a : Nat → Nat) (u : zCls) : (cl_X10 cI cJ cS a u).Perm (rr_X10_pn cI cJ cS a u ++ (cl_X5 cI cJ (fun i => a (16 + i)) u.2.1 ++ (cl_X5 cI cJ (fun i => a (1 + i)) u.1))) := by
  have h := px_pn (a 0, .inr (9, [.ref (a 1), .ref (a 16), .ref (a 31), .int u.2.2.2.1, .ref (a 50), .ref (a 46), .ref (a 49), .int u.2.2.2.2.2.2.2.1, .int u.2.2.2.2.2.2.2.2])) (cl_X5 cI cJ (fun i => a (1 + i)) u.1) (cl_X5 cI cJ (fun i => a (16 + i)) u.2.1) (cl_X5 cI cJ (fun i => a (31 + i)) u.2.2.1 ++ (cl_X6 cI cJ (fun i => a (46 + i)) u.2.2.2.2.2.1 ++ ([(a 49, .inl (cI, 64, .inl u.2.2.2.2.2.2.1))] ++ (cl_X3 cI cJ cS (fun i => a (50 + i)) u.2.2.2.2.1))))
  exact h
abbrev rr_X10_np (cI cJ cS : ClassId) (a : Nat → Nat) (u : zCls) : va_W := (a 0, .inr (9, [.ref (a 1), .ref (a 16), .ref (a 31), .int u.2.2.2.1, .ref (a 50), .ref (a 46), .ref (a 49), .int u.2.2.2.2.2.2.2.1, .int u.2.2.2.2.2.2.2.2])) :: (cl_X5 cI cJ (fun i => a (31 + i)) u.2.2.1 ++ (cl_X6 cI cJ (fun i => a (46 + i)) u.2.2.2.2.2.1 ++ ([(a 49, .inl (cI, 64, .inl u.2.2.2.2.2.2.1))] ++ (cl_X3 cI cJ cS (fun i => a (50 + i)) u.2.2.2.2.1))))
theorem pm_X10_np (cI cJ cS : ClassId) (a : Nat → Nat) (u : zCls) : (cl_X10 cI cJ cS a u).Perm (rr_X10_np cI cJ cS a u ++ (cl_X5 cI cJ (fun i => a (1 + i)) u.1 ++ (cl_X5 cI cJ (fun i => a (16 + i)) u.2.1))) := by
  have h := px_np (a 0, .inr (9, [.ref (a 1), .ref (a 16), .ref (a 31), .int u.2.2.2.1, .ref (a 50), .ref (a 46), .ref (a 49), .int u.2.2.2.2.2.2.2.1, .int u.2.2.2.2.2.2.2.2])) (cl_X5 cI cJ (fun i => a (1 + i)) u.1) (cl_X5 cI cJ (fun i => a (16 + i)) u.2.1) (cl_X5 cI cJ (fun i => a (31 + i)) u.2.2.1 ++ (cl_X6 cI cJ (fun i => a (46 + i)) u.2.2.2.2.2.1 ++ ([(a 49, .inl (cI, 64, .inl u.2.2.2.2.2.2.1))] ++ (cl_X3 cI cJ cS (fun i => a (50 + i)) u.2.2.2.2.1))))
  exact h
abbrev rr_X10_kn (cI cJ cS : ClassId) (a : Nat → Nat) (u : zCls) : va_W := (a 0, .inr (9, [.ref (a 1), .ref (a 16), .ref (a 31), .int u.2.2.2.1, .ref (a 50), .ref (a 46), .ref (a 49), .int u.2.2.2.2.2.2.2.1, .int u.2.2.2.2.2.2.2.2])) :: (cl_X5 cI cJ (fun i => a (16 + i)) u.2.1 ++ (cl_X6 cI cJ (fun i => a (46 + i)) u.2.2.2.2.2.1 ++ ([(a 49, .inl (cI, 64, .inl u.2.2.2.2.2.2.1))] ++ (cl_X3 cI cJ cS (fun i => a (50 + i)) u.2.2.2.2.1))))
theorem pm_X10_kn (cI cJ cS : ClassId) (a : Nat → Nat) (u : zCls) : (cl_X10 cI cJ cS a u).Perm (rr_X10_kn cI cJ cS a u ++ (cl_X5 cI cJ (fun i => a (31 + i)) u.2.2.1 ++ (cl_X5 cI cJ (fun i => a (1 + i)) u.1))) := by
  have h := px_kn (a 0, .inr (9, [.ref (a 1), .ref (a 16), .ref (a 31), .int u.2.2.2.1, .ref (a 50), .ref (a 46), .ref (a 49), .int u.2.2.2.2.2.2.2.1, .int u.2.2.2.2.2.2.2.2])) (cl_X5 cI cJ (fun i => a (1 + i)) u.1) (cl_X5 cI cJ (fun i => a (16 + i)) u.2.1) (cl_X5 cI cJ (fun i => a (31 + i)) u.2.2.1) (cl_X6 cI cJ (fun i => a (46 + i)) u.2.2.2.2.2.1 ++ ([(a 49, .inl (cI, 64, .inl u.2.2.2.2.2.2.1))] ++ (cl_X3 cI cJ cS (fun i => a (50 + i)) u.2.2.2.2.1)))
  exact h
abbrev rr_X10_nk (cI cJ cS : ClassId) (a : Nat → Nat) (u : zCls) : va_W := (a 0, .inr (9, [.ref (a 1), .ref (a 16), .ref (a 31), .int u.2.2.2.1, .ref (a 50), .ref (a 46), .ref (a 49), .int u.2.2.2.2.2.2.2.1, .int u.2.2.2.2.2.2.2.2])) :: (cl_X5 cI cJ (fun i => a (16 + i)) u.2.1 ++ (cl_X6 cI cJ (fun i => a (46 + i)) u.2.2.2.2.2.1 ++ ([(a 49, .inl (cI, 64, .inl u.2.2.2.2.2.2.1))] ++ (cl_X3 cI cJ cS (fun i => a (50 + i)) u.2.2.2.2.1))))
theorem pm_X10_nk (cI cJ cS : ClassId) (a : Nat → Nat) (u : zCls) : (cl_X10 cI cJ cS a u).Perm (rr_X10_nk cI cJ cS a u ++ (cl_X5 cI cJ (fun i => a (1 + i)) u.1 ++ (cl_X5 cI cJ (fun i => a (31 + i)) u.2.2.1))) := by
  have h := px_nk (a 0, .inr (9, [.ref (a 1), .ref (a 16), .ref (a 31), .int u.2.2.2.1, .ref (a 50), .ref (a 46), .ref (a 49), .int u.2.2.2.2.2.2.2.1, .int u.2.2.2.2.2.2.2.2])) (cl_X5 cI cJ (fun i => a (1 + i)) u.1) (cl_X5 cI cJ (fun i => a (16 + i)) u.2.1) (cl_X5 cI cJ (fun i => a (31 + i)) u.2.2.1) (cl_X6 cI cJ (fun i => a (46 + i)) u.2.2.2.2.2.1 ++ ([(a 49, .inl (cI, 64, .inl u.2.2.2.2.2.2.1))] ++ (cl_X3 cI cJ cS (fun i => a (50 + i)) u.2.2.2.2.1)))
  exact h
abbrev rr_X10_mn (cI cJ cS : ClassId) (a : Nat → Nat) (u : zCls) : va_W := (a 0, .inr (9, [.ref (a 1), .ref (a 16), .ref (a 31), .int u.2.2.2.1, .ref (a 50), .ref (a 46), .ref (a 49), .int u.2.2.2.2.2.2.2.1, .int u.2.2.2.2.2.2.2.2])) :: (cl_X5 cI cJ (fun i => a (16 + i)) u.2.1 ++ (cl_X5 cI cJ (fun i => a (31 + i)) u.2.2.1 ++ (cl_X6 cI cJ (fun i => a (46 + i)) u.2.2.2.2.2.1 ++ ([(a 49, .inl (cI, 64, .inl u.2.2.2.2.2.2.1))]))))
theorem pm_X10_mn (cI cJ cS : ClassId) (a : Nat → Nat) (u : zCls) : (cl_X10 cI cJ cS a u).Perm (rr_X10_mn cI cJ cS a u ++ (cl_X3 cI cJ cS (fun i => a (50 + i)) u.2.2.2.2.1 ++ (cl_X5 cI cJ (fun i => a (1 + i)) u.1))) := by
  have h := px_mn (a 0, .inr (9, [.ref (a 1), .ref (a 16), .ref (a 31), .int u.2.2.2.1, .ref (a 50), .ref (a 46), .ref (a 49), .int u.2.2.2.2.2.2.2.1, .int u.2.2.2.2.2.2.2.2])) (cl_X5 cI cJ (fun i => a (1 + i)) u.1) (cl_X5 cI cJ (fun i => a (16 + i)) u.2.1) (cl_X5 cI cJ (fun i => a (31 + i)) u.2.2.1) (cl_X6 cI cJ (fun i => a (46 + i)) u.2.2.2.2.2.1) ([(a 49, .inl (cI, 64, .inl u.2.2.2.2.2.2.1))]) (cl_X3 cI cJ cS (fun i => a (50 + i)) u.2.2.2.2.1)
  exact h
abbrev rr_X10_c (cI cJ cS : ClassId) (a : Nat → Nat) (u : zCls) : va_W := (a 0, .inr (9, [.ref (a 1), .ref (a 16), .ref (a 31), .int u.2.2.2.1, .ref (a 50), .ref (a 46), .ref (a 49), .int u.2.2.2.2.2.2.2.1, .int u.2.2.2.2.2.2.2.2])) :: (cl_X5 cI cJ (fun i => a (1 + i)) u.1 ++ ([(a 16, .inr (4, [.ref (a 17), .ref (a 18), .ref (a 19), .ref (a 24), .ref (a 27), .ref (a 29), .int u.2.1.2.2.2.2.2.2.1, .int u.2.1.2.2.2.2.2.2.2.1, .int u.2.1.2.2.2.2.2.2.2.2])), (a 17, .inr (6, [.int u.2.1.1.1, .int u.2.1.1.2.1, .int u.2.1.1.2.2.1, .int u.2.1.1.2.2.2])), (a 18, .inr (7, [.int u.2.1.2.1.1, .int u.2.1.2.1.2.1, .int u.2.1.2.1.2.2.1, .int u.2.1.2.1.2.2.2.1, .int u.2.1.2.1.2.2.2.2])), (a 19, .inr (3, [.ref (a 20), .ref (a 21), .ref (a 22), .ref (a 23), .int u.2.1.2.2.1.2.2.2.2])), (a 20, .inl (cJ, 600, .inr (.inl u.2.1.2.2.1.1))), (a 21, .inl (cI, 12, .inl u.2.1.2.2.1.2.1)), (a 22, .inl (cI, 12, .inl u.2.1.2.2.1.2.2.1)), (a 23, .inl (cI, 12, .inl u.2.1.2.2.1.2.2.2.1)), (a 24, .inr (8, [.ref (a 25), .ref (a 26), .int u.2.1.2.2.2.1.2.2])), (a 25, .inl (cJ, 384, .inr (.inl u.2.1.2.2.2.1.1))), (a 26, .inl (cI, 6, .inl u.2.1.2.2.2.1.2.1))] ++ ([(a 29, .inr (1, [.ref (a 30), .int u.2.1.2.2.2.2.2.1.2])), (a 30, .inl (cI, 90, .inl u.2.1.2.2.2.2.2.1.1))] ++ (cl_X5 cI cJ (fun i => a (31 + i)) u.2.2.1 ++ (cl_X6 cI cJ (fun i => a (46 + i)) u.2.2.2.2.2.1 ++ ([(a 49, .inl (cI, 64, .inl u.2.2.2.2.2.2.1))] ++ (cl_X3 cI cJ cS (fun i => a (50 + i)) u.2.2.2.2.1)))))))
theorem pm_X10_c (cI cJ cS : ClassId) (a : Nat → Nat) (u : zCls) : (cl_X10 cI cJ cS a u).Perm (rr_X10_c cI cJ cS a u ++ cl_X1 cI cJ (fun i => a (27 + i)) u.2.1.2.2.2.2.1) := by
  have h := px_c (a 0, .inr (9, [.ref (a 1), .ref (a 16), .ref (a 31), .int u.2.2.2.1, .ref (a 50), .ref (a 46), .ref (a 49), .int u.2.2.2.2.2.2.2.1, .int u.2.2.2.2.2.2.2.2])) (cl_X5 cI cJ (fun i => a (1 + i)) u.1) (cl_X5 cI cJ (fun i => a (31 + i)) u.2.2.1 ++ (cl_X6 cI cJ (fun i => a (46 + i)) u.2.2.2.2.2.1 ++ ([(a 49, .inl (cI, 64, .inl u.2.2.2.2.2.2.1))] ++ (cl_X3 cI cJ cS (fun i => a (50 + i)) u.2.2.2.2.1)))) ([(a 16, .inr (4, [.ref (a 17), .ref (a 18), .ref (a 19), .ref (a 24), .ref (a 27), .ref (a 29), .int u.2.1.2.2.2.2.2.2.1, .int u.2.1.2.2.2.2.2.2.2.1, .int u.2.1.2.2.2.2.2.2.2.2])), (a 17, .inr (6, [.int u.2.1.1.1, .int u.2.1.1.2.1, .int u.2.1.1.2.2.1, .int u.2.1.1.2.2.2])), (a 18, .inr (7, [.int u.2.1.2.1.1, .int u.2.1.2.1.2.1, .int u.2.1.2.1.2.2.1, .int u.2.1.2.1.2.2.2.1, .int u.2.1.2.1.2.2.2.2])), (a 19, .inr (3, [.ref (a 20), .ref (a 21), .ref (a 22), .ref (a 23), .int u.2.1.2.2.1.2.2.2.2])), (a 20, .inl (cJ, 600, .inr (.inl u.2.1.2.2.1.1))), (a 21, .inl (cI, 12, .inl u.2.1.2.2.1.2.1)), (a 22, .inl (cI, 12, .inl u.2.1.2.2.1.2.2.1)), (a 23, .inl (cI, 12, .inl u.2.1.2.2.1.2.2.2.1)), (a 24, .inr (8, [.ref (a 25), .ref (a 26), .int u.2.1.2.2.2.1.2.2])), (a 25, .inl (cJ, 384, .inr (.inl u.2.1.2.2.2.1.1))), (a 26, .inl (cI, 6, .inl u.2.1.2.2.2.1.2.1))]) (cl_X1 cI cJ (fun i => a (27 + i)) u.2.1.2.2.2.2.1) ([(a 29, .inr (1, [.ref (a 30), .int u.2.1.2.2.2.2.2.1.2])), (a 30, .inl (cI, 90, .inl u.2.1.2.2.2.2.2.1.1))])
  exact h
