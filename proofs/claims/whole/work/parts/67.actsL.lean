set_option maxHeartbeats 4000000 in
set_option maxRecDepth 100000 in
theorem L_X11_acts (l : Launch) (dC : Nat → ClassId) (dI : Nat → Nat → Nat) (cI cJ cS : ClassId) (a : Nat → Nat) (u : zModel) (Q : Int32 → zModel → Prop) (I48 : Nat → Int32 → Int32 → Int32 → zModel → Prop) (h48 : ∀ (n : Nat) (y1 : Int32) (y2 : Int32) (y3 : Int32) (z : zModel), I48 n y1 y2 y3 z → t_X11_acts_48 y1 y2 y3 z (fun q0 q1 q2 q3 => ∃ k : Nat, k < n ∧ I48 k q0 q1 q2 q3) Q) (hf : t_X11_acts_e u (fun q0 q1 q2 q3 => ∃ k : Nat, I48 k q0 q1 q2 q3) Q) : ∀ sz : Nat, Met l yX11_acts (Cond.code yX11_acts cX11_acts 4 (some .int) :: zT) rm_X11_acts (zPmF zFz dC dI cI cJ cS (cl_X11 cI cJ a u) [.ref (a 0)] sz) (va_Qi Q (zB dC dI cI cJ cS (va_A (cl_X11 cI cJ a u) sz) (fun z => cl_X11 cI cJ a z)) (va_A (cl_X11 cI cJ a u) sz)) 0 0 (va_A (cl_X11 cI cJ a u) sz) := by
  intro sz
  refine z_enterMF (Qc := fun A => va_Qi Q (zB dC dI cI cJ cS A (fun z => cl_X11 cI cJ a z)) A) (cc := cX11_acts) (maxL := 4) (ret := (some .int)) (by decide) (Nat.le_of_ble_eq_true rfl) ?_
  intro p e s m below meth c ls A X hP hD hS hA hF hl
  obtain ⟨⟨hx, hb, hml, hown, hts⟩, hr, hlk, hK⟩ := id X
  have hl : lv_has ls 4 [(0, .ref (a 0))] := hl
  have LP : ∀ n : Nat, (∀ (y1 : Int32) (y2 : Int32) (y3 : Int32) (z : zModel) (H : Heap) (locs : List Loc) (ls : Array Slot), I48 n y1 y2 y3 z → va_P (dC, dI) vwCl (cl_X11 cI cJ a z) H → va_D A (cl_X11 cI cJ a z) → va_S A s.heap H locs → lv_has ls 4 [(0, .ref (a 0)), (1, .int y1), (2, .int y2), (3, .int y3)] → W p l e rm_X11_acts s m [.ref (a 0)].toArray below meth c H locs 0 0 (MQ below (va_Qi Q (zB dC dI cI cJ cS A (fun z => cl_X11 cI cJ a z)) A) [.ref (a 0)].toArray s 0 0 A) (F0 m 48 ls [])) := by
    intro n
    induction n using Nat.strongRecOn with
    | _ n ih =>
      intro y1 y2 y3 z H locs ls hI hP hD hS hl
      have hf := h48 n y1 y2 y3 z hI
      unfold t_X11_acts_48 at hf
      refine lv_iload_n hx hb dX11_acts_48 rfl (lv_at hl 3 rfl) ?_
      refine lv_if_eq (tgt := 154) hx hb dX11_acts_49 (by decide) (fun c_9 => ?_) (fun c_9 => ?_)
      · have hf := hf.1 c_9
        refine lv_aload_n hx hb dX11_acts_154 rfl (lv_at hl 0 rfl) ?_
        refine lv_aload_n hx hb dX11_acts_155 rfl (lv_at hl 0 rfl) ?_
        refine va_get (D := (dC, dI)) (ci := 10) (v := .int z.2.2.2.2.2.2.2.2.2.2.2.2.2.1) (C := RX11) (T := TX11) (N := 17) hx hb hts inX11 hown hK hP 0 rfl rfl 13 (by decide) (hts _ q_fl_X11_29) (fun _ h9 => h9) rfl dX11_acts_156 ?_
        refine lv_iconst (v := (-1)) hx hb dX11_acts_159 (by decide) ?_
        refine lv_icmp_ne (tgt := 167) hx hb dX11_acts_160 (by decide) (fun c_10 => ?_) (fun c_10 => ?_)
        · have hf := hf.1 c_10
          refine lv_iconst (v := 1) hx hb dX11_acts_167 (by decide) ?_
          refine z_put (w' := cl_X11 cI cJ a ((1 : Int32), z.2)) (ci := 10) (v := .int (1 : Int32)) (ty := .int) (Cn := RX11) (T := TX11) (N := 17) X inX11 tyX11 tyX11_ok nmX11 hP hD hS 0 rfl rfl 0 (by decide) (hts _ q_fl_X11_43) (fun _ h9 => h9) rfl (tyX11_ok 0 (by decide)) rfl rfl (Nat.le_of_ble_eq_true rfl) rfl dX11_acts_168 (fun H locs hP hD hS => ?_)
          refine lv_aload_n hx hb dX11_acts_171 rfl (lv_at hl 0 rfl) ?_
          refine va_get (D := (dC, dI)) (ci := 10) (v := .int (1 : Int32)) (C := RX11) (T := TX11) (N := 17) hx hb hts inX11 hown hK hP 0 rfl rfl 0 (by decide) (hts _ q_fl_X11_43) (fun _ h9 => h9) rfl dX11_acts_172 ?_
          refine lv_if_ne (tgt := 201) hx hb dX11_acts_175 (by decide) (fun c_11 => ?_) (fun c_11 => ?_)
          · have hf := hf.1 c_11
            refine lv_aload_n hx hb dX11_acts_201 rfl (lv_at hl 0 rfl) ?_
            refine lv_iload_n hx hb dX11_acts_202 rfl (lv_at hl 2 rfl) ?_
            refine lv_if_le (tgt := 210) hx hb dX11_acts_203 (by decide) (fun c_12 => ?_) (fun c_12 => ?_)
            · have hf := hf.1 c_12
              refine lv_aload_n hx hb dX11_acts_210 rfl (lv_at hl 0 rfl) ?_
              refine va_get (D := (dC, dI)) (ci := 10) (v := .int z.2.2.2.2.2.2.2.2.1) (C := RX11) (T := TX11) (N := 17) hx hb hts inX11 hown hK hP 0 rfl rfl 8 (by decide) (hts _ q_fl_X11_153) (fun _ h9 => h9) rfl dX11_acts_211 ?_
              refine lv_topi (fun x_13 ex_13 => ?_)
              have hf := hf x_13 ex_13
              refine z_put (w' := cl_X11 cI cJ a ((1 : Int32), z.2.1, z.2.2.1, z.2.2.2.1, z.2.2.2.2.1, z.2.2.2.2.2.1, z.2.2.2.2.2.2.1, z.2.2.2.2.2.2.2.1, x_13, z.2.2.2.2.2.2.2.2.2)) (ci := 10) (v := .int x_13) (ty := .int) (Cn := RX11) (T := TX11) (N := 17) X inX11 tyX11 tyX11_ok nmX11 hP hD hS 0 rfl rfl 8 (by decide) (hts _ q_fl_X11_153) (fun _ h9 => h9) rfl (tyX11_ok 8 (by decide)) rfl rfl (Nat.le_of_ble_eq_true rfl) rfl dX11_acts_214 (fun H locs hP hD hS => ?_)
              refine lv_aload_n hx hb dX11_acts_217 rfl (lv_at hl 0 rfl) ?_
              refine z_mVv (Wn := (fun u_15 => cl_X11 cI cJ a u_15)) (As := []) (rest := []) (wr := []) X (c_X11_putsBack l dC dI cI cJ cS a ((1 : Int32), z.2.1, z.2.2.1, z.2.2.2.1, z.2.2.2.2.1, z.2.2.2.2.2.1, z.2.2.2.2.2.2.1, z.2.2.2.2.2.2.2.1, x_13, z.2.2.2.2.2.2.2.2.2)  _ hf _) zc_X11_putsBack q_ml_X11_159 ⟨rfl, rfl⟩ ⟨Nat.le_of_ble_eq_true rfl, Nat.le_of_ble_eq_true rfl⟩ hP hD hS hA [0, 1, 2, 3, 4, 5, 6, 7, 8] [] rfl (by decide) rfl (by decide) (by decide) [0, 1, 2, 3, 4, 5, 6, 7, 8] (by decide) (fun _ => rfl) 10 rfl rfl hl.1 rfl rfl (Nat.le_of_ble_eq_true rfl) ⟨Nat.zero_le _, Nat.zero_le _⟩ dX11_acts_218 (fun u_15 H locs hf hP hD hS => ?_)
              refine lv_iconst (v := 0) hx hb dX11_acts_221 (by decide) ?_
              exact z_retMi (Wf := (fun z => cl_X11 cI cJ a z)) (u := u_15) X hf hP hD hS dX11_acts_222
            · have hf := hf.2 c_12
              refine lv_iload_n hx hb dX11_acts_206 rfl (lv_at hl 2 rfl) ?_
              refine lv_goto (tgt := 214) hx hb dX11_acts_207 (by decide) ?_
              refine z_put (w' := cl_X11 cI cJ a ((1 : Int32), z.2.1, z.2.2.1, z.2.2.2.1, z.2.2.2.2.1, z.2.2.2.2.2.1, z.2.2.2.2.2.2.1, z.2.2.2.2.2.2.2.1, y2, z.2.2.2.2.2.2.2.2.2)) (ci := 10) (v := .int y2) (ty := .int) (Cn := RX11) (T := TX11) (N := 17) X inX11 tyX11 tyX11_ok nmX11 hP hD hS 0 rfl rfl 8 (by decide) (hts _ q_fl_X11_153) (fun _ h9 => h9) rfl (tyX11_ok 8 (by decide)) rfl rfl (Nat.le_of_ble_eq_true rfl) rfl dX11_acts_214 (fun H locs hP hD hS => ?_)
              refine lv_aload_n hx hb dX11_acts_217 rfl (lv_at hl 0 rfl) ?_
              refine z_mVv (Wn := (fun u_17 => cl_X11 cI cJ a u_17)) (As := []) (rest := []) (wr := []) X (c_X11_putsBack l dC dI cI cJ cS a ((1 : Int32), z.2.1, z.2.2.1, z.2.2.2.1, z.2.2.2.2.1, z.2.2.2.2.2.1, z.2.2.2.2.2.2.1, z.2.2.2.2.2.2.2.1, y2, z.2.2.2.2.2.2.2.2.2)  _ hf _) zc_X11_putsBack q_ml_X11_159 ⟨rfl, rfl⟩ ⟨Nat.le_of_ble_eq_true rfl, Nat.le_of_ble_eq_true rfl⟩ hP hD hS hA [0, 1, 2, 3, 4, 5, 6, 7, 8] [] rfl (by decide) rfl (by decide) (by decide) [0, 1, 2, 3, 4, 5, 6, 7, 8] (by decide) (fun _ => rfl) 10 rfl rfl hl.1 rfl rfl (Nat.le_of_ble_eq_true rfl) ⟨Nat.zero_le _, Nat.zero_le _⟩ dX11_acts_218 (fun u_17 H locs hf hP hD hS => ?_)
              refine lv_iconst (v := 0) hx hb dX11_acts_221 (by decide) ?_
              exact z_retMi (Wf := (fun z => cl_X11 cI cJ a z)) (u := u_17) X hf hP hD hS dX11_acts_222
          · have hf := hf.2 c_11
            refine lv_aload_n hx hb dX11_acts_178 rfl (lv_at hl 0 rfl) ?_
            refine lv_iload_n hx hb dX11_acts_179 rfl (lv_at hl 1 rfl) ?_
            refine lv_if_le (tgt := 187) hx hb dX11_acts_180 (by decide) (fun c_18 => ?_) (fun c_18 => ?_)
            · have hf := hf.1 c_18
              refine lv_aload_n hx hb dX11_acts_187 rfl (lv_at hl 0 rfl) ?_
              refine va_get (D := (dC, dI)) (ci := 10) (v := .int z.2.2.2.2.2.2.2.2.1) (C := RX11) (T := TX11) (N := 17) hx hb hts inX11 hown hK hP 0 rfl rfl 8 (by decide) (hts _ q_fl_X11_153) (fun _ h9 => h9) rfl dX11_acts_188 ?_
              refine lv_topi (fun x_19 ex_19 => ?_)
              have hf := hf x_19 ex_19
              refine z_put (w' := cl_X11 cI cJ a ((1 : Int32), z.2.1, z.2.2.1, z.2.2.2.1, z.2.2.2.2.1, z.2.2.2.2.2.1, z.2.2.2.2.2.2.1, z.2.2.2.2.2.2.2.1, x_19, z.2.2.2.2.2.2.2.2.2)) (ci := 10) (v := .int x_19) (ty := .int) (Cn := RX11) (T := TX11) (N := 17) X inX11 tyX11 tyX11_ok nmX11 hP hD hS 0 rfl rfl 8 (by decide) (hts _ q_fl_X11_153) (fun _ h9 => h9) rfl (tyX11_ok 8 (by decide)) rfl rfl (Nat.le_of_ble_eq_true rfl) rfl dX11_acts_191 (fun H locs hP hD hS => ?_)
              refine lv_aload_n hx hb dX11_acts_194 rfl (lv_at hl 0 rfl) ?_
              refine lv_iconst (v := 0) hx hb dX11_acts_195 (by decide) ?_
              refine z_put (w' := cl_X11 cI cJ a ((1 : Int32), z.2.1, z.2.2.1, z.2.2.2.1, z.2.2.2.2.1, z.2.2.2.2.2.1, (0 : Int32), z.2.2.2.2.2.2.2.1, x_19, z.2.2.2.2.2.2.2.2.2)) (ci := 10) (v := .int (0 : Int32)) (ty := .int) (Cn := RX11) (T := TX11) (N := 17) X inX11 tyX11 tyX11_ok nmX11 hP hD hS 0 rfl rfl 6 (by decide) (hts _ q_fl_X11_149) (fun _ h9 => h9) rfl (tyX11_ok 6 (by decide)) rfl rfl (Nat.le_of_ble_eq_true rfl) rfl dX11_acts_196 (fun H locs hP hD hS => ?_)
              refine lv_iload_n hx hb dX11_acts_199 rfl (lv_at hl 1 rfl) ?_
              exact z_retMi (Wf := (fun z => cl_X11 cI cJ a z)) (u := ((1 : Int32), z.2.1, z.2.2.1, z.2.2.2.1, z.2.2.2.2.1, z.2.2.2.2.2.1, (0 : Int32), z.2.2.2.2.2.2.2.1, x_19, z.2.2.2.2.2.2.2.2.2)) X hf hP hD hS dX11_acts_200
            · have hf := hf.2 c_18
              refine lv_iconst (v := 0) hx hb dX11_acts_183 (by decide) ?_
              refine lv_goto (tgt := 191) hx hb dX11_acts_184 (by decide) ?_
              refine z_put (w' := cl_X11 cI cJ a ((1 : Int32), z.2.1, z.2.2.1, z.2.2.2.1, z.2.2.2.2.1, z.2.2.2.2.2.1, z.2.2.2.2.2.2.1, z.2.2.2.2.2.2.2.1, (0 : Int32), z.2.2.2.2.2.2.2.2.2)) (ci := 10) (v := .int (0 : Int32)) (ty := .int) (Cn := RX11) (T := TX11) (N := 17) X inX11 tyX11 tyX11_ok nmX11 hP hD hS 0 rfl rfl 8 (by decide) (hts _ q_fl_X11_153) (fun _ h9 => h9) rfl (tyX11_ok 8 (by decide)) rfl rfl (Nat.le_of_ble_eq_true rfl) rfl dX11_acts_191 (fun H locs hP hD hS => ?_)
              refine lv_aload_n hx hb dX11_acts_194 rfl (lv_at hl 0 rfl) ?_
              refine lv_iconst (v := 0) hx hb dX11_acts_195 (by decide) ?_
              refine z_put (w' := cl_X11 cI cJ a ((1 : Int32), z.2.1, z.2.2.1, z.2.2.2.1, z.2.2.2.2.1, z.2.2.2.2.2.1, (0 : Int32), z.2.2.2.2.2.2.2.1, (0 : Int32), z.2.2.2.2.2.2.2.2.2)) (ci := 10) (v := .int (0 : Int32)) (ty := .int) (Cn := RX11) (T := TX11) (N := 17) X inX11 tyX11 tyX11_ok nmX11 hP hD hS 0 rfl rfl 6 (by decide) (hts _ q_fl_X11_149) (fun _ h9 => h9) rfl (tyX11_ok 6 (by decide)) rfl rfl (Nat.le_of_ble_eq_true rfl) rfl dX11_acts_196 (fun H locs hP hD hS => ?_)
              refine lv_iload_n hx hb dX11_acts_199 rfl (lv_at hl 1 rfl) ?_
              exact z_retMi (Wf := (fun z => cl_X11 cI cJ a z)) (u := ((1 : Int32), z.2.1, z.2.2.1, z.2.2.2.1, z.2.2.2.2.1, z.2.2.2.2.2.1, (0 : Int32), z.2.2.2.2.2.2.2.1, (0 : Int32), z.2.2.2.2.2.2.2.2.2)) X hf hP hD hS dX11_acts_200
        · have hf := hf.2 c_10
          refine lv_iconst (v := 0) hx hb dX11_acts_163 (by decide) ?_
          refine lv_goto (tgt := 168) hx hb dX11_acts_164 (by decide) ?_
          refine z_put (w' := cl_X11 cI cJ a ((0 : Int32), z.2)) (ci := 10) (v := .int (0 : Int32)) (ty := .int) (Cn := RX11) (T := TX11) (N := 17) X inX11 tyX11 tyX11_ok nmX11 hP hD hS 0 rfl rfl 0 (by decide) (hts _ q_fl_X11_43) (fun _ h9 => h9) rfl (tyX11_ok 0 (by decide)) rfl rfl (Nat.le_of_ble_eq_true rfl) rfl dX11_acts_168 (fun H locs hP hD hS => ?_)
          refine lv_aload_n hx hb dX11_acts_171 rfl (lv_at hl 0 rfl) ?_
          refine va_get (D := (dC, dI)) (ci := 10) (v := .int (0 : Int32)) (C := RX11) (T := TX11) (N := 17) hx hb hts inX11 hown hK hP 0 rfl rfl 0 (by decide) (hts _ q_fl_X11_43) (fun _ h9 => h9) rfl dX11_acts_172 ?_
          refine lv_if_ne (tgt := 201) hx hb dX11_acts_175 (by decide) (fun c_20 => ?_) (fun c_20 => ?_)
          · have hf := hf.1 c_20
            refine lv_aload_n hx hb dX11_acts_201 rfl (lv_at hl 0 rfl) ?_
            refine lv_iload_n hx hb dX11_acts_202 rfl (lv_at hl 2 rfl) ?_
            refine lv_if_le (tgt := 210) hx hb dX11_acts_203 (by decide) (fun c_21 => ?_) (fun c_21 => ?_)
            · have hf := hf.1 c_21
              refine lv_aload_n hx hb dX11_acts_210 rfl (lv_at hl 0 rfl) ?_
              refine va_get (D := (dC, dI)) (ci := 10) (v := .int z.2.2.2.2.2.2.2.2.1) (C := RX11) (T := TX11) (N := 17) hx hb hts inX11 hown hK hP 0 rfl rfl 8 (by decide) (hts _ q_fl_X11_153) (fun _ h9 => h9) rfl dX11_acts_211 ?_
              refine lv_topi (fun x_22 ex_22 => ?_)
              have hf := hf x_22 ex_22
              refine z_put (w' := cl_X11 cI cJ a ((0 : Int32), z.2.1, z.2.2.1, z.2.2.2.1, z.2.2.2.2.1, z.2.2.2.2.2.1, z.2.2.2.2.2.2.1, z.2.2.2.2.2.2.2.1, x_22, z.2.2.2.2.2.2.2.2.2)) (ci := 10) (v := .int x_22) (ty := .int) (Cn := RX11) (T := TX11) (N := 17) X inX11 tyX11 tyX11_ok nmX11 hP hD hS 0 rfl rfl 8 (by decide) (hts _ q_fl_X11_153) (fun _ h9 => h9) rfl (tyX11_ok 8 (by decide)) rfl rfl (Nat.le_of_ble_eq_true rfl) rfl dX11_acts_214 (fun H locs hP hD hS => ?_)
              refine lv_aload_n hx hb dX11_acts_217 rfl (lv_at hl 0 rfl) ?_
              refine z_mVv (Wn := (fun u_24 => cl_X11 cI cJ a u_24)) (As := []) (rest := []) (wr := []) X (c_X11_putsBack l dC dI cI cJ cS a ((0 : Int32), z.2.1, z.2.2.1, z.2.2.2.1, z.2.2.2.2.1, z.2.2.2.2.2.1, z.2.2.2.2.2.2.1, z.2.2.2.2.2.2.2.1, x_22, z.2.2.2.2.2.2.2.2.2)  _ hf _) zc_X11_putsBack q_ml_X11_159 ⟨rfl, rfl⟩ ⟨Nat.le_of_ble_eq_true rfl, Nat.le_of_ble_eq_true rfl⟩ hP hD hS hA [0, 1, 2, 3, 4, 5, 6, 7, 8] [] rfl (by decide) rfl (by decide) (by decide) [0, 1, 2, 3, 4, 5, 6, 7, 8] (by decide) (fun _ => rfl) 10 rfl rfl hl.1 rfl rfl (Nat.le_of_ble_eq_true rfl) ⟨Nat.zero_le _, Nat.zero_le _⟩ dX11_acts_218 (fun u_24 H locs hf hP hD hS => ?_)
              refine lv_iconst (v := 0) hx hb dX11_acts_221 (by decide) ?_
              exact z_retMi (Wf := (fun z => cl_X11 cI cJ a z)) (u := u_24) X hf hP hD hS dX11_acts_222
            · have hf := hf.2 c_21
              refine lv_iload_n hx hb dX11_acts_206 rfl (lv_at hl 2 rfl) ?_
              refine lv_goto (tgt := 214) hx hb dX11_acts_207 (by decide) ?_
              refine z_put (w' := cl_X11 cI cJ a ((0 : Int32), z.2.1, z.2.2.1, z.2.2.2.1, z.2.2.2.2.1, z.2.2.2.2.2.1, z.2.2.2.2.2.2.1, z.2.2.2.2.2.2.2.1, y2, z.2.2.2.2.2.2.2.2.2)) (ci := 10) (v := .int y2) (ty := .int) (Cn := RX11) (T := TX11) (N := 17) X inX11 tyX11 tyX11_ok nmX11 hP hD hS 0 rfl rfl 8 (by decide) (hts _ q_fl_X11_153) (fun _ h9 => h9) rfl (tyX11_ok 8 (by decide)) rfl rfl (Nat.le_of_ble_eq_true rfl) rfl dX11_acts_214 (fun H locs hP hD hS => ?_)
              refine lv_aload_n hx hb dX11_acts_217 rfl (lv_at hl 0 rfl) ?_
              refine z_mVv (Wn := (fun u_26 => cl_X11 cI cJ a u_26)) (As := []) (rest := []) (wr := []) X (c_X11_putsBack l dC dI cI cJ cS a ((0 : Int32), z.2.1, z.2.2.1, z.2.2.2.1, z.2.2.2.2.1, z.2.2.2.2.2.1, z.2.2.2.2.2.2.1, z.2.2.2.2.2.2.2.1, y2, z.2.2.2.2.2.2.2.2.2)  _ hf _) zc_X11_putsBack q_ml_X11_159 ⟨rfl, rfl⟩ ⟨Nat.le_of_ble_eq_true rfl, Nat.le_of_ble_eq_true rfl⟩ hP hD hS hA [0, 1, 2, 3, 4, 5, 6, 7, 8] [] rfl (by decide) rfl (by decide) (by decide) [0, 1, 2, 3, 4, 5, 6, 7, 8] (by decide) (fun _ => rfl) 10 rfl rfl hl.1 rfl rfl (Nat.le_of_ble_eq_true rfl) ⟨Nat.zero_le _, Nat.zero_le _⟩ dX11_acts_218 (fun u_26 H locs hf hP hD hS => ?_)
              refine lv_iconst (v := 0) hx hb dX11_acts_221 (by decide) ?_
              exact z_retMi (Wf := (fun z => cl_X11 cI cJ a z)) (u := u_26) X hf hP hD hS dX11_acts_222
          · have hf := hf.2 c_20
            refine lv_aload_n hx hb dX11_acts_178 rfl (lv_at hl 0 rfl) ?_
            refine lv_iload_n hx hb dX11_acts_179 rfl (lv_at hl 1 rfl) ?_
            refine lv_if_le (tgt := 187) hx hb dX11_acts_180 (by decide) (fun c_27 => ?_) (fun c_27 => ?_)
            · have hf := hf.1 c_27
              refine lv_aload_n hx hb dX11_acts_187 rfl (lv_at hl 0 rfl) ?_
              refine va_get (D := (dC, dI)) (ci := 10) (v := .int z.2.2.2.2.2.2.2.2.1) (C := RX11) (T := TX11) (N := 17) hx hb hts inX11 hown hK hP 0 rfl rfl 8 (by decide) (hts _ q_fl_X11_153) (fun _ h9 => h9) rfl dX11_acts_188 ?_
              refine lv_topi (fun x_28 ex_28 => ?_)
              have hf := hf x_28 ex_28
              refine z_put (w' := cl_X11 cI cJ a ((0 : Int32), z.2.1, z.2.2.1, z.2.2.2.1, z.2.2.2.2.1, z.2.2.2.2.2.1, z.2.2.2.2.2.2.1, z.2.2.2.2.2.2.2.1, x_28, z.2.2.2.2.2.2.2.2.2)) (ci := 10) (v := .int x_28) (ty := .int) (Cn := RX11) (T := TX11) (N := 17) X inX11 tyX11 tyX11_ok nmX11 hP hD hS 0 rfl rfl 8 (by decide) (hts _ q_fl_X11_153) (fun _ h9 => h9) rfl (tyX11_ok 8 (by decide)) rfl rfl (Nat.le_of_ble_eq_true rfl) rfl dX11_acts_191 (fun H locs hP hD hS => ?_)
              refine lv_aload_n hx hb dX11_acts_194 rfl (lv_at hl 0 rfl) ?_
              refine lv_iconst (v := 0) hx hb dX11_acts_195 (by decide) ?_
              refine z_put (w' := cl_X11 cI cJ a ((0 : Int32), z.2.1, z.2.2.1, z.2.2.2.1, z.2.2.2.2.1, z.2.2.2.2.2.1, (0 : Int32), z.2.2.2.2.2.2.2.1, x_28, z.2.2.2.2.2.2.2.2.2)) (ci := 10) (v := .int (0 : Int32)) (ty := .int) (Cn := RX11) (T := TX11) (N := 17) X inX11 tyX11 tyX11_ok nmX11 hP hD hS 0 rfl rfl 6 (by decide) (hts _ q_fl_X11_149) (fun _ h9 => h9) rfl (tyX11_ok 6 (by decide)) rfl rfl (Nat.le_of_ble_eq_true rfl) rfl dX11_acts_196 (fun H locs hP hD hS => ?_)
              refine lv_iload_n hx hb dX11_acts_199 rfl (lv_at hl 1 rfl) ?_
              exact z_retMi (Wf := (fun z => cl_X11 cI cJ a z)) (u := ((0 : Int32), z.2.1, z.2.2.1, z.2.2.2.1, z.2.2.2.2.1, z.2.2.2.2.2.1, (0 : Int32), z.2.2.2.2.2.2.2.1, x_28, z.2.2.2.2.2.2.2.2.2)) X hf hP hD hS dX11_acts_200
            · have hf := hf.2 c_27
              refine lv_iconst (v := 0) hx hb dX11_acts_183 (by decide) ?_
              refine lv_goto (tgt := 191) hx hb dX11_acts_184 (by decide) ?_
              refine z_put (w' := cl_X11 cI cJ a ((0 : Int32), z.2.1, z.2.2.1, z.2.2.2.1, z.2.2.2.2.1, z.2.2.2.2.2.1, z.2.2.2.2.2.2.1, z.2.2.2.2.2.2.2.1, (0 : Int32), z.2.2.2.2.2.2.2.2.2)) (ci := 10) (v := .int (0 : Int32)) (ty := .int) (Cn := RX11) (T := TX11) (N := 17) X inX11 tyX11 tyX11_ok nmX11 hP hD hS 0 rfl rfl 8 (by decide) (hts _ q_fl_X11_153) (fun _ h9 => h9) rfl (tyX11_ok 8 (by decide)) rfl rfl (Nat.le_of_ble_eq_true rfl) rfl dX11_acts_191 (fun H locs hP hD hS => ?_)
              refine lv_aload_n hx hb dX11_acts_194 rfl (lv_at hl 0 rfl) ?_
              refine lv_iconst (v := 0) hx hb dX11_acts_195 (by decide) ?_
              refine z_put (w' := cl_X11 cI cJ a ((0 : Int32), z.2.1, z.2.2.1, z.2.2.2.1, z.2.2.2.2.1, z.2.2.2.2.2.1, (0 : Int32), z.2.2.2.2.2.2.2.1, (0 : Int32), z.2.2.2.2.2.2.2.2.2)) (ci := 10) (v := .int (0 : Int32)) (ty := .int) (Cn := RX11) (T := TX11) (N := 17) X inX11 tyX11 tyX11_ok nmX11 hP hD hS 0 rfl rfl 6 (by decide) (hts _ q_fl_X11_149) (fun _ h9 => h9) rfl (tyX11_ok 6 (by decide)) rfl rfl (Nat.le_of_ble_eq_true rfl) rfl dX11_acts_196 (fun H locs hP hD hS => ?_)
              refine lv_iload_n hx hb dX11_acts_199 rfl (lv_at hl 1 rfl) ?_
              exact z_retMi (Wf := (fun z => cl_X11 cI cJ a z)) (u := ((0 : Int32), z.2.1, z.2.2.1, z.2.2.2.1, z.2.2.2.2.1, z.2.2.2.2.2.1, (0 : Int32), z.2.2.2.2.2.2.2.1, (0 : Int32), z.2.2.2.2.2.2.2.2.2)) X hf hP hD hS dX11_acts_200
      · have hf := hf.2 c_9
        refine lv_aload_n hx hb dX11_acts_52 rfl (lv_at hl 0 rfl) ?_
        refine va_get (D := (dC, dI)) (ci := 10) (v := .int z.2.2.2.2.2.2.2.2.2.2.2.2.2.1) (C := RX11) (T := TX11) (N := 17) hx hb hts inX11 hown hK hP 0 rfl rfl 13 (by decide) (hts _ q_fl_X11_29) (fun _ h9 => h9) rfl dX11_acts_53 ?_
        refine lv_iconst (v := (-1)) hx hb dX11_acts_56 (by decide) ?_
        refine lv_icmp_ne (tgt := 154) hx hb dX11_acts_57 (by decide) (fun c_29 => ?_) (fun c_29 => ?_)
        · have hf := hf.1 c_29
          refine lv_aload_n hx hb dX11_acts_154 rfl (lv_at hl 0 rfl) ?_
          refine lv_aload_n hx hb dX11_acts_155 rfl (lv_at hl 0 rfl) ?_
          refine va_get (D := (dC, dI)) (ci := 10) (v := .int z.2.2.2.2.2.2.2.2.2.2.2.2.2.1) (C := RX11) (T := TX11) (N := 17) hx hb hts inX11 hown hK hP 0 rfl rfl 13 (by decide) (hts _ q_fl_X11_29) (fun _ h9 => h9) rfl dX11_acts_156 ?_
          refine lv_iconst (v := (-1)) hx hb dX11_acts_159 (by decide) ?_
          refine lv_icmp_ne (tgt := 167) hx hb dX11_acts_160 (by decide) (fun c_30 => ?_) (fun c_30 => ?_)
          · have hf := hf.1 c_30
            refine lv_iconst (v := 1) hx hb dX11_acts_167 (by decide) ?_
            refine z_put (w' := cl_X11 cI cJ a ((1 : Int32), z.2)) (ci := 10) (v := .int (1 : Int32)) (ty := .int) (Cn := RX11) (T := TX11) (N := 17) X inX11 tyX11 tyX11_ok nmX11 hP hD hS 0 rfl rfl 0 (by decide) (hts _ q_fl_X11_43) (fun _ h9 => h9) rfl (tyX11_ok 0 (by decide)) rfl rfl (Nat.le_of_ble_eq_true rfl) rfl dX11_acts_168 (fun H locs hP hD hS => ?_)
            refine lv_aload_n hx hb dX11_acts_171 rfl (lv_at hl 0 rfl) ?_
            refine va_get (D := (dC, dI)) (ci := 10) (v := .int (1 : Int32)) (C := RX11) (T := TX11) (N := 17) hx hb hts inX11 hown hK hP 0 rfl rfl 0 (by decide) (hts _ q_fl_X11_43) (fun _ h9 => h9) rfl dX11_acts_172 ?_
            refine lv_if_ne (tgt := 201) hx hb dX11_acts_175 (by decide) (fun c_31 => ?_) (fun c_31 => ?_)
            · have hf := hf.1 c_31
              refine lv_aload_n hx hb dX11_acts_201 rfl (lv_at hl 0 rfl) ?_
              refine lv_iload_n hx hb dX11_acts_202 rfl (lv_at hl 2 rfl) ?_
              refine lv_if_le (tgt := 210) hx hb dX11_acts_203 (by decide) (fun c_32 => ?_) (fun c_32 => ?_)
              · have hf := hf.1 c_32
                refine lv_aload_n hx hb dX11_acts_210 rfl (lv_at hl 0 rfl) ?_
                refine va_get (D := (dC, dI)) (ci := 10) (v := .int z.2.2.2.2.2.2.2.2.1) (C := RX11) (T := TX11) (N := 17) hx hb hts inX11 hown hK hP 0 rfl rfl 8 (by decide) (hts _ q_fl_X11_153) (fun _ h9 => h9) rfl dX11_acts_211 ?_
                refine lv_topi (fun x_33 ex_33 => ?_)
                have hf := hf x_33 ex_33
                refine z_put (w' := cl_X11 cI cJ a ((1 : Int32), z.2.1, z.2.2.1, z.2.2.2.1, z.2.2.2.2.1, z.2.2.2.2.2.1, z.2.2.2.2.2.2.1, z.2.2.2.2.2.2.2.1, x_33, z.2.2.2.2.2.2.2.2.2)) (ci := 10) (v := .int x_33) (ty := .int) (Cn := RX11) (T := TX11) (N := 17) X inX11 tyX11 tyX11_ok nmX11 hP hD hS 0 rfl rfl 8 (by decide) (hts _ q_fl_X11_153) (fun _ h9 => h9) rfl (tyX11_ok 8 (by decide)) rfl rfl (Nat.le_of_ble_eq_true rfl) rfl dX11_acts_214 (fun H locs hP hD hS => ?_)
                refine lv_aload_n hx hb dX11_acts_217 rfl (lv_at hl 0 rfl) ?_
                refine z_mVv (Wn := (fun u_35 => cl_X11 cI cJ a u_35)) (As := []) (rest := []) (wr := []) X (c_X11_putsBack l dC dI cI cJ cS a ((1 : Int32), z.2.1, z.2.2.1, z.2.2.2.1, z.2.2.2.2.1, z.2.2.2.2.2.1, z.2.2.2.2.2.2.1, z.2.2.2.2.2.2.2.1, x_33, z.2.2.2.2.2.2.2.2.2)  _ hf _) zc_X11_putsBack q_ml_X11_159 ⟨rfl, rfl⟩ ⟨Nat.le_of_ble_eq_true rfl, Nat.le_of_ble_eq_true rfl⟩ hP hD hS hA [0, 1, 2, 3, 4, 5, 6, 7, 8] [] rfl (by decide) rfl (by decide) (by decide) [0, 1, 2, 3, 4, 5, 6, 7, 8] (by decide) (fun _ => rfl) 10 rfl rfl hl.1 rfl rfl (Nat.le_of_ble_eq_true rfl) ⟨Nat.zero_le _, Nat.zero_le _⟩ dX11_acts_218 (fun u_35 H locs hf hP hD hS => ?_)
                refine lv_iconst (v := 0) hx hb dX11_acts_221 (by decide) ?_
                exact z_retMi (Wf := (fun z => cl_X11 cI cJ a z)) (u := u_35) X hf hP hD hS dX11_acts_222
              · have hf := hf.2 c_32
                refine lv_iload_n hx hb dX11_acts_206 rfl (lv_at hl 2 rfl) ?_
                refine lv_goto (tgt := 214) hx hb dX11_acts_207 (by decide) ?_
                refine z_put (w' := cl_X11 cI cJ a ((1 : Int32), z.2.1, z.2.2.1, z.2.2.2.1, z.2.2.2.2.1, z.2.2.2.2.2.1, z.2.2.2.2.2.2.1, z.2.2.2.2.2.2.2.1, y2, z.2.2.2.2.2.2.2.2.2)) (ci := 10) (v := .int y2) (ty := .int) (Cn := RX11) (T := TX11) (N := 17) X inX11 tyX11 tyX11_ok nmX11 hP hD hS 0 rfl rfl 8 (by decide) (hts _ q_fl_X11_153) (fun _ h9 => h9) rfl (tyX11_ok 8 (by decide)) rfl rfl (Nat.le_of_ble_eq_true rfl) rfl dX11_acts_214 (fun H locs hP hD hS => ?_)
                refine lv_aload_n hx hb dX11_acts_217 rfl (lv_at hl 0 rfl) ?_
                refine z_mVv (Wn := (fun u_37 => cl_X11 cI cJ a u_37)) (As := []) (rest := []) (wr := []) X (c_X11_putsBack l dC dI cI cJ cS a ((1 : Int32), z.2.1, z.2.2.1, z.2.2.2.1, z.2.2.2.2.1, z.2.2.2.2.2.1, z.2.2.2.2.2.2.1, z.2.2.2.2.2.2.2.1, y2, z.2.2.2.2.2.2.2.2.2)  _ hf _) zc_X11_putsBack q_ml_X11_159 ⟨rfl, rfl⟩ ⟨Nat.le_of_ble_eq_true rfl, Nat.le_of_ble_eq_true rfl⟩ hP hD hS hA [0, 1, 2, 3, 4, 5, 6, 7, 8] [] rfl (by decide) rfl (by decide) (by decide) [0, 1, 2, 3, 4, 5, 6, 7, 8] (by decide) (fun _ => rfl) 10 rfl rfl hl.1 rfl rfl (Nat.le_of_ble_eq_true rfl) ⟨Nat.zero_le _, Nat.zero_le _⟩ dX11_acts_218 (fun u_37 H locs hf hP hD hS => ?_)
                refine lv_iconst (v := 0) hx hb dX11_acts_221 (by decide) ?_
                exact z_retMi (Wf := (fun z => cl_X11 cI cJ a z)) (u := u_37) X hf hP hD hS dX11_acts_222
            · have hf := hf.2 c_31
              refine lv_aload_n hx hb dX11_acts_178 rfl (lv_at hl 0 rfl) ?_
              refine lv_iload_n hx hb dX11_acts_179 rfl (lv_at hl 1 rfl) ?_
              refine lv_if_le (tgt := 187) hx hb dX11_acts_180 (by decide) (fun c_38 => ?_) (fun c_38 => ?_)
              · have hf := hf.1 c_38
                refine lv_aload_n hx hb dX11_acts_187 rfl (lv_at hl 0 rfl) ?_
                refine va_get (D := (dC, dI)) (ci := 10) (v := .int z.2.2.2.2.2.2.2.2.1) (C := RX11) (T := TX11) (N := 17) hx hb hts inX11 hown hK hP 0 rfl rfl 8 (by decide) (hts _ q_fl_X11_153) (fun _ h9 => h9) rfl dX11_acts_188 ?_
                refine lv_topi (fun x_39 ex_39 => ?_)
                have hf := hf x_39 ex_39
                refine z_put (w' := cl_X11 cI cJ a ((1 : Int32), z.2.1, z.2.2.1, z.2.2.2.1, z.2.2.2.2.1, z.2.2.2.2.2.1, z.2.2.2.2.2.2.1, z.2.2.2.2.2.2.2.1, x_39, z.2.2.2.2.2.2.2.2.2)) (ci := 10) (v := .int x_39) (ty := .int) (Cn := RX11) (T := TX11) (N := 17) X inX11 tyX11 tyX11_ok nmX11 hP hD hS 0 rfl rfl 8 (by decide) (hts _ q_fl_X11_153) (fun _ h9 => h9) rfl (tyX11_ok 8 (by decide)) rfl rfl (Nat.le_of_ble_eq_true rfl) rfl dX11_acts_191 (fun H locs hP hD hS => ?_)
                refine lv_aload_n hx hb dX11_acts_194 rfl (lv_at hl 0 rfl) ?_
                refine lv_iconst (v := 0) hx hb dX11_acts_195 (by decide) ?_
                refine z_put (w' := cl_X11 cI cJ a ((1 : Int32), z.2.1, z.2.2.1, z.2.2.2.1, z.2.2.2.2.1, z.2.2.2.2.2.1, (0 : Int32), z.2.2.2.2.2.2.2.1, x_39, z.2.2.2.2.2.2.2.2.2)) (ci := 10) (v := .int (0 : Int32)) (ty := .int) (Cn := RX11) (T := TX11) (N := 17) X inX11 tyX11 tyX11_ok nmX11 hP hD hS 0 rfl rfl 6 (by decide) (hts _ q_fl_X11_149) (fun _ h9 => h9) rfl (tyX11_ok 6 (by decide)) rfl rfl (Nat.le_of_ble_eq_true rfl) rfl dX11_acts_196 (fun H locs hP hD hS => ?_)
                refine lv_iload_n hx hb dX11_acts_199 rfl (lv_at hl 1 rfl) ?_
                exact z_retMi (Wf := (fun z => cl_X11 cI cJ a z)) (u := ((1 : Int32), z.2.1, z.2.2.1, z.2.2.2.1, z.2.2.2.2.1, z.2.2.2.2.2.1, (0 : Int32), z.2.2.2.2.2.2.2.1, x_39, z.2.2.2.2.2.2.2.2.2)) X hf hP hD hS dX11_acts_200
              · have hf := hf.2 c_38
                refine lv_iconst (v := 0) hx hb dX11_acts_183 (by decide) ?_
                refine lv_goto (tgt := 191) hx hb dX11_acts_184 (by decide) ?_
                refine z_put (w' := cl_X11 cI cJ a ((1 : Int32), z.2.1, z.2.2.1, z.2.2.2.1, z.2.2.2.2.1, z.2.2.2.2.2.1, z.2.2.2.2.2.2.1, z.2.2.2.2.2.2.2.1, (0 : Int32), z.2.2.2.2.2.2.2.2.2)) (ci := 10) (v := .int (0 : Int32)) (ty := .int) (Cn := RX11) (T := TX11) (N := 17) X inX11 tyX11 tyX11_ok nmX11 hP hD hS 0 rfl rfl 8 (by decide) (hts _ q_fl_X11_153) (fun _ h9 => h9) rfl (tyX11_ok 8 (by decide)) rfl rfl (Nat.le_of_ble_eq_true rfl) rfl dX11_acts_191 (fun H locs hP hD hS => ?_)
                refine lv_aload_n hx hb dX11_acts_194 rfl (lv_at hl 0 rfl) ?_
                refine lv_iconst (v := 0) hx hb dX11_acts_195 (by decide) ?_
                refine z_put (w' := cl_X11 cI cJ a ((1 : Int32), z.2.1, z.2.2.1, z.2.2.2.1, z.2.2.2.2.1, z.2.2.2.2.2.1, (0 : Int32), z.2.2.2.2.2.2.2.1, (0 : Int32), z.2.2.2.2.2.2.2.2.2)) (ci := 10) (v := .int (0 : Int32)) (ty := .int) (Cn := RX11) (T := TX11) (N := 17) X inX11 tyX11 tyX11_ok nmX11 hP hD hS 0 rfl rfl 6 (by decide) (hts _ q_fl_X11_149) (fun _ h9 => h9) rfl (tyX11_ok 6 (by decide)) rfl rfl (Nat.le_of_ble_eq_true rfl) rfl dX11_acts_196 (fun H locs hP hD hS => ?_)
                refine lv_iload_n hx hb dX11_acts_199 rfl (lv_at hl 1 rfl) ?_
                exact z_retMi (Wf := (fun z => cl_X11 cI cJ a z)) (u := ((1 : Int32), z.2.1, z.2.2.1, z.2.2.2.1, z.2.2.2.2.1, z.2.2.2.2.2.1, (0 : Int32), z.2.2.2.2.2.2.2.1, (0 : Int32), z.2.2.2.2.2.2.2.2.2)) X hf hP hD hS dX11_acts_200
          · have hf := hf.2 c_30
            refine lv_iconst (v := 0) hx hb dX11_acts_163 (by decide) ?_
            refine lv_goto (tgt := 168) hx hb dX11_acts_164 (by decide) ?_
            refine z_put (w' := cl_X11 cI cJ a ((0 : Int32), z.2)) (ci := 10) (v := .int (0 : Int32)) (ty := .int) (Cn := RX11) (T := TX11) (N := 17) X inX11 tyX11 tyX11_ok nmX11 hP hD hS 0 rfl rfl 0 (by decide) (hts _ q_fl_X11_43) (fun _ h9 => h9) rfl (tyX11_ok 0 (by decide)) rfl rfl (Nat.le_of_ble_eq_true rfl) rfl dX11_acts_168 (fun H locs hP hD hS => ?_)
            refine lv_aload_n hx hb dX11_acts_171 rfl (lv_at hl 0 rfl) ?_
            refine va_get (D := (dC, dI)) (ci := 10) (v := .int (0 : Int32)) (C := RX11) (T := TX11) (N := 17) hx hb hts inX11 hown hK hP 0 rfl rfl 0 (by decide) (hts _ q_fl_X11_43) (fun _ h9 => h9) rfl dX11_acts_172 ?_
            refine lv_if_ne (tgt := 201) hx hb dX11_acts_175 (by decide) (fun c_40 => ?_) (fun c_40 => ?_)
            · have hf := hf.1 c_40
              refine lv_aload_n hx hb dX11_acts_201 rfl (lv_at hl 0 rfl) ?_
              refine lv_iload_n hx hb dX11_acts_202 rfl (lv_at hl 2 rfl) ?_
              refine lv_if_le (tgt := 210) hx hb dX11_acts_203 (by decide) (fun c_41 => ?_) (fun c_41 => ?_)
              · have hf := hf.1 c_41
                refine lv_aload_n hx hb dX11_acts_210 rfl (lv_at hl 0 rfl) ?_
                refine va_get (D := (dC, dI)) (ci := 10) (v := .int z.2.2.2.2.2.2.2.2.1) (C := RX11) (T := TX11) (N := 17) hx hb hts inX11 hown hK hP 0 rfl rfl 8 (by decide) (hts _ q_fl_X11_153) (fun _ h9 => h9) rfl dX11_acts_211 ?_
                refine lv_topi (fun x_42 ex_42 => ?_)
                have hf := hf x_42 ex_42
                refine z_put (w' := cl_X11 cI cJ a ((0 : Int32), z.2.1, z.2.2.1, z.2.2.2.1, z.2.2.2.2.1, z.2.2.2.2.2.1, z.2.2.2.2.2.2.1, z.2.2.2.2.2.2.2.1, x_42, z.2.2.2.2.2.2.2.2.2)) (ci := 10) (v := .int x_42) (ty := .int) (Cn := RX11) (T := TX11) (N := 17) X inX11 tyX11 tyX11_ok nmX11 hP hD hS 0 rfl rfl 8 (by decide) (hts _ q_fl_X11_153) (fun _ h9 => h9) rfl (tyX11_ok 8 (by decide)) rfl rfl (Nat.le_of_ble_eq_true rfl) rfl dX11_acts_214 (fun H locs hP hD hS => ?_)
                refine lv_aload_n hx hb dX11_acts_217 rfl (lv_at hl 0 rfl) ?_
                refine z_mVv (Wn := (fun u_44 => cl_X11 cI cJ a u_44)) (As := []) (rest := []) (wr := []) X (c_X11_putsBack l dC dI cI cJ cS a ((0 : Int32), z.2.1, z.2.2.1, z.2.2.2.1, z.2.2.2.2.1, z.2.2.2.2.2.1, z.2.2.2.2.2.2.1, z.2.2.2.2.2.2.2.1, x_42, z.2.2.2.2.2.2.2.2.2)  _ hf _) zc_X11_putsBack q_ml_X11_159 ⟨rfl, rfl⟩ ⟨Nat.le_of_ble_eq_true rfl, Nat.le_of_ble_eq_true rfl⟩ hP hD hS hA [0, 1, 2, 3, 4, 5, 6, 7, 8] [] rfl (by decide) rfl (by decide) (by decide) [0, 1, 2, 3, 4, 5, 6, 7, 8] (by decide) (fun _ => rfl) 10 rfl rfl hl.1 rfl rfl (Nat.le_of_ble_eq_true rfl) ⟨Nat.zero_le _, Nat.zero_le _⟩ dX11_acts_218 (fun u_44 H locs hf hP hD hS => ?_)
                refine lv_iconst (v := 0) hx hb dX11_acts_221 (by decide) ?_
                exact z_retMi (Wf := (fun z => cl_X11 cI cJ a z)) (u := u_44) X hf hP hD hS dX11_acts_222
              · have hf := hf.2 c_41
                refine lv_iload_n hx hb dX11_acts_206 rfl (lv_at hl 2 rfl) ?_
                refine lv_goto (tgt := 214) hx hb dX11_acts_207 (by decide) ?_
                refine z_put (w' := cl_X11 cI cJ a ((0 : Int32), z.2.1, z.2.2.1, z.2.2.2.1, z.2.2.2.2.1, z.2.2.2.2.2.1, z.2.2.2.2.2.2.1, z.2.2.2.2.2.2.2.1, y2, z.2.2.2.2.2.2.2.2.2)) (ci := 10) (v := .int y2) (ty := .int) (Cn := RX11) (T := TX11) (N := 17) X inX11 tyX11 tyX11_ok nmX11 hP hD hS 0 rfl rfl 8 (by decide) (hts _ q_fl_X11_153) (fun _ h9 => h9) rfl (tyX11_ok 8 (by decide)) rfl rfl (Nat.le_of_ble_eq_true rfl) rfl dX11_acts_214 (fun H locs hP hD hS => ?_)
                refine lv_aload_n hx hb dX11_acts_217 rfl (lv_at hl 0 rfl) ?_
                refine z_mVv (Wn := (fun u_46 => cl_X11 cI cJ a u_46)) (As := []) (rest := []) (wr := []) X (c_X11_putsBack l dC dI cI cJ cS a ((0 : Int32), z.2.1, z.2.2.1, z.2.2.2.1, z.2.2.2.2.1, z.2.2.2.2.2.1, z.2.2.2.2.2.2.1, z.2.2.2.2.2.2.2.1, y2, z.2.2.2.2.2.2.2.2.2)  _ hf _) zc_X11_putsBack q_ml_X11_159 ⟨rfl, rfl⟩ ⟨Nat.le_of_ble_eq_true rfl, Nat.le_of_ble_eq_true rfl⟩ hP hD hS hA [0, 1, 2, 3, 4, 5, 6, 7, 8] [] rfl (by decide) rfl (by decide) (by decide) [0, 1, 2, 3, 4, 5, 6, 7, 8] (by decide) (fun _ => rfl) 10 rfl rfl hl.1 rfl rfl (Nat.le_of_ble_eq_true rfl) ⟨Nat.zero_le _, Nat.zero_le _⟩ dX11_acts_218 (fun u_46 H locs hf hP hD hS => ?_)
                refine lv_iconst (v := 0) hx hb dX11_acts_221 (by decide) ?_
                exact z_retMi (Wf := (fun z => cl_X11 cI cJ a z)) (u := u_46) X hf hP hD hS dX11_acts_222
            · have hf := hf.2 c_40
              refine lv_aload_n hx hb dX11_acts_178 rfl (lv_at hl 0 rfl) ?_
              refine lv_iload_n hx hb dX11_acts_179 rfl (lv_at hl 1 rfl) ?_
              refine lv_if_le (tgt := 187) hx hb dX11_acts_180 (by decide) (fun c_47 => ?_) (fun c_47 => ?_)
              · have hf := hf.1 c_47
                refine lv_aload_n hx hb dX11_acts_187 rfl (lv_at hl 0 rfl) ?_
                refine va_get (D := (dC, dI)) (ci := 10) (v := .int z.2.2.2.2.2.2.2.2.1) (C := RX11) (T := TX11) (N := 17) hx hb hts inX11 hown hK hP 0 rfl rfl 8 (by decide) (hts _ q_fl_X11_153) (fun _ h9 => h9) rfl dX11_acts_188 ?_
                refine lv_topi (fun x_48 ex_48 => ?_)
                have hf := hf x_48 ex_48
                refine z_put (w' := cl_X11 cI cJ a ((0 : Int32), z.2.1, z.2.2.1, z.2.2.2.1, z.2.2.2.2.1, z.2.2.2.2.2.1, z.2.2.2.2.2.2.1, z.2.2.2.2.2.2.2.1, x_48, z.2.2.2.2.2.2.2.2.2)) (ci := 10) (v := .int x_48) (ty := .int) (Cn := RX11) (T := TX11) (N := 17) X inX11 tyX11 tyX11_ok nmX11 hP hD hS 0 rfl rfl 8 (by decide) (hts _ q_fl_X11_153) (fun _ h9 => h9) rfl (tyX11_ok 8 (by decide)) rfl rfl (Nat.le_of_ble_eq_true rfl) rfl dX11_acts_191 (fun H locs hP hD hS => ?_)
                refine lv_aload_n hx hb dX11_acts_194 rfl (lv_at hl 0 rfl) ?_
                refine lv_iconst (v := 0) hx hb dX11_acts_195 (by decide) ?_
                refine z_put (w' := cl_X11 cI cJ a ((0 : Int32), z.2.1, z.2.2.1, z.2.2.2.1, z.2.2.2.2.1, z.2.2.2.2.2.1, (0 : Int32), z.2.2.2.2.2.2.2.1, x_48, z.2.2.2.2.2.2.2.2.2)) (ci := 10) (v := .int (0 : Int32)) (ty := .int) (Cn := RX11) (T := TX11) (N := 17) X inX11 tyX11 tyX11_ok nmX11 hP hD hS 0 rfl rfl 6 (by decide) (hts _ q_fl_X11_149) (fun _ h9 => h9) rfl (tyX11_ok 6 (by decide)) rfl rfl (Nat.le_of_ble_eq_true rfl) rfl dX11_acts_196 (fun H locs hP hD hS => ?_)
                refine lv_iload_n hx hb dX11_acts_199 rfl (lv_at hl 1 rfl) ?_
                exact z_retMi (Wf := (fun z => cl_X11 cI cJ a z)) (u := ((0 : Int32), z.2.1, z.2.2.1, z.2.2.2.1, z.2.2.2.2.1, z.2.2.2.2.2.1, (0 : Int32), z.2.2.2.2.2.2.2.1, x_48, z.2.2.2.2.2.2.2.2.2)) X hf hP hD hS dX11_acts_200
              · have hf := hf.2 c_47
                refine lv_iconst (v := 0) hx hb dX11_acts_183 (by decide) ?_
                refine lv_goto (tgt := 191) hx hb dX11_acts_184 (by decide) ?_
                refine z_put (w' := cl_X11 cI cJ a ((0 : Int32), z.2.1, z.2.2.1, z.2.2.2.1, z.2.2.2.2.1, z.2.2.2.2.2.1, z.2.2.2.2.2.2.1, z.2.2.2.2.2.2.2.1, (0 : Int32), z.2.2.2.2.2.2.2.2.2)) (ci := 10) (v := .int (0 : Int32)) (ty := .int) (Cn := RX11) (T := TX11) (N := 17) X inX11 tyX11 tyX11_ok nmX11 hP hD hS 0 rfl rfl 8 (by decide) (hts _ q_fl_X11_153) (fun _ h9 => h9) rfl (tyX11_ok 8 (by decide)) rfl rfl (Nat.le_of_ble_eq_true rfl) rfl dX11_acts_191 (fun H locs hP hD hS => ?_)
                refine lv_aload_n hx hb dX11_acts_194 rfl (lv_at hl 0 rfl) ?_
                refine lv_iconst (v := 0) hx hb dX11_acts_195 (by decide) ?_
                refine z_put (w' := cl_X11 cI cJ a ((0 : Int32), z.2.1, z.2.2.1, z.2.2.2.1, z.2.2.2.2.1, z.2.2.2.2.2.1, (0 : Int32), z.2.2.2.2.2.2.2.1, (0 : Int32), z.2.2.2.2.2.2.2.2.2)) (ci := 10) (v := .int (0 : Int32)) (ty := .int) (Cn := RX11) (T := TX11) (N := 17) X inX11 tyX11 tyX11_ok nmX11 hP hD hS 0 rfl rfl 6 (by decide) (hts _ q_fl_X11_149) (fun _ h9 => h9) rfl (tyX11_ok 6 (by decide)) rfl rfl (Nat.le_of_ble_eq_true rfl) rfl dX11_acts_196 (fun H locs hP hD hS => ?_)
                refine lv_iload_n hx hb dX11_acts_199 rfl (lv_at hl 1 rfl) ?_
                exact z_retMi (Wf := (fun z => cl_X11 cI cJ a z)) (u := ((0 : Int32), z.2.1, z.2.2.1, z.2.2.2.1, z.2.2.2.2.1, z.2.2.2.2.2.1, (0 : Int32), z.2.2.2.2.2.2.2.1, (0 : Int32), z.2.2.2.2.2.2.2.2.2)) X hf hP hD hS dX11_acts_200
        · have hf := hf.2 c_29
          refine lv_iload_n hx hb dX11_acts_60 rfl (lv_at hl 1 rfl) ?_
          refine lv_bipush (v := 14) hx hb dX11_acts_61 (by decide) ?_
          refine lv_icmp_ne (tgt := 74) hx hb dX11_acts_63 (by decide) (fun c_49 => ?_) (fun c_49 => ?_)
          · have hf := hf.1 c_49
            refine lv_aload_n hx hb dX11_acts_74 rfl (lv_at hl 0 rfl) ?_
            refine va_get (D := (dC, dI)) (ci := 10) (v := .int z.2.2.2.2.2.2.2.2.2.2.2.2.2.1) (C := RX11) (T := TX11) (N := 17) hx hb hts inX11 hown hK hP 0 rfl rfl 13 (by decide) (hts _ q_fl_X11_29) (fun _ h9 => h9) rfl dX11_acts_75 ?_
            refine lv_iconst (v := (-1)) hx hb dX11_acts_78 (by decide) ?_
            refine lv_icmp_ne (tgt := 87) hx hb dX11_acts_79 (by decide) (fun c_50 => ?_) (fun c_50 => ?_)
            · have hf := hf.1 c_50
              obtain ⟨x_51, ex_51⟩ : ∃ y : Int32, y = y1 + (1 : Int32) := ⟨_, rfl⟩
              have hf := hf x_51 ex_51
              refine lv_iinc (v := x_51) (lv' := [(1, .int x_51), (0, .ref (a 0)), (2, .int y2), (3, .int y3)]) hx hb dX11_acts_87 hl (k := 1) rfl (by rw [ex_51]; rfl) (by decide) rfl (fun ls hl => ?_)
              refine lv_aload_n hx hb dX11_acts_90 rfl (lv_at hl 1 rfl) ?_
              refine z_mVi (Wn := (fun u_53 => cl_X11 cI cJ a u_53)) (As := []) (rest := []) (wr := []) X (c_X11_here l dC dI cI cJ cS a z  _ hf _) zc_X11_here q_ml_X11_175 ⟨rfl, rfl⟩ ⟨Nat.le_of_ble_eq_true rfl, Nat.le_of_ble_eq_true rfl⟩ hP hD hS hA [0, 1, 2, 3, 4, 5, 6, 7, 8] [] rfl (by decide) rfl (by decide) (by decide) [0, 1, 2, 3, 4, 5, 6, 7, 8] (by decide) (fun _ => rfl) 10 rfl rfl hl.1 rfl rfl (Nat.le_of_ble_eq_true rfl) ⟨Nat.zero_le _, Nat.zero_le _⟩ dX11_acts_91 (fun r_52 u_53 H locs hf hP hD hS => ?_)
              refine lv_aload_n hx hb dX11_acts_94 rfl (lv_at hl 1 rfl) ?_
              refine va_get (D := (dC, dI)) (ci := 10) (v := .int u_53.2.2.2.2.2.2.2.2.2.2.2.1) (C := RX11) (T := TX11) (N := 17) hx hb hts inX11 hown hK hP 0 rfl rfl 11 (by decide) (hts _ q_fl_X11_172) (fun _ h9 => h9) rfl dX11_acts_95 ?_
              refine lv_icmp_ge (tgt := 105) hx hb dX11_acts_98 (by decide) (fun c_54 => ?_) (fun c_54 => ?_)
              · have hf := hf.1 c_54
                refine lv_iconst (v := 0) hx hb dX11_acts_105 (by decide) ?_
                refine lv_istore_n (lv' := [(3, .int (0 : Int32)), (1, .int x_51), (0, .ref (a 0)), (2, .int y2)]) hx hb dX11_acts_106 rfl hl (by decide) rfl (fun ls hl => ?_)
                refine lv_iload_n hx hb dX11_acts_107 rfl (lv_at hl 0 rfl) ?_
                refine lv_if_eq (tgt := 48) hx hb dX11_acts_108 (by decide) (fun c_55 => ?_) (fun c_55 => ?_)
                · have hf := hf.1 c_55
                  obtain ⟨k_56, hk_56, hf⟩ := hf
                  exact (ih k_56 hk_56) _ _ _ u_53 _ _ ls hf hP hD hS (lv_sub hl [2, 1, 3, 0] rfl)
                · have hf := hf.2 c_55
                  refine lv_aload_n hx hb dX11_acts_111 rfl (lv_at hl 2 rfl) ?_
                  refine va_get (D := (dC, dI)) (ci := 10) (v := .int u_53.2.2.2.2.2.2.2.2.2.2.2.2.2.1) (C := RX11) (T := TX11) (N := 17) hx hb hts inX11 hown hK hP 0 rfl rfl 13 (by decide) (hts _ q_fl_X11_29) (fun _ h9 => h9) rfl dX11_acts_112 ?_
                  refine lv_iconst (v := (-1)) hx hb dX11_acts_115 (by decide) ?_
                  refine lv_icmp_ne (tgt := 48) hx hb dX11_acts_116 (by decide) (fun c_57 => ?_) (fun c_57 => ?_)
                  · have hf := hf.1 c_57
                    obtain ⟨k_58, hk_58, hf⟩ := hf
                    exact (ih k_58 hk_58) _ _ _ u_53 _ _ ls hf hP hD hS (lv_sub hl [2, 1, 3, 0] rfl)
                  · have hf := hf.2 c_57
                    refine lv_aload_n hx hb dX11_acts_119 rfl (lv_at hl 2 rfl) ?_
                    refine va_get (D := (dC, dI)) (ci := 10) (v := .ref (a 6)) (C := RX11) (T := TX11) (N := 17) hx hb hts inX11 hown hK hP 0 rfl rfl 9 (by decide) (hts _ q_fl_X11_26) (fun _ h9 => h9) rfl dX11_acts_120 ?_
                    refine lv_aload_n hx hb dX11_acts_123 rfl (lv_at hl 2 rfl) ?_
                    refine va_get (D := (dC, dI)) (ci := 10) (v := .int u_53.2.2.2.2.2.2.2.2.2.2.2.2.1) (C := RX11) (T := TX11) (N := 17) hx hb hts inX11 hown hK hP 0 rfl rfl 12 (by decide) (hts _ q_fl_X11_169) (fun _ h9 => h9) rfl dX11_acts_124 ?_
                    obtain ⟨hg, hf⟩ := hf
                    refine va_iald hx hb hK hP 6 0 rfl rfl hg dX11_acts_127 ?_
                    refine lv_bipush (v := 59) hx hb dX11_acts_128 (by decide) ?_
                    refine lv_icmp_eq (tgt := 141) hx hb dX11_acts_130 (by decide) (fun c_59 => ?_) (fun c_59 => ?_)
                    · have hf := hf.1 c_59
                      refine lv_aload_n hx hb dX11_acts_141 rfl (lv_at hl 2 rfl) ?_
                      refine lv_dup hx hb dX11_acts_142 rfl ?_
                      refine va_get (D := (dC, dI)) (ci := 10) (v := .int u_53.2.2.2.2.2.2.2.2.2.2.2.2.1) (C := RX11) (T := TX11) (N := 17) hx hb hts inX11 hown hK hP 0 rfl rfl 12 (by decide) (hts _ q_fl_X11_169) (fun _ h9 => h9) rfl dX11_acts_143 ?_
                      refine lv_iconst (v := 1) hx hb dX11_acts_146 (by decide) ?_
                      refine lv_iadd hx hb dX11_acts_147 ?_
                      refine lv_topi (fun x_60 ex_60 => ?_)
                      have hf := hf x_60 ex_60
                      refine z_put (w' := cl_X11 cI cJ a (u_53.1, u_53.2.1, u_53.2.2.1, u_53.2.2.2.1, u_53.2.2.2.2.1, u_53.2.2.2.2.2.1, u_53.2.2.2.2.2.2.1, u_53.2.2.2.2.2.2.2.1, u_53.2.2.2.2.2.2.2.2.1, u_53.2.2.2.2.2.2.2.2.2.1, u_53.2.2.2.2.2.2.2.2.2.2.1, u_53.2.2.2.2.2.2.2.2.2.2.2.1, x_60, u_53.2.2.2.2.2.2.2.2.2.2.2.2.2)) (ci := 10) (v := .int x_60) (ty := .int) (Cn := RX11) (T := TX11) (N := 17) X inX11 tyX11 tyX11_ok nmX11 hP hD hS 0 rfl rfl 12 (by decide) (hts _ q_fl_X11_169) (fun _ h9 => h9) rfl (tyX11_ok 12 (by decide)) rfl rfl (Nat.le_of_ble_eq_true rfl) rfl dX11_acts_148 (fun H locs hP hD hS => ?_)
                      refine lv_goto (tgt := 48) hx hb dX11_acts_151 (by decide) ?_
                      obtain ⟨k_61, hk_61, hf⟩ := hf
                      exact (ih k_61 hk_61) _ _ _ (u_53.1, u_53.2.1, u_53.2.2.1, u_53.2.2.2.1, u_53.2.2.2.2.1, u_53.2.2.2.2.2.1, u_53.2.2.2.2.2.2.1, u_53.2.2.2.2.2.2.2.1, u_53.2.2.2.2.2.2.2.2.1, u_53.2.2.2.2.2.2.2.2.2.1, u_53.2.2.2.2.2.2.2.2.2.2.1, u_53.2.2.2.2.2.2.2.2.2.2.2.1, x_60, u_53.2.2.2.2.2.2.2.2.2.2.2.2.2) _ _ ls hf hP hD hS (lv_sub hl [2, 1, 3, 0] rfl)
                    · have hf := hf.2 c_59
                      refine lv_aload_n hx hb dX11_acts_133 rfl (lv_at hl 2 rfl) ?_
                      refine lv_aload_n hx hb dX11_acts_134 rfl (lv_at hl 2 rfl) ?_
                      refine va_get (D := (dC, dI)) (ci := 10) (v := .int u_53.2.2.2.2.2.2.2.2.2.2.2.2.1) (C := RX11) (T := TX11) (N := 17) hx hb hts inX11 hown hK hP 0 rfl rfl 12 (by decide) (hts _ q_fl_X11_169) (fun _ h9 => h9) rfl dX11_acts_135 ?_
                      refine z_mVv (Wn := (fun u_63 => cl_X11 cI cJ a u_63)) (As := [.int u_53.2.2.2.2.2.2.2.2.2.2.2.2.1]) (rest := []) (wr := []) X (c_X11_wrong l dC dI cI cJ cS a u_53 u_53.2.2.2.2.2.2.2.2.2.2.2.2.1 _ hf _) zc_X11_wrong q_ml_X11_187 ⟨rfl, rfl⟩ ⟨Nat.le_of_ble_eq_true rfl, Nat.le_of_ble_eq_true rfl⟩ hP hD hS hA [0, 1, 2, 3, 4, 5, 6, 7, 8] [] rfl (by decide) rfl (by decide) (by decide) [0, 1, 2, 3, 4, 5, 6, 7, 8] (by decide) (fun _ => rfl) 10 rfl rfl hl.1 rfl rfl (Nat.le_of_ble_eq_true rfl) ⟨Nat.zero_le _, Nat.zero_le _⟩ dX11_acts_138 (fun u_63 H locs hf hP hD hS => ?_)
                      refine lv_aload_n hx hb dX11_acts_141 rfl (lv_at hl 2 rfl) ?_
                      refine lv_dup hx hb dX11_acts_142 rfl ?_
                      refine va_get (D := (dC, dI)) (ci := 10) (v := .int u_63.2.2.2.2.2.2.2.2.2.2.2.2.1) (C := RX11) (T := TX11) (N := 17) hx hb hts inX11 hown hK hP 0 rfl rfl 12 (by decide) (hts _ q_fl_X11_169) (fun _ h9 => h9) rfl dX11_acts_143 ?_
                      refine lv_iconst (v := 1) hx hb dX11_acts_146 (by decide) ?_
                      refine lv_iadd hx hb dX11_acts_147 ?_
                      refine lv_topi (fun x_64 ex_64 => ?_)
                      have hf := hf x_64 ex_64
                      refine z_put (w' := cl_X11 cI cJ a (u_63.1, u_63.2.1, u_63.2.2.1, u_63.2.2.2.1, u_63.2.2.2.2.1, u_63.2.2.2.2.2.1, u_63.2.2.2.2.2.2.1, u_63.2.2.2.2.2.2.2.1, u_63.2.2.2.2.2.2.2.2.1, u_63.2.2.2.2.2.2.2.2.2.1, u_63.2.2.2.2.2.2.2.2.2.2.1, u_63.2.2.2.2.2.2.2.2.2.2.2.1, x_64, u_63.2.2.2.2.2.2.2.2.2.2.2.2.2)) (ci := 10) (v := .int x_64) (ty := .int) (Cn := RX11) (T := TX11) (N := 17) X inX11 tyX11 tyX11_ok nmX11 hP hD hS 0 rfl rfl 12 (by decide) (hts _ q_fl_X11_169) (fun _ h9 => h9) rfl (tyX11_ok 12 (by decide)) rfl rfl (Nat.le_of_ble_eq_true rfl) rfl dX11_acts_148 (fun H locs hP hD hS => ?_)
                      refine lv_goto (tgt := 48) hx hb dX11_acts_151 (by decide) ?_
                      obtain ⟨k_65, hk_65, hf⟩ := hf
                      exact (ih k_65 hk_65) _ _ _ (u_63.1, u_63.2.1, u_63.2.2.1, u_63.2.2.2.1, u_63.2.2.2.2.1, u_63.2.2.2.2.2.1, u_63.2.2.2.2.2.2.1, u_63.2.2.2.2.2.2.2.1, u_63.2.2.2.2.2.2.2.2.1, u_63.2.2.2.2.2.2.2.2.2.1, u_63.2.2.2.2.2.2.2.2.2.2.1, u_63.2.2.2.2.2.2.2.2.2.2.2.1, x_64, u_63.2.2.2.2.2.2.2.2.2.2.2.2.2) _ _ ls hf hP hD hS (lv_sub hl [2, 1, 3, 0] rfl)
              · have hf := hf.2 c_54
                refine lv_iconst (v := 1) hx hb dX11_acts_101 (by decide) ?_
                refine lv_goto (tgt := 106) hx hb dX11_acts_102 (by decide) ?_
                refine lv_istore_n (lv' := [(3, .int (1 : Int32)), (1, .int x_51), (0, .ref (a 0)), (2, .int y2)]) hx hb dX11_acts_106 rfl hl (by decide) rfl (fun ls hl => ?_)
                refine lv_iload_n hx hb dX11_acts_107 rfl (lv_at hl 0 rfl) ?_
                refine lv_if_eq (tgt := 48) hx hb dX11_acts_108 (by decide) (fun c_66 => ?_) (fun c_66 => ?_)
                · have hf := hf.1 c_66
                  obtain ⟨k_67, hk_67, hf⟩ := hf
                  exact (ih k_67 hk_67) _ _ _ u_53 _ _ ls hf hP hD hS (lv_sub hl [2, 1, 3, 0] rfl)
                · have hf := hf.2 c_66
                  refine lv_aload_n hx hb dX11_acts_111 rfl (lv_at hl 2 rfl) ?_
                  refine va_get (D := (dC, dI)) (ci := 10) (v := .int u_53.2.2.2.2.2.2.2.2.2.2.2.2.2.1) (C := RX11) (T := TX11) (N := 17) hx hb hts inX11 hown hK hP 0 rfl rfl 13 (by decide) (hts _ q_fl_X11_29) (fun _ h9 => h9) rfl dX11_acts_112 ?_
                  refine lv_iconst (v := (-1)) hx hb dX11_acts_115 (by decide) ?_
                  refine lv_icmp_ne (tgt := 48) hx hb dX11_acts_116 (by decide) (fun c_68 => ?_) (fun c_68 => ?_)
                  · have hf := hf.1 c_68
                    obtain ⟨k_69, hk_69, hf⟩ := hf
                    exact (ih k_69 hk_69) _ _ _ u_53 _ _ ls hf hP hD hS (lv_sub hl [2, 1, 3, 0] rfl)
                  · have hf := hf.2 c_68
                    refine lv_aload_n hx hb dX11_acts_119 rfl (lv_at hl 2 rfl) ?_
                    refine va_get (D := (dC, dI)) (ci := 10) (v := .ref (a 6)) (C := RX11) (T := TX11) (N := 17) hx hb hts inX11 hown hK hP 0 rfl rfl 9 (by decide) (hts _ q_fl_X11_26) (fun _ h9 => h9) rfl dX11_acts_120 ?_
                    refine lv_aload_n hx hb dX11_acts_123 rfl (lv_at hl 2 rfl) ?_
                    refine va_get (D := (dC, dI)) (ci := 10) (v := .int u_53.2.2.2.2.2.2.2.2.2.2.2.2.1) (C := RX11) (T := TX11) (N := 17) hx hb hts inX11 hown hK hP 0 rfl rfl 12 (by decide) (hts _ q_fl_X11_169) (fun _ h9 => h9) rfl dX11_acts_124 ?_
                    obtain ⟨hg, hf⟩ := hf
                    refine va_iald hx hb hK hP 6 0 rfl rfl hg dX11_acts_127 ?_
                    refine lv_bipush (v := 59) hx hb dX11_acts_128 (by decide) ?_
                    refine lv_icmp_eq (tgt := 141) hx hb dX11_acts_130 (by decide) (fun c_70 => ?_) (fun c_70 => ?_)
                    · have hf := hf.1 c_70
                      refine lv_aload_n hx hb dX11_acts_141 rfl (lv_at hl 2 rfl) ?_
                      refine lv_dup hx hb dX11_acts_142 rfl ?_
                      refine va_get (D := (dC, dI)) (ci := 10) (v := .int u_53.2.2.2.2.2.2.2.2.2.2.2.2.1) (C := RX11) (T := TX11) (N := 17) hx hb hts inX11 hown hK hP 0 rfl rfl 12 (by decide) (hts _ q_fl_X11_169) (fun _ h9 => h9) rfl dX11_acts_143 ?_
                      refine lv_iconst (v := 1) hx hb dX11_acts_146 (by decide) ?_
                      refine lv_iadd hx hb dX11_acts_147 ?_
                      refine lv_topi (fun x_71 ex_71 => ?_)
                      have hf := hf x_71 ex_71
                      refine z_put (w' := cl_X11 cI cJ a (u_53.1, u_53.2.1, u_53.2.2.1, u_53.2.2.2.1, u_53.2.2.2.2.1, u_53.2.2.2.2.2.1, u_53.2.2.2.2.2.2.1, u_53.2.2.2.2.2.2.2.1, u_53.2.2.2.2.2.2.2.2.1, u_53.2.2.2.2.2.2.2.2.2.1, u_53.2.2.2.2.2.2.2.2.2.2.1, u_53.2.2.2.2.2.2.2.2.2.2.2.1, x_71, u_53.2.2.2.2.2.2.2.2.2.2.2.2.2)) (ci := 10) (v := .int x_71) (ty := .int) (Cn := RX11) (T := TX11) (N := 17) X inX11 tyX11 tyX11_ok nmX11 hP hD hS 0 rfl rfl 12 (by decide) (hts _ q_fl_X11_169) (fun _ h9 => h9) rfl (tyX11_ok 12 (by decide)) rfl rfl (Nat.le_of_ble_eq_true rfl) rfl dX11_acts_148 (fun H locs hP hD hS => ?_)
                      refine lv_goto (tgt := 48) hx hb dX11_acts_151 (by decide) ?_
                      obtain ⟨k_72, hk_72, hf⟩ := hf
                      exact (ih k_72 hk_72) _ _ _ (u_53.1, u_53.2.1, u_53.2.2.1, u_53.2.2.2.1, u_53.2.2.2.2.1, u_53.2.2.2.2.2.1, u_53.2.2.2.2.2.2.1, u_53.2.2.2.2.2.2.2.1, u_53.2.2.2.2.2.2.2.2.1, u_53.2.2.2.2.2.2.2.2.2.1, u_53.2.2.2.2.2.2.2.2.2.2.1, u_53.2.2.2.2.2.2.2.2.2.2.2.1, x_71, u_53.2.2.2.2.2.2.2.2.2.2.2.2.2) _ _ ls hf hP hD hS (lv_sub hl [2, 1, 3, 0] rfl)
                    · have hf := hf.2 c_70
                      refine lv_aload_n hx hb dX11_acts_133 rfl (lv_at hl 2 rfl) ?_
                      refine lv_aload_n hx hb dX11_acts_134 rfl (lv_at hl 2 rfl) ?_
                      refine va_get (D := (dC, dI)) (ci := 10) (v := .int u_53.2.2.2.2.2.2.2.2.2.2.2.2.1) (C := RX11) (T := TX11) (N := 17) hx hb hts inX11 hown hK hP 0 rfl rfl 12 (by decide) (hts _ q_fl_X11_169) (fun _ h9 => h9) rfl dX11_acts_135 ?_
                      refine z_mVv (Wn := (fun u_74 => cl_X11 cI cJ a u_74)) (As := [.int u_53.2.2.2.2.2.2.2.2.2.2.2.2.1]) (rest := []) (wr := []) X (c_X11_wrong l dC dI cI cJ cS a u_53 u_53.2.2.2.2.2.2.2.2.2.2.2.2.1 _ hf _) zc_X11_wrong q_ml_X11_187 ⟨rfl, rfl⟩ ⟨Nat.le_of_ble_eq_true rfl, Nat.le_of_ble_eq_true rfl⟩ hP hD hS hA [0, 1, 2, 3, 4, 5, 6, 7, 8] [] rfl (by decide) rfl (by decide) (by decide) [0, 1, 2, 3, 4, 5, 6, 7, 8] (by decide) (fun _ => rfl) 10 rfl rfl hl.1 rfl rfl (Nat.le_of_ble_eq_true rfl) ⟨Nat.zero_le _, Nat.zero_le _⟩ dX11_acts_138 (fun u_74 H locs hf hP hD hS => ?_)
                      refine lv_aload_n hx hb dX11_acts_141 rfl (lv_at hl 2 rfl) ?_
                      refine lv_dup hx hb dX11_acts_142 rfl ?_
                      refine va_get (D := (dC, dI)) (ci := 10) (v := .int u_74.2.2.2.2.2.2.2.2.2.2.2.2.1) (C := RX11) (T := TX11) (N := 17) hx hb hts inX11 hown hK hP 0 rfl rfl 12 (by decide) (hts _ q_fl_X11_169) (fun _ h9 => h9) rfl dX11_acts_143 ?_
                      refine lv_iconst (v := 1) hx hb dX11_acts_146 (by decide) ?_
                      refine lv_iadd hx hb dX11_acts_147 ?_
                      refine lv_topi (fun x_75 ex_75 => ?_)
                      have hf := hf x_75 ex_75
                      refine z_put (w' := cl_X11 cI cJ a (u_74.1, u_74.2.1, u_74.2.2.1, u_74.2.2.2.1, u_74.2.2.2.2.1, u_74.2.2.2.2.2.1, u_74.2.2.2.2.2.2.1, u_74.2.2.2.2.2.2.2.1, u_74.2.2.2.2.2.2.2.2.1, u_74.2.2.2.2.2.2.2.2.2.1, u_74.2.2.2.2.2.2.2.2.2.2.1, u_74.2.2.2.2.2.2.2.2.2.2.2.1, x_75, u_74.2.2.2.2.2.2.2.2.2.2.2.2.2)) (ci := 10) (v := .int x_75) (ty := .int) (Cn := RX11) (T := TX11) (N := 17) X inX11 tyX11 tyX11_ok nmX11 hP hD hS 0 rfl rfl 12 (by decide) (hts _ q_fl_X11_169) (fun _ h9 => h9) rfl (tyX11_ok 12 (by decide)) rfl rfl (Nat.le_of_ble_eq_true rfl) rfl dX11_acts_148 (fun H locs hP hD hS => ?_)
                      refine lv_goto (tgt := 48) hx hb dX11_acts_151 (by decide) ?_
                      obtain ⟨k_76, hk_76, hf⟩ := hf
                      exact (ih k_76 hk_76) _ _ _ (u_74.1, u_74.2.1, u_74.2.2.1, u_74.2.2.2.1, u_74.2.2.2.2.1, u_74.2.2.2.2.2.1, u_74.2.2.2.2.2.2.1, u_74.2.2.2.2.2.2.2.1, u_74.2.2.2.2.2.2.2.2.1, u_74.2.2.2.2.2.2.2.2.2.1, u_74.2.2.2.2.2.2.2.2.2.2.1, u_74.2.2.2.2.2.2.2.2.2.2.2.1, x_75, u_74.2.2.2.2.2.2.2.2.2.2.2.2.2) _ _ ls hf hP hD hS (lv_sub hl [2, 1, 3, 0] rfl)
            · have hf := hf.2 c_50
              refine lv_aload_n hx hb dX11_acts_82 rfl (lv_at hl 0 rfl) ?_
              refine z_mViF (Wn := (fun u_78 => cl_X11 cI cJ a u_78)) (As := []) (rest := []) (wr := []) X fro_Fz hF (c_X11_act l dC dI cI cJ cS a z  _ hf _) zc_X11_act q_ml_X11_251 ⟨rfl, rfl⟩ ⟨Nat.le_of_ble_eq_true rfl, Nat.le_of_ble_eq_true rfl⟩ hP hD hS hA [0, 1, 2, 3, 4, 5, 6, 7, 8] [] rfl (by decide) rfl (by decide) (by decide) [0, 1, 2, 3, 4, 5, 6, 7, 8] (by decide) (fun _ => rfl) 10 rfl rfl hl.1 rfl rfl (Nat.le_of_ble_eq_true rfl) ⟨Nat.zero_le _, Nat.zero_le _⟩ dX11_acts_83 (fun r_77 u_78 H locs hf hP hD hS => ?_)
              refine lv_istore_n (lv' := [(2, .int r_77), (0, .ref (a 0)), (1, .int y1), (3, .int y3)]) hx hb dX11_acts_86 rfl hl (by decide) rfl (fun ls hl => ?_)
              obtain ⟨x_79, ex_79⟩ : ∃ y : Int32, y = y1 + (1 : Int32) := ⟨_, rfl⟩
              have hf := hf x_79 ex_79
              refine lv_iinc (v := x_79) (lv' := [(1, .int x_79), (2, .int r_77), (0, .ref (a 0)), (3, .int y3)]) hx hb dX11_acts_87 hl (k := 2) rfl (by rw [ex_79]; rfl) (by decide) rfl (fun ls hl => ?_)
              refine lv_aload_n hx hb dX11_acts_90 rfl (lv_at hl 2 rfl) ?_
              refine z_mVi (Wn := (fun u_81 => cl_X11 cI cJ a u_81)) (As := []) (rest := []) (wr := []) X (c_X11_here l dC dI cI cJ cS a u_78  _ hf _) zc_X11_here q_ml_X11_175 ⟨rfl, rfl⟩ ⟨Nat.le_of_ble_eq_true rfl, Nat.le_of_ble_eq_true rfl⟩ hP hD hS hA [0, 1, 2, 3, 4, 5, 6, 7, 8] [] rfl (by decide) rfl (by decide) (by decide) [0, 1, 2, 3, 4, 5, 6, 7, 8] (by decide) (fun _ => rfl) 10 rfl rfl hl.1 rfl rfl (Nat.le_of_ble_eq_true rfl) ⟨Nat.zero_le _, Nat.zero_le _⟩ dX11_acts_91 (fun r_80 u_81 H locs hf hP hD hS => ?_)
              refine lv_aload_n hx hb dX11_acts_94 rfl (lv_at hl 2 rfl) ?_
              refine va_get (D := (dC, dI)) (ci := 10) (v := .int u_81.2.2.2.2.2.2.2.2.2.2.2.1) (C := RX11) (T := TX11) (N := 17) hx hb hts inX11 hown hK hP 0 rfl rfl 11 (by decide) (hts _ q_fl_X11_172) (fun _ h9 => h9) rfl dX11_acts_95 ?_
              refine lv_icmp_ge (tgt := 105) hx hb dX11_acts_98 (by decide) (fun c_82 => ?_) (fun c_82 => ?_)
              · have hf := hf.1 c_82
                refine lv_iconst (v := 0) hx hb dX11_acts_105 (by decide) ?_
                refine lv_istore_n (lv' := [(3, .int (0 : Int32)), (1, .int x_79), (2, .int r_77), (0, .ref (a 0))]) hx hb dX11_acts_106 rfl hl (by decide) rfl (fun ls hl => ?_)
                refine lv_iload_n hx hb dX11_acts_107 rfl (lv_at hl 0 rfl) ?_
                refine lv_if_eq (tgt := 48) hx hb dX11_acts_108 (by decide) (fun c_83 => ?_) (fun c_83 => ?_)
                · have hf := hf.1 c_83
                  obtain ⟨k_84, hk_84, hf⟩ := hf
                  exact (ih k_84 hk_84) _ _ _ u_81 _ _ ls hf hP hD hS (lv_sub hl [3, 1, 2, 0] rfl)
                · have hf := hf.2 c_83
                  refine lv_aload_n hx hb dX11_acts_111 rfl (lv_at hl 3 rfl) ?_
                  refine va_get (D := (dC, dI)) (ci := 10) (v := .int u_81.2.2.2.2.2.2.2.2.2.2.2.2.2.1) (C := RX11) (T := TX11) (N := 17) hx hb hts inX11 hown hK hP 0 rfl rfl 13 (by decide) (hts _ q_fl_X11_29) (fun _ h9 => h9) rfl dX11_acts_112 ?_
                  refine lv_iconst (v := (-1)) hx hb dX11_acts_115 (by decide) ?_
                  refine lv_icmp_ne (tgt := 48) hx hb dX11_acts_116 (by decide) (fun c_85 => ?_) (fun c_85 => ?_)
                  · have hf := hf.1 c_85
                    obtain ⟨k_86, hk_86, hf⟩ := hf
                    exact (ih k_86 hk_86) _ _ _ u_81 _ _ ls hf hP hD hS (lv_sub hl [3, 1, 2, 0] rfl)
                  · have hf := hf.2 c_85
                    refine lv_aload_n hx hb dX11_acts_119 rfl (lv_at hl 3 rfl) ?_
                    refine va_get (D := (dC, dI)) (ci := 10) (v := .ref (a 6)) (C := RX11) (T := TX11) (N := 17) hx hb hts inX11 hown hK hP 0 rfl rfl 9 (by decide) (hts _ q_fl_X11_26) (fun _ h9 => h9) rfl dX11_acts_120 ?_
                    refine lv_aload_n hx hb dX11_acts_123 rfl (lv_at hl 3 rfl) ?_
                    refine va_get (D := (dC, dI)) (ci := 10) (v := .int u_81.2.2.2.2.2.2.2.2.2.2.2.2.1) (C := RX11) (T := TX11) (N := 17) hx hb hts inX11 hown hK hP 0 rfl rfl 12 (by decide) (hts _ q_fl_X11_169) (fun _ h9 => h9) rfl dX11_acts_124 ?_
                    obtain ⟨hg, hf⟩ := hf
                    refine va_iald hx hb hK hP 6 0 rfl rfl hg dX11_acts_127 ?_
                    refine lv_bipush (v := 59) hx hb dX11_acts_128 (by decide) ?_
                    refine lv_icmp_eq (tgt := 141) hx hb dX11_acts_130 (by decide) (fun c_87 => ?_) (fun c_87 => ?_)
                    · have hf := hf.1 c_87
                      refine lv_aload_n hx hb dX11_acts_141 rfl (lv_at hl 3 rfl) ?_
                      refine lv_dup hx hb dX11_acts_142 rfl ?_
                      refine va_get (D := (dC, dI)) (ci := 10) (v := .int u_81.2.2.2.2.2.2.2.2.2.2.2.2.1) (C := RX11) (T := TX11) (N := 17) hx hb hts inX11 hown hK hP 0 rfl rfl 12 (by decide) (hts _ q_fl_X11_169) (fun _ h9 => h9) rfl dX11_acts_143 ?_
                      refine lv_iconst (v := 1) hx hb dX11_acts_146 (by decide) ?_
                      refine lv_iadd hx hb dX11_acts_147 ?_
                      refine lv_topi (fun x_88 ex_88 => ?_)
                      have hf := hf x_88 ex_88
                      refine z_put (w' := cl_X11 cI cJ a (u_81.1, u_81.2.1, u_81.2.2.1, u_81.2.2.2.1, u_81.2.2.2.2.1, u_81.2.2.2.2.2.1, u_81.2.2.2.2.2.2.1, u_81.2.2.2.2.2.2.2.1, u_81.2.2.2.2.2.2.2.2.1, u_81.2.2.2.2.2.2.2.2.2.1, u_81.2.2.2.2.2.2.2.2.2.2.1, u_81.2.2.2.2.2.2.2.2.2.2.2.1, x_88, u_81.2.2.2.2.2.2.2.2.2.2.2.2.2)) (ci := 10) (v := .int x_88) (ty := .int) (Cn := RX11) (T := TX11) (N := 17) X inX11 tyX11 tyX11_ok nmX11 hP hD hS 0 rfl rfl 12 (by decide) (hts _ q_fl_X11_169) (fun _ h9 => h9) rfl (tyX11_ok 12 (by decide)) rfl rfl (Nat.le_of_ble_eq_true rfl) rfl dX11_acts_148 (fun H locs hP hD hS => ?_)
                      refine lv_goto (tgt := 48) hx hb dX11_acts_151 (by decide) ?_
                      obtain ⟨k_89, hk_89, hf⟩ := hf
                      exact (ih k_89 hk_89) _ _ _ (u_81.1, u_81.2.1, u_81.2.2.1, u_81.2.2.2.1, u_81.2.2.2.2.1, u_81.2.2.2.2.2.1, u_81.2.2.2.2.2.2.1, u_81.2.2.2.2.2.2.2.1, u_81.2.2.2.2.2.2.2.2.1, u_81.2.2.2.2.2.2.2.2.2.1, u_81.2.2.2.2.2.2.2.2.2.2.1, u_81.2.2.2.2.2.2.2.2.2.2.2.1, x_88, u_81.2.2.2.2.2.2.2.2.2.2.2.2.2) _ _ ls hf hP hD hS (lv_sub hl [3, 1, 2, 0] rfl)
                    · have hf := hf.2 c_87
                      refine lv_aload_n hx hb dX11_acts_133 rfl (lv_at hl 3 rfl) ?_
                      refine lv_aload_n hx hb dX11_acts_134 rfl (lv_at hl 3 rfl) ?_
                      refine va_get (D := (dC, dI)) (ci := 10) (v := .int u_81.2.2.2.2.2.2.2.2.2.2.2.2.1) (C := RX11) (T := TX11) (N := 17) hx hb hts inX11 hown hK hP 0 rfl rfl 12 (by decide) (hts _ q_fl_X11_169) (fun _ h9 => h9) rfl dX11_acts_135 ?_
                      refine z_mVv (Wn := (fun u_91 => cl_X11 cI cJ a u_91)) (As := [.int u_81.2.2.2.2.2.2.2.2.2.2.2.2.1]) (rest := []) (wr := []) X (c_X11_wrong l dC dI cI cJ cS a u_81 u_81.2.2.2.2.2.2.2.2.2.2.2.2.1 _ hf _) zc_X11_wrong q_ml_X11_187 ⟨rfl, rfl⟩ ⟨Nat.le_of_ble_eq_true rfl, Nat.le_of_ble_eq_true rfl⟩ hP hD hS hA [0, 1, 2, 3, 4, 5, 6, 7, 8] [] rfl (by decide) rfl (by decide) (by decide) [0, 1, 2, 3, 4, 5, 6, 7, 8] (by decide) (fun _ => rfl) 10 rfl rfl hl.1 rfl rfl (Nat.le_of_ble_eq_true rfl) ⟨Nat.zero_le _, Nat.zero_le _⟩ dX11_acts_138 (fun u_91 H locs hf hP hD hS => ?_)
                      refine lv_aload_n hx hb dX11_acts_141 rfl (lv_at hl 3 rfl) ?_
                      refine lv_dup hx hb dX11_acts_142 rfl ?_
                      refine va_get (D := (dC, dI)) (ci := 10) (v := .int u_91.2.2.2.2.2.2.2.2.2.2.2.2.1) (C := RX11) (T := TX11) (N := 17) hx hb hts inX11 hown hK hP 0 rfl rfl 12 (by decide) (hts _ q_fl_X11_169) (fun _ h9 => h9) rfl dX11_acts_143 ?_
                      refine lv_iconst (v := 1) hx hb dX11_acts_146 (by decide) ?_
                      refine lv_iadd hx hb dX11_acts_147 ?_
                      refine lv_topi (fun x_92 ex_92 => ?_)
                      have hf := hf x_92 ex_92
                      refine z_put (w' := cl_X11 cI cJ a (u_91.1, u_91.2.1, u_91.2.2.1, u_91.2.2.2.1, u_91.2.2.2.2.1, u_91.2.2.2.2.2.1, u_91.2.2.2.2.2.2.1, u_91.2.2.2.2.2.2.2.1, u_91.2.2.2.2.2.2.2.2.1, u_91.2.2.2.2.2.2.2.2.2.1, u_91.2.2.2.2.2.2.2.2.2.2.1, u_91.2.2.2.2.2.2.2.2.2.2.2.1, x_92, u_91.2.2.2.2.2.2.2.2.2.2.2.2.2)) (ci := 10) (v := .int x_92) (ty := .int) (Cn := RX11) (T := TX11) (N := 17) X inX11 tyX11 tyX11_ok nmX11 hP hD hS 0 rfl rfl 12 (by decide) (hts _ q_fl_X11_169) (fun _ h9 => h9) rfl (tyX11_ok 12 (by decide)) rfl rfl (Nat.le_of_ble_eq_true rfl) rfl dX11_acts_148 (fun H locs hP hD hS => ?_)
                      refine lv_goto (tgt := 48) hx hb dX11_acts_151 (by decide) ?_
                      obtain ⟨k_93, hk_93, hf⟩ := hf
                      exact (ih k_93 hk_93) _ _ _ (u_91.1, u_91.2.1, u_91.2.2.1, u_91.2.2.2.1, u_91.2.2.2.2.1, u_91.2.2.2.2.2.1, u_91.2.2.2.2.2.2.1, u_91.2.2.2.2.2.2.2.1, u_91.2.2.2.2.2.2.2.2.1, u_91.2.2.2.2.2.2.2.2.2.1, u_91.2.2.2.2.2.2.2.2.2.2.1, u_91.2.2.2.2.2.2.2.2.2.2.2.1, x_92, u_91.2.2.2.2.2.2.2.2.2.2.2.2.2) _ _ ls hf hP hD hS (lv_sub hl [3, 1, 2, 0] rfl)
              · have hf := hf.2 c_82
                refine lv_iconst (v := 1) hx hb dX11_acts_101 (by decide) ?_
                refine lv_goto (tgt := 106) hx hb dX11_acts_102 (by decide) ?_
                refine lv_istore_n (lv' := [(3, .int (1 : Int32)), (1, .int x_79), (2, .int r_77), (0, .ref (a 0))]) hx hb dX11_acts_106 rfl hl (by decide) rfl (fun ls hl => ?_)
                refine lv_iload_n hx hb dX11_acts_107 rfl (lv_at hl 0 rfl) ?_
                refine lv_if_eq (tgt := 48) hx hb dX11_acts_108 (by decide) (fun c_94 => ?_) (fun c_94 => ?_)
                · have hf := hf.1 c_94
                  obtain ⟨k_95, hk_95, hf⟩ := hf
                  exact (ih k_95 hk_95) _ _ _ u_81 _ _ ls hf hP hD hS (lv_sub hl [3, 1, 2, 0] rfl)
                · have hf := hf.2 c_94
                  refine lv_aload_n hx hb dX11_acts_111 rfl (lv_at hl 3 rfl) ?_
                  refine va_get (D := (dC, dI)) (ci := 10) (v := .int u_81.2.2.2.2.2.2.2.2.2.2.2.2.2.1) (C := RX11) (T := TX11) (N := 17) hx hb hts inX11 hown hK hP 0 rfl rfl 13 (by decide) (hts _ q_fl_X11_29) (fun _ h9 => h9) rfl dX11_acts_112 ?_
                  refine lv_iconst (v := (-1)) hx hb dX11_acts_115 (by decide) ?_
                  refine lv_icmp_ne (tgt := 48) hx hb dX11_acts_116 (by decide) (fun c_96 => ?_) (fun c_96 => ?_)
                  · have hf := hf.1 c_96
                    obtain ⟨k_97, hk_97, hf⟩ := hf
                    exact (ih k_97 hk_97) _ _ _ u_81 _ _ ls hf hP hD hS (lv_sub hl [3, 1, 2, 0] rfl)
                  · have hf := hf.2 c_96
                    refine lv_aload_n hx hb dX11_acts_119 rfl (lv_at hl 3 rfl) ?_
                    refine va_get (D := (dC, dI)) (ci := 10) (v := .ref (a 6)) (C := RX11) (T := TX11) (N := 17) hx hb hts inX11 hown hK hP 0 rfl rfl 9 (by decide) (hts _ q_fl_X11_26) (fun _ h9 => h9) rfl dX11_acts_120 ?_
                    refine lv_aload_n hx hb dX11_acts_123 rfl (lv_at hl 3 rfl) ?_
                    refine va_get (D := (dC, dI)) (ci := 10) (v := .int u_81.2.2.2.2.2.2.2.2.2.2.2.2.1) (C := RX11) (T := TX11) (N := 17) hx hb hts inX11 hown hK hP 0 rfl rfl 12 (by decide) (hts _ q_fl_X11_169) (fun _ h9 => h9) rfl dX11_acts_124 ?_
                    obtain ⟨hg, hf⟩ := hf
                    refine va_iald hx hb hK hP 6 0 rfl rfl hg dX11_acts_127 ?_
                    refine lv_bipush (v := 59) hx hb dX11_acts_128 (by decide) ?_
                    refine lv_icmp_eq (tgt := 141) hx hb dX11_acts_130 (by decide) (fun c_98 => ?_) (fun c_98 => ?_)
                    · have hf := hf.1 c_98
                      refine lv_aload_n hx hb dX11_acts_141 rfl (lv_at hl 3 rfl) ?_
                      refine lv_dup hx hb dX11_acts_142 rfl ?_
                      refine va_get (D := (dC, dI)) (ci := 10) (v := .int u_81.2.2.2.2.2.2.2.2.2.2.2.2.1) (C := RX11) (T := TX11) (N := 17) hx hb hts inX11 hown hK hP 0 rfl rfl 12 (by decide) (hts _ q_fl_X11_169) (fun _ h9 => h9) rfl dX11_acts_143 ?_
                      refine lv_iconst (v := 1) hx hb dX11_acts_146 (by decide) ?_
                      refine lv_iadd hx hb dX11_acts_147 ?_
                      refine lv_topi (fun x_99 ex_99 => ?_)
                      have hf := hf x_99 ex_99
                      refine z_put (w' := cl_X11 cI cJ a (u_81.1, u_81.2.1, u_81.2.2.1, u_81.2.2.2.1, u_81.2.2.2.2.1, u_81.2.2.2.2.2.1, u_81.2.2.2.2.2.2.1, u_81.2.2.2.2.2.2.2.1, u_81.2.2.2.2.2.2.2.2.1, u_81.2.2.2.2.2.2.2.2.2.1, u_81.2.2.2.2.2.2.2.2.2.2.1, u_81.2.2.2.2.2.2.2.2.2.2.2.1, x_99, u_81.2.2.2.2.2.2.2.2.2.2.2.2.2)) (ci := 10) (v := .int x_99) (ty := .int) (Cn := RX11) (T := TX11) (N := 17) X inX11 tyX11 tyX11_ok nmX11 hP hD hS 0 rfl rfl 12 (by decide) (hts _ q_fl_X11_169) (fun _ h9 => h9) rfl (tyX11_ok 12 (by decide)) rfl rfl (Nat.le_of_ble_eq_true rfl) rfl dX11_acts_148 (fun H locs hP hD hS => ?_)
                      refine lv_goto (tgt := 48) hx hb dX11_acts_151 (by decide) ?_
                      obtain ⟨k_100, hk_100, hf⟩ := hf
                      exact (ih k_100 hk_100) _ _ _ (u_81.1, u_81.2.1, u_81.2.2.1, u_81.2.2.2.1, u_81.2.2.2.2.1, u_81.2.2.2.2.2.1, u_81.2.2.2.2.2.2.1, u_81.2.2.2.2.2.2.2.1, u_81.2.2.2.2.2.2.2.2.1, u_81.2.2.2.2.2.2.2.2.2.1, u_81.2.2.2.2.2.2.2.2.2.2.1, u_81.2.2.2.2.2.2.2.2.2.2.2.1, x_99, u_81.2.2.2.2.2.2.2.2.2.2.2.2.2) _ _ ls hf hP hD hS (lv_sub hl [3, 1, 2, 0] rfl)
                    · have hf := hf.2 c_98
                      refine lv_aload_n hx hb dX11_acts_133 rfl (lv_at hl 3 rfl) ?_
                      refine lv_aload_n hx hb dX11_acts_134 rfl (lv_at hl 3 rfl) ?_
                      refine va_get (D := (dC, dI)) (ci := 10) (v := .int u_81.2.2.2.2.2.2.2.2.2.2.2.2.1) (C := RX11) (T := TX11) (N := 17) hx hb hts inX11 hown hK hP 0 rfl rfl 12 (by decide) (hts _ q_fl_X11_169) (fun _ h9 => h9) rfl dX11_acts_135 ?_
                      refine z_mVv (Wn := (fun u_102 => cl_X11 cI cJ a u_102)) (As := [.int u_81.2.2.2.2.2.2.2.2.2.2.2.2.1]) (rest := []) (wr := []) X (c_X11_wrong l dC dI cI cJ cS a u_81 u_81.2.2.2.2.2.2.2.2.2.2.2.2.1 _ hf _) zc_X11_wrong q_ml_X11_187 ⟨rfl, rfl⟩ ⟨Nat.le_of_ble_eq_true rfl, Nat.le_of_ble_eq_true rfl⟩ hP hD hS hA [0, 1, 2, 3, 4, 5, 6, 7, 8] [] rfl (by decide) rfl (by decide) (by decide) [0, 1, 2, 3, 4, 5, 6, 7, 8] (by decide) (fun _ => rfl) 10 rfl rfl hl.1 rfl rfl (Nat.le_of_ble_eq_true rfl) ⟨Nat.zero_le _, Nat.zero_le _⟩ dX11_acts_138 (fun u_102 H locs hf hP hD hS => ?_)
                      refine lv_aload_n hx hb dX11_acts_141 rfl (lv_at hl 3 rfl) ?_
                      refine lv_dup hx hb dX11_acts_142 rfl ?_
                      refine va_get (D := (dC, dI)) (ci := 10) (v := .int u_102.2.2.2.2.2.2.2.2.2.2.2.2.1) (C := RX11) (T := TX11) (N := 17) hx hb hts inX11 hown hK hP 0 rfl rfl 12 (by decide) (hts _ q_fl_X11_169) (fun _ h9 => h9) rfl dX11_acts_143 ?_
                      refine lv_iconst (v := 1) hx hb dX11_acts_146 (by decide) ?_
                      refine lv_iadd hx hb dX11_acts_147 ?_
                      refine lv_topi (fun x_103 ex_103 => ?_)
                      have hf := hf x_103 ex_103
                      refine z_put (w' := cl_X11 cI cJ a (u_102.1, u_102.2.1, u_102.2.2.1, u_102.2.2.2.1, u_102.2.2.2.2.1, u_102.2.2.2.2.2.1, u_102.2.2.2.2.2.2.1, u_102.2.2.2.2.2.2.2.1, u_102.2.2.2.2.2.2.2.2.1, u_102.2.2.2.2.2.2.2.2.2.1, u_102.2.2.2.2.2.2.2.2.2.2.1, u_102.2.2.2.2.2.2.2.2.2.2.2.1, x_103, u_102.2.2.2.2.2.2.2.2.2.2.2.2.2)) (ci := 10) (v := .int x_103) (ty := .int) (Cn := RX11) (T := TX11) (N := 17) X inX11 tyX11 tyX11_ok nmX11 hP hD hS 0 rfl rfl 12 (by decide) (hts _ q_fl_X11_169) (fun _ h9 => h9) rfl (tyX11_ok 12 (by decide)) rfl rfl (Nat.le_of_ble_eq_true rfl) rfl dX11_acts_148 (fun H locs hP hD hS => ?_)
                      refine lv_goto (tgt := 48) hx hb dX11_acts_151 (by decide) ?_
                      obtain ⟨k_104, hk_104, hf⟩ := hf
                      exact (ih k_104 hk_104) _ _ _ (u_102.1, u_102.2.1, u_102.2.2.1, u_102.2.2.2.1, u_102.2.2.2.2.1, u_102.2.2.2.2.2.1, u_102.2.2.2.2.2.2.1, u_102.2.2.2.2.2.2.2.1, u_102.2.2.2.2.2.2.2.2.1, u_102.2.2.2.2.2.2.2.2.2.1, u_102.2.2.2.2.2.2.2.2.2.2.1, u_102.2.2.2.2.2.2.2.2.2.2.2.1, x_103, u_102.2.2.2.2.2.2.2.2.2.2.2.2.2) _ _ ls hf hP hD hS (lv_sub hl [3, 1, 2, 0] rfl)
          · have hf := hf.2 c_49
            refine lv_aload_n hx hb dX11_acts_66 rfl (lv_at hl 0 rfl) ?_
            refine lv_aload_n hx hb dX11_acts_67 rfl (lv_at hl 0 rfl) ?_
            refine z_mVi (Wn := (fun u_106 => cl_X11 cI cJ a u_106)) (As := []) (rest := [.ref (a 0)]) (wr := []) X (c_X11_here l dC dI cI cJ cS a z  _ hf _) zc_X11_here q_ml_X11_175 ⟨rfl, rfl⟩ ⟨Nat.le_of_ble_eq_true rfl, Nat.le_of_ble_eq_true rfl⟩ hP hD hS hA [0, 1, 2, 3, 4, 5, 6, 7, 8] [] rfl (by decide) rfl (by decide) (by decide) [0, 1, 2, 3, 4, 5, 6, 7, 8] (by decide) (fun _ => rfl) 10 rfl rfl hl.1 rfl rfl (Nat.le_of_ble_eq_true rfl) ⟨Nat.zero_le _, Nat.zero_le _⟩ dX11_acts_68 (fun r_105 u_106 H locs hf hP hD hS => ?_)
            refine z_mVv (Wn := (fun u_108 => cl_X11 cI cJ a u_108)) (As := [.int r_105]) (rest := []) (wr := []) X (c_X11_wrong l dC dI cI cJ cS a u_106 r_105 _ hf _) zc_X11_wrong q_ml_X11_187 ⟨rfl, rfl⟩ ⟨Nat.le_of_ble_eq_true rfl, Nat.le_of_ble_eq_true rfl⟩ hP hD hS hA [0, 1, 2, 3, 4, 5, 6, 7, 8] [] rfl (by decide) rfl (by decide) (by decide) [0, 1, 2, 3, 4, 5, 6, 7, 8] (by decide) (fun _ => rfl) 10 rfl rfl hl.1 rfl rfl (Nat.le_of_ble_eq_true rfl) ⟨Nat.zero_le _, Nat.zero_le _⟩ dX11_acts_71 (fun u_108 H locs hf hP hD hS => ?_)
            refine lv_aload_n hx hb dX11_acts_74 rfl (lv_at hl 0 rfl) ?_
            refine va_get (D := (dC, dI)) (ci := 10) (v := .int u_108.2.2.2.2.2.2.2.2.2.2.2.2.2.1) (C := RX11) (T := TX11) (N := 17) hx hb hts inX11 hown hK hP 0 rfl rfl 13 (by decide) (hts _ q_fl_X11_29) (fun _ h9 => h9) rfl dX11_acts_75 ?_
            refine lv_iconst (v := (-1)) hx hb dX11_acts_78 (by decide) ?_
            refine lv_icmp_ne (tgt := 87) hx hb dX11_acts_79 (by decide) (fun c_109 => ?_) (fun c_109 => ?_)
            · have hf := hf.1 c_109
              obtain ⟨x_110, ex_110⟩ : ∃ y : Int32, y = y1 + (1 : Int32) := ⟨_, rfl⟩
              have hf := hf x_110 ex_110
              refine lv_iinc (v := x_110) (lv' := [(1, .int x_110), (0, .ref (a 0)), (2, .int y2), (3, .int y3)]) hx hb dX11_acts_87 hl (k := 1) rfl (by rw [ex_110]; rfl) (by decide) rfl (fun ls hl => ?_)
              refine lv_aload_n hx hb dX11_acts_90 rfl (lv_at hl 1 rfl) ?_
              refine z_mVi (Wn := (fun u_112 => cl_X11 cI cJ a u_112)) (As := []) (rest := []) (wr := []) X (c_X11_here l dC dI cI cJ cS a u_108  _ hf _) zc_X11_here q_ml_X11_175 ⟨rfl, rfl⟩ ⟨Nat.le_of_ble_eq_true rfl, Nat.le_of_ble_eq_true rfl⟩ hP hD hS hA [0, 1, 2, 3, 4, 5, 6, 7, 8] [] rfl (by decide) rfl (by decide) (by decide) [0, 1, 2, 3, 4, 5, 6, 7, 8] (by decide) (fun _ => rfl) 10 rfl rfl hl.1 rfl rfl (Nat.le_of_ble_eq_true rfl) ⟨Nat.zero_le _, Nat.zero_le _⟩ dX11_acts_91 (fun r_111 u_112 H locs hf hP hD hS => ?_)
              refine lv_aload_n hx hb dX11_acts_94 rfl (lv_at hl 1 rfl) ?_
              refine va_get (D := (dC, dI)) (ci := 10) (v := .int u_112.2.2.2.2.2.2.2.2.2.2.2.1) (C := RX11) (T := TX11) (N := 17) hx hb hts inX11 hown hK hP 0 rfl rfl 11 (by decide) (hts _ q_fl_X11_172) (fun _ h9 => h9) rfl dX11_acts_95 ?_
              refine lv_icmp_ge (tgt := 105) hx hb dX11_acts_98 (by decide) (fun c_113 => ?_) (fun c_113 => ?_)
              · have hf := hf.1 c_113
                refine lv_iconst (v := 0) hx hb dX11_acts_105 (by decide) ?_
                refine lv_istore_n (lv' := [(3, .int (0 : Int32)), (1, .int x_110), (0, .ref (a 0)), (2, .int y2)]) hx hb dX11_acts_106 rfl hl (by decide) rfl (fun ls hl => ?_)
                refine lv_iload_n hx hb dX11_acts_107 rfl (lv_at hl 0 rfl) ?_
                refine lv_if_eq (tgt := 48) hx hb dX11_acts_108 (by decide) (fun c_114 => ?_) (fun c_114 => ?_)
                · have hf := hf.1 c_114
                  obtain ⟨k_115, hk_115, hf⟩ := hf
                  exact (ih k_115 hk_115) _ _ _ u_112 _ _ ls hf hP hD hS (lv_sub hl [2, 1, 3, 0] rfl)
                · have hf := hf.2 c_114
                  refine lv_aload_n hx hb dX11_acts_111 rfl (lv_at hl 2 rfl) ?_
                  refine va_get (D := (dC, dI)) (ci := 10) (v := .int u_112.2.2.2.2.2.2.2.2.2.2.2.2.2.1) (C := RX11) (T := TX11) (N := 17) hx hb hts inX11 hown hK hP 0 rfl rfl 13 (by decide) (hts _ q_fl_X11_29) (fun _ h9 => h9) rfl dX11_acts_112 ?_
                  refine lv_iconst (v := (-1)) hx hb dX11_acts_115 (by decide) ?_
                  refine lv_icmp_ne (tgt := 48) hx hb dX11_acts_116 (by decide) (fun c_116 => ?_) (fun c_116 => ?_)
                  · have hf := hf.1 c_116
                    obtain ⟨k_117, hk_117, hf⟩ := hf
                    exact (ih k_117 hk_117) _ _ _ u_112 _ _ ls hf hP hD hS (lv_sub hl [2, 1, 3, 0] rfl)
                  · have hf := hf.2 c_116
                    refine lv_aload_n hx hb dX11_acts_119 rfl (lv_at hl 2 rfl) ?_
                    refine va_get (D := (dC, dI)) (ci := 10) (v := .ref (a 6)) (C := RX11) (T := TX11) (N := 17) hx hb hts inX11 hown hK hP 0 rfl rfl 9 (by decide) (hts _ q_fl_X11_26) (fun _ h9 => h9) rfl dX11_acts_120 ?_
                    refine lv_aload_n hx hb dX11_acts_123 rfl (lv_at hl 2 rfl) ?_
                    refine va_get (D := (dC, dI)) (ci := 10) (v := .int u_112.2.2.2.2.2.2.2.2.2.2.2.2.1) (C := RX11) (T := TX11) (N := 17) hx hb hts inX11 hown hK hP 0 rfl rfl 12 (by decide) (hts _ q_fl_X11_169) (fun _ h9 => h9) rfl dX11_acts_124 ?_
                    obtain ⟨hg, hf⟩ := hf
                    refine va_iald hx hb hK hP 6 0 rfl rfl hg dX11_acts_127 ?_
                    refine lv_bipush (v := 59) hx hb dX11_acts_128 (by decide) ?_
                    refine lv_icmp_eq (tgt := 141) hx hb dX11_acts_130 (by decide) (fun c_118 => ?_) (fun c_118 => ?_)
                    · have hf := hf.1 c_118
                      refine lv_aload_n hx hb dX11_acts_141 rfl (lv_at hl 2 rfl) ?_
                      refine lv_dup hx hb dX11_acts_142 rfl ?_
                      refine va_get (D := (dC, dI)) (ci := 10) (v := .int u_112.2.2.2.2.2.2.2.2.2.2.2.2.1) (C := RX11) (T := TX11) (N := 17) hx hb hts inX11 hown hK hP 0 rfl rfl 12 (by decide) (hts _ q_fl_X11_169) (fun _ h9 => h9) rfl dX11_acts_143 ?_
                      refine lv_iconst (v := 1) hx hb dX11_acts_146 (by decide) ?_
                      refine lv_iadd hx hb dX11_acts_147 ?_
                      refine lv_topi (fun x_119 ex_119 => ?_)
                      have hf := hf x_119 ex_119
                      refine z_put (w' := cl_X11 cI cJ a (u_112.1, u_112.2.1, u_112.2.2.1, u_112.2.2.2.1, u_112.2.2.2.2.1, u_112.2.2.2.2.2.1, u_112.2.2.2.2.2.2.1, u_112.2.2.2.2.2.2.2.1, u_112.2.2.2.2.2.2.2.2.1, u_112.2.2.2.2.2.2.2.2.2.1, u_112.2.2.2.2.2.2.2.2.2.2.1, u_112.2.2.2.2.2.2.2.2.2.2.2.1, x_119, u_112.2.2.2.2.2.2.2.2.2.2.2.2.2)) (ci := 10) (v := .int x_119) (ty := .int) (Cn := RX11) (T := TX11) (N := 17) X inX11 tyX11 tyX11_ok nmX11 hP hD hS 0 rfl rfl 12 (by decide) (hts _ q_fl_X11_169) (fun _ h9 => h9) rfl (tyX11_ok 12 (by decide)) rfl rfl (Nat.le_of_ble_eq_true rfl) rfl dX11_acts_148 (fun H locs hP hD hS => ?_)
                      refine lv_goto (tgt := 48) hx hb dX11_acts_151 (by decide) ?_
                      obtain ⟨k_120, hk_120, hf⟩ := hf
                      exact (ih k_120 hk_120) _ _ _ (u_112.1, u_112.2.1, u_112.2.2.1, u_112.2.2.2.1, u_112.2.2.2.2.1, u_112.2.2.2.2.2.1, u_112.2.2.2.2.2.2.1, u_112.2.2.2.2.2.2.2.1, u_112.2.2.2.2.2.2.2.2.1, u_112.2.2.2.2.2.2.2.2.2.1, u_112.2.2.2.2.2.2.2.2.2.2.1, u_112.2.2.2.2.2.2.2.2.2.2.2.1, x_119, u_112.2.2.2.2.2.2.2.2.2.2.2.2.2) _ _ ls hf hP hD hS (lv_sub hl [2, 1, 3, 0] rfl)
                    · have hf := hf.2 c_118
                      refine lv_aload_n hx hb dX11_acts_133 rfl (lv_at hl 2 rfl) ?_
                      refine lv_aload_n hx hb dX11_acts_134 rfl (lv_at hl 2 rfl) ?_
                      refine va_get (D := (dC, dI)) (ci := 10) (v := .int u_112.2.2.2.2.2.2.2.2.2.2.2.2.1) (C := RX11) (T := TX11) (N := 17) hx hb hts inX11 hown hK hP 0 rfl rfl 12 (by decide) (hts _ q_fl_X11_169) (fun _ h9 => h9) rfl dX11_acts_135 ?_
                      refine z_mVv (Wn := (fun u_122 => cl_X11 cI cJ a u_122)) (As := [.int u_112.2.2.2.2.2.2.2.2.2.2.2.2.1]) (rest := []) (wr := []) X (c_X11_wrong l dC dI cI cJ cS a u_112 u_112.2.2.2.2.2.2.2.2.2.2.2.2.1 _ hf _) zc_X11_wrong q_ml_X11_187 ⟨rfl, rfl⟩ ⟨Nat.le_of_ble_eq_true rfl, Nat.le_of_ble_eq_true rfl⟩ hP hD hS hA [0, 1, 2, 3, 4, 5, 6, 7, 8] [] rfl (by decide) rfl (by decide) (by decide) [0, 1, 2, 3, 4, 5, 6, 7, 8] (by decide) (fun _ => rfl) 10 rfl rfl hl.1 rfl rfl (Nat.le_of_ble_eq_true rfl) ⟨Nat.zero_le _, Nat.zero_le _⟩ dX11_acts_138 (fun u_122 H locs hf hP hD hS => ?_)
                      refine lv_aload_n hx hb dX11_acts_141 rfl (lv_at hl 2 rfl) ?_
                      refine lv_dup hx hb dX11_acts_142 rfl ?_
                      refine va_get (D := (dC, dI)) (ci := 10) (v := .int u_122.2.2.2.2.2.2.2.2.2.2.2.2.1) (C := RX11) (T := TX11) (N := 17) hx hb hts inX11 hown hK hP 0 rfl rfl 12 (by decide) (hts _ q_fl_X11_169) (fun _ h9 => h9) rfl dX11_acts_143 ?_
                      refine lv_iconst (v := 1) hx hb dX11_acts_146 (by decide) ?_
                      refine lv_iadd hx hb dX11_acts_147 ?_
                      refine lv_topi (fun x_123 ex_123 => ?_)
                      have hf := hf x_123 ex_123
                      refine z_put (w' := cl_X11 cI cJ a (u_122.1, u_122.2.1, u_122.2.2.1, u_122.2.2.2.1, u_122.2.2.2.2.1, u_122.2.2.2.2.2.1, u_122.2.2.2.2.2.2.1, u_122.2.2.2.2.2.2.2.1, u_122.2.2.2.2.2.2.2.2.1, u_122.2.2.2.2.2.2.2.2.2.1, u_122.2.2.2.2.2.2.2.2.2.2.1, u_122.2.2.2.2.2.2.2.2.2.2.2.1, x_123, u_122.2.2.2.2.2.2.2.2.2.2.2.2.2)) (ci := 10) (v := .int x_123) (ty := .int) (Cn := RX11) (T := TX11) (N := 17) X inX11 tyX11 tyX11_ok nmX11 hP hD hS 0 rfl rfl 12 (by decide) (hts _ q_fl_X11_169) (fun _ h9 => h9) rfl (tyX11_ok 12 (by decide)) rfl rfl (Nat.le_of_ble_eq_true rfl) rfl dX11_acts_148 (fun H locs hP hD hS => ?_)
                      refine lv_goto (tgt := 48) hx hb dX11_acts_151 (by decide) ?_
                      obtain ⟨k_124, hk_124, hf⟩ := hf
                      exact (ih k_124 hk_124) _ _ _ (u_122.1, u_122.2.1, u_122.2.2.1, u_122.2.2.2.1, u_122.2.2.2.2.1, u_122.2.2.2.2.2.1, u_122.2.2.2.2.2.2.1, u_122.2.2.2.2.2.2.2.1, u_122.2.2.2.2.2.2.2.2.1, u_122.2.2.2.2.2.2.2.2.2.1, u_122.2.2.2.2.2.2.2.2.2.2.1, u_122.2.2.2.2.2.2.2.2.2.2.2.1, x_123, u_122.2.2.2.2.2.2.2.2.2.2.2.2.2) _ _ ls hf hP hD hS (lv_sub hl [2, 1, 3, 0] rfl)
              · have hf := hf.2 c_113
                refine lv_iconst (v := 1) hx hb dX11_acts_101 (by decide) ?_
                refine lv_goto (tgt := 106) hx hb dX11_acts_102 (by decide) ?_
                refine lv_istore_n (lv' := [(3, .int (1 : Int32)), (1, .int x_110), (0, .ref (a 0)), (2, .int y2)]) hx hb dX11_acts_106 rfl hl (by decide) rfl (fun ls hl => ?_)
                refine lv_iload_n hx hb dX11_acts_107 rfl (lv_at hl 0 rfl) ?_
                refine lv_if_eq (tgt := 48) hx hb dX11_acts_108 (by decide) (fun c_125 => ?_) (fun c_125 => ?_)
                · have hf := hf.1 c_125
                  obtain ⟨k_126, hk_126, hf⟩ := hf
                  exact (ih k_126 hk_126) _ _ _ u_112 _ _ ls hf hP hD hS (lv_sub hl [2, 1, 3, 0] rfl)
                · have hf := hf.2 c_125
                  refine lv_aload_n hx hb dX11_acts_111 rfl (lv_at hl 2 rfl) ?_
                  refine va_get (D := (dC, dI)) (ci := 10) (v := .int u_112.2.2.2.2.2.2.2.2.2.2.2.2.2.1) (C := RX11) (T := TX11) (N := 17) hx hb hts inX11 hown hK hP 0 rfl rfl 13 (by decide) (hts _ q_fl_X11_29) (fun _ h9 => h9) rfl dX11_acts_112 ?_
                  refine lv_iconst (v := (-1)) hx hb dX11_acts_115 (by decide) ?_
                  refine lv_icmp_ne (tgt := 48) hx hb dX11_acts_116 (by decide) (fun c_127 => ?_) (fun c_127 => ?_)
                  · have hf := hf.1 c_127
                    obtain ⟨k_128, hk_128, hf⟩ := hf
                    exact (ih k_128 hk_128) _ _ _ u_112 _ _ ls hf hP hD hS (lv_sub hl [2, 1, 3, 0] rfl)
                  · have hf := hf.2 c_127
                    refine lv_aload_n hx hb dX11_acts_119 rfl (lv_at hl 2 rfl) ?_
                    refine va_get (D := (dC, dI)) (ci := 10) (v := .ref (a 6)) (C := RX11) (T := TX11) (N := 17) hx hb hts inX11 hown hK hP 0 rfl rfl 9 (by decide) (hts _ q_fl_X11_26) (fun _ h9 => h9) rfl dX11_acts_120 ?_
                    refine lv_aload_n hx hb dX11_acts_123 rfl (lv_at hl 2 rfl) ?_
                    refine va_get (D := (dC, dI)) (ci := 10) (v := .int u_112.2.2.2.2.2.2.2.2.2.2.2.2.1) (C := RX11) (T := TX11) (N := 17) hx hb hts inX11 hown hK hP 0 rfl rfl 12 (by decide) (hts _ q_fl_X11_169) (fun _ h9 => h9) rfl dX11_acts_124 ?_
                    obtain ⟨hg, hf⟩ := hf
                    refine va_iald hx hb hK hP 6 0 rfl rfl hg dX11_acts_127 ?_
                    refine lv_bipush (v := 59) hx hb dX11_acts_128 (by decide) ?_
                    refine lv_icmp_eq (tgt := 141) hx hb dX11_acts_130 (by decide) (fun c_129 => ?_) (fun c_129 => ?_)
                    · have hf := hf.1 c_129
                      refine lv_aload_n hx hb dX11_acts_141 rfl (lv_at hl 2 rfl) ?_
                      refine lv_dup hx hb dX11_acts_142 rfl ?_
                      refine va_get (D := (dC, dI)) (ci := 10) (v := .int u_112.2.2.2.2.2.2.2.2.2.2.2.2.1) (C := RX11) (T := TX11) (N := 17) hx hb hts inX11 hown hK hP 0 rfl rfl 12 (by decide) (hts _ q_fl_X11_169) (fun _ h9 => h9) rfl dX11_acts_143 ?_
                      refine lv_iconst (v := 1) hx hb dX11_acts_146 (by decide) ?_
                      refine lv_iadd hx hb dX11_acts_147 ?_
                      refine lv_topi (fun x_130 ex_130 => ?_)
                      have hf := hf x_130 ex_130
                      refine z_put (w' := cl_X11 cI cJ a (u_112.1, u_112.2.1, u_112.2.2.1, u_112.2.2.2.1, u_112.2.2.2.2.1, u_112.2.2.2.2.2.1, u_112.2.2.2.2.2.2.1, u_112.2.2.2.2.2.2.2.1, u_112.2.2.2.2.2.2.2.2.1, u_112.2.2.2.2.2.2.2.2.2.1, u_112.2.2.2.2.2.2.2.2.2.2.1, u_112.2.2.2.2.2.2.2.2.2.2.2.1, x_130, u_112.2.2.2.2.2.2.2.2.2.2.2.2.2)) (ci := 10) (v := .int x_130) (ty := .int) (Cn := RX11) (T := TX11) (N := 17) X inX11 tyX11 tyX11_ok nmX11 hP hD hS 0 rfl rfl 12 (by decide) (hts _ q_fl_X11_169) (fun _ h9 => h9) rfl (tyX11_ok 12 (by decide)) rfl rfl (Nat.le_of_ble_eq_true rfl) rfl dX11_acts_148 (fun H locs hP hD hS => ?_)
                      refine lv_goto (tgt := 48) hx hb dX11_acts_151 (by decide) ?_
                      obtain ⟨k_131, hk_131, hf⟩ := hf
                      exact (ih k_131 hk_131) _ _ _ (u_112.1, u_112.2.1, u_112.2.2.1, u_112.2.2.2.1, u_112.2.2.2.2.1, u_112.2.2.2.2.2.1, u_112.2.2.2.2.2.2.1, u_112.2.2.2.2.2.2.2.1, u_112.2.2.2.2.2.2.2.2.1, u_112.2.2.2.2.2.2.2.2.2.1, u_112.2.2.2.2.2.2.2.2.2.2.1, u_112.2.2.2.2.2.2.2.2.2.2.2.1, x_130, u_112.2.2.2.2.2.2.2.2.2.2.2.2.2) _ _ ls hf hP hD hS (lv_sub hl [2, 1, 3, 0] rfl)
                    · have hf := hf.2 c_129
                      refine lv_aload_n hx hb dX11_acts_133 rfl (lv_at hl 2 rfl) ?_
                      refine lv_aload_n hx hb dX11_acts_134 rfl (lv_at hl 2 rfl) ?_
                      refine va_get (D := (dC, dI)) (ci := 10) (v := .int u_112.2.2.2.2.2.2.2.2.2.2.2.2.1) (C := RX11) (T := TX11) (N := 17) hx hb hts inX11 hown hK hP 0 rfl rfl 12 (by decide) (hts _ q_fl_X11_169) (fun _ h9 => h9) rfl dX11_acts_135 ?_
                      refine z_mVv (Wn := (fun u_133 => cl_X11 cI cJ a u_133)) (As := [.int u_112.2.2.2.2.2.2.2.2.2.2.2.2.1]) (rest := []) (wr := []) X (c_X11_wrong l dC dI cI cJ cS a u_112 u_112.2.2.2.2.2.2.2.2.2.2.2.2.1 _ hf _) zc_X11_wrong q_ml_X11_187 ⟨rfl, rfl⟩ ⟨Nat.le_of_ble_eq_true rfl, Nat.le_of_ble_eq_true rfl⟩ hP hD hS hA [0, 1, 2, 3, 4, 5, 6, 7, 8] [] rfl (by decide) rfl (by decide) (by decide) [0, 1, 2, 3, 4, 5, 6, 7, 8] (by decide) (fun _ => rfl) 10 rfl rfl hl.1 rfl rfl (Nat.le_of_ble_eq_true rfl) ⟨Nat.zero_le _, Nat.zero_le _⟩ dX11_acts_138 (fun u_133 H locs hf hP hD hS => ?_)
                      refine lv_aload_n hx hb dX11_acts_141 rfl (lv_at hl 2 rfl) ?_
                      refine lv_dup hx hb dX11_acts_142 rfl ?_
                      refine va_get (D := (dC, dI)) (ci := 10) (v := .int u_133.2.2.2.2.2.2.2.2.2.2.2.2.1) (C := RX11) (T := TX11) (N := 17) hx hb hts inX11 hown hK hP 0 rfl rfl 12 (by decide) (hts _ q_fl_X11_169) (fun _ h9 => h9) rfl dX11_acts_143 ?_
                      refine lv_iconst (v := 1) hx hb dX11_acts_146 (by decide) ?_
                      refine lv_iadd hx hb dX11_acts_147 ?_
                      refine lv_topi (fun x_134 ex_134 => ?_)
                      have hf := hf x_134 ex_134
                      refine z_put (w' := cl_X11 cI cJ a (u_133.1, u_133.2.1, u_133.2.2.1, u_133.2.2.2.1, u_133.2.2.2.2.1, u_133.2.2.2.2.2.1, u_133.2.2.2.2.2.2.1, u_133.2.2.2.2.2.2.2.1, u_133.2.2.2.2.2.2.2.2.1, u_133.2.2.2.2.2.2.2.2.2.1, u_133.2.2.2.2.2.2.2.2.2.2.1, u_133.2.2.2.2.2.2.2.2.2.2.2.1, x_134, u_133.2.2.2.2.2.2.2.2.2.2.2.2.2)) (ci := 10) (v := .int x_134) (ty := .int) (Cn := RX11) (T := TX11) (N := 17) X inX11 tyX11 tyX11_ok nmX11 hP hD hS 0 rfl rfl 12 (by decide) (hts _ q_fl_X11_169) (fun _ h9 => h9) rfl (tyX11_ok 12 (by decide)) rfl rfl (Nat.le_of_ble_eq_true rfl) rfl dX11_acts_148 (fun H locs hP hD hS => ?_)
                      refine lv_goto (tgt := 48) hx hb dX11_acts_151 (by decide) ?_
                      obtain ⟨k_135, hk_135, hf⟩ := hf
                      exact (ih k_135 hk_135) _ _ _ (u_133.1, u_133.2.1, u_133.2.2.1, u_133.2.2.2.1, u_133.2.2.2.2.1, u_133.2.2.2.2.2.1, u_133.2.2.2.2.2.2.1, u_133.2.2.2.2.2.2.2.1, u_133.2.2.2.2.2.2.2.2.1, u_133.2.2.2.2.2.2.2.2.2.1, u_133.2.2.2.2.2.2.2.2.2.2.1, u_133.2.2.2.2.2.2.2.2.2.2.2.1, x_134, u_133.2.2.2.2.2.2.2.2.2.2.2.2.2) _ _ ls hf hP hD hS (lv_sub hl [2, 1, 3, 0] rfl)
            · have hf := hf.2 c_109
              refine lv_aload_n hx hb dX11_acts_82 rfl (lv_at hl 0 rfl) ?_
              refine z_mViF (Wn := (fun u_137 => cl_X11 cI cJ a u_137)) (As := []) (rest := []) (wr := []) X fro_Fz hF (c_X11_act l dC dI cI cJ cS a u_108  _ hf _) zc_X11_act q_ml_X11_251 ⟨rfl, rfl⟩ ⟨Nat.le_of_ble_eq_true rfl, Nat.le_of_ble_eq_true rfl⟩ hP hD hS hA [0, 1, 2, 3, 4, 5, 6, 7, 8] [] rfl (by decide) rfl (by decide) (by decide) [0, 1, 2, 3, 4, 5, 6, 7, 8] (by decide) (fun _ => rfl) 10 rfl rfl hl.1 rfl rfl (Nat.le_of_ble_eq_true rfl) ⟨Nat.zero_le _, Nat.zero_le _⟩ dX11_acts_83 (fun r_136 u_137 H locs hf hP hD hS => ?_)
              refine lv_istore_n (lv' := [(2, .int r_136), (0, .ref (a 0)), (1, .int y1), (3, .int y3)]) hx hb dX11_acts_86 rfl hl (by decide) rfl (fun ls hl => ?_)
              obtain ⟨x_138, ex_138⟩ : ∃ y : Int32, y = y1 + (1 : Int32) := ⟨_, rfl⟩
              have hf := hf x_138 ex_138
              refine lv_iinc (v := x_138) (lv' := [(1, .int x_138), (2, .int r_136), (0, .ref (a 0)), (3, .int y3)]) hx hb dX11_acts_87 hl (k := 2) rfl (by rw [ex_138]; rfl) (by decide) rfl (fun ls hl => ?_)
              refine lv_aload_n hx hb dX11_acts_90 rfl (lv_at hl 2 rfl) ?_
              refine z_mVi (Wn := (fun u_140 => cl_X11 cI cJ a u_140)) (As := []) (rest := []) (wr := []) X (c_X11_here l dC dI cI cJ cS a u_137  _ hf _) zc_X11_here q_ml_X11_175 ⟨rfl, rfl⟩ ⟨Nat.le_of_ble_eq_true rfl, Nat.le_of_ble_eq_true rfl⟩ hP hD hS hA [0, 1, 2, 3, 4, 5, 6, 7, 8] [] rfl (by decide) rfl (by decide) (by decide) [0, 1, 2, 3, 4, 5, 6, 7, 8] (by decide) (fun _ => rfl) 10 rfl rfl hl.1 rfl rfl (Nat.le_of_ble_eq_true rfl) ⟨Nat.zero_le _, Nat.zero_le _⟩ dX11_acts_91 (fun r_139 u_140 H locs hf hP hD hS => ?_)
              refine lv_aload_n hx hb dX11_acts_94 rfl (lv_at hl 2 rfl) ?_
              refine va_get (D := (dC, dI)) (ci := 10) (v := .int u_140.2.2.2.2.2.2.2.2.2.2.2.1) (C := RX11) (T := TX11) (N := 17) hx hb hts inX11 hown hK hP 0 rfl rfl 11 (by decide) (hts _ q_fl_X11_172) (fun _ h9 => h9) rfl dX11_acts_95 ?_
              refine lv_icmp_ge (tgt := 105) hx hb dX11_acts_98 (by decide) (fun c_141 => ?_) (fun c_141 => ?_)
              · have hf := hf.1 c_141
                refine lv_iconst (v := 0) hx hb dX11_acts_105 (by decide) ?_
                refine lv_istore_n (lv' := [(3, .int (0 : Int32)), (1, .int x_138), (2, .int r_136), (0, .ref (a 0))]) hx hb dX11_acts_106 rfl hl (by decide) rfl (fun ls hl => ?_)
                refine lv_iload_n hx hb dX11_acts_107 rfl (lv_at hl 0 rfl) ?_
                refine lv_if_eq (tgt := 48) hx hb dX11_acts_108 (by decide) (fun c_142 => ?_) (fun c_142 => ?_)
                · have hf := hf.1 c_142
                  obtain ⟨k_143, hk_143, hf⟩ := hf
                  exact (ih k_143 hk_143) _ _ _ u_140 _ _ ls hf hP hD hS (lv_sub hl [3, 1, 2, 0] rfl)
                · have hf := hf.2 c_142
                  refine lv_aload_n hx hb dX11_acts_111 rfl (lv_at hl 3 rfl) ?_
                  refine va_get (D := (dC, dI)) (ci := 10) (v := .int u_140.2.2.2.2.2.2.2.2.2.2.2.2.2.1) (C := RX11) (T := TX11) (N := 17) hx hb hts inX11 hown hK hP 0 rfl rfl 13 (by decide) (hts _ q_fl_X11_29) (fun _ h9 => h9) rfl dX11_acts_112 ?_
                  refine lv_iconst (v := (-1)) hx hb dX11_acts_115 (by decide) ?_
                  refine lv_icmp_ne (tgt := 48) hx hb dX11_acts_116 (by decide) (fun c_144 => ?_) (fun c_144 => ?_)
                  · have hf := hf.1 c_144
                    obtain ⟨k_145, hk_145, hf⟩ := hf
                    exact (ih k_145 hk_145) _ _ _ u_140 _ _ ls hf hP hD hS (lv_sub hl [3, 1, 2, 0] rfl)
                  · have hf := hf.2 c_144
                    refine lv_aload_n hx hb dX11_acts_119 rfl (lv_at hl 3 rfl) ?_
                    refine va_get (D := (dC, dI)) (ci := 10) (v := .ref (a 6)) (C := RX11) (T := TX11) (N := 17) hx hb hts inX11 hown hK hP 0 rfl rfl 9 (by decide) (hts _ q_fl_X11_26) (fun _ h9 => h9) rfl dX11_acts_120 ?_
                    refine lv_aload_n hx hb dX11_acts_123 rfl (lv_at hl 3 rfl) ?_
                    refine va_get (D := (dC, dI)) (ci := 10) (v := .int u_140.2.2.2.2.2.2.2.2.2.2.2.2.1) (C := RX11) (T := TX11) (N := 17) hx hb hts inX11 hown hK hP 0 rfl rfl 12 (by decide) (hts _ q_fl_X11_169) (fun _ h9 => h9) rfl dX11_acts_124 ?_
                    obtain ⟨hg, hf⟩ := hf
                    refine va_iald hx hb hK hP 6 0 rfl rfl hg dX11_acts_127 ?_
                    refine lv_bipush (v := 59) hx hb dX11_acts_128 (by decide) ?_
                    refine lv_icmp_eq (tgt := 141) hx hb dX11_acts_130 (by decide) (fun c_146 => ?_) (fun c_146 => ?_)
                    · have hf := hf.1 c_146
                      refine lv_aload_n hx hb dX11_acts_141 rfl (lv_at hl 3 rfl) ?_
                      refine lv_dup hx hb dX11_acts_142 rfl ?_
                      refine va_get (D := (dC, dI)) (ci := 10) (v := .int u_140.2.2.2.2.2.2.2.2.2.2.2.2.1) (C := RX11) (T := TX11) (N := 17) hx hb hts inX11 hown hK hP 0 rfl rfl 12 (by decide) (hts _ q_fl_X11_169) (fun _ h9 => h9) rfl dX11_acts_143 ?_
                      refine lv_iconst (v := 1) hx hb dX11_acts_146 (by decide) ?_
                      refine lv_iadd hx hb dX11_acts_147 ?_
                      refine lv_topi (fun x_147 ex_147 => ?_)
                      have hf := hf x_147 ex_147
                      refine z_put (w' := cl_X11 cI cJ a (u_140.1, u_140.2.1, u_140.2.2.1, u_140.2.2.2.1, u_140.2.2.2.2.1, u_140.2.2.2.2.2.1, u_140.2.2.2.2.2.2.1, u_140.2.2.2.2.2.2.2.1, u_140.2.2.2.2.2.2.2.2.1, u_140.2.2.2.2.2.2.2.2.2.1, u_140.2.2.2.2.2.2.2.2.2.2.1, u_140.2.2.2.2.2.2.2.2.2.2.2.1, x_147, u_140.2.2.2.2.2.2.2.2.2.2.2.2.2)) (ci := 10) (v := .int x_147) (ty := .int) (Cn := RX11) (T := TX11) (N := 17) X inX11 tyX11 tyX11_ok nmX11 hP hD hS 0 rfl rfl 12 (by decide) (hts _ q_fl_X11_169) (fun _ h9 => h9) rfl (tyX11_ok 12 (by decide)) rfl rfl (Nat.le_of_ble_eq_true rfl) rfl dX11_acts_148 (fun H locs hP hD hS => ?_)
                      refine lv_goto (tgt := 48) hx hb dX11_acts_151 (by decide) ?_
                      obtain ⟨k_148, hk_148, hf⟩ := hf
                      exact (ih k_148 hk_148) _ _ _ (u_140.1, u_140.2.1, u_140.2.2.1, u_140.2.2.2.1, u_140.2.2.2.2.1, u_140.2.2.2.2.2.1, u_140.2.2.2.2.2.2.1, u_140.2.2.2.2.2.2.2.1, u_140.2.2.2.2.2.2.2.2.1, u_140.2.2.2.2.2.2.2.2.2.1, u_140.2.2.2.2.2.2.2.2.2.2.1, u_140.2.2.2.2.2.2.2.2.2.2.2.1, x_147, u_140.2.2.2.2.2.2.2.2.2.2.2.2.2) _ _ ls hf hP hD hS (lv_sub hl [3, 1, 2, 0] rfl)
                    · have hf := hf.2 c_146
                      refine lv_aload_n hx hb dX11_acts_133 rfl (lv_at hl 3 rfl) ?_
                      refine lv_aload_n hx hb dX11_acts_134 rfl (lv_at hl 3 rfl) ?_
                      refine va_get (D := (dC, dI)) (ci := 10) (v := .int u_140.2.2.2.2.2.2.2.2.2.2.2.2.1) (C := RX11) (T := TX11) (N := 17) hx hb hts inX11 hown hK hP 0 rfl rfl 12 (by decide) (hts _ q_fl_X11_169) (fun _ h9 => h9) rfl dX11_acts_135 ?_
                      refine z_mVv (Wn := (fun u_150 => cl_X11 cI cJ a u_150)) (As := [.int u_140.2.2.2.2.2.2.2.2.2.2.2.2.1]) (rest := []) (wr := []) X (c_X11_wrong l dC dI cI cJ cS a u_140 u_140.2.2.2.2.2.2.2.2.2.2.2.2.1 _ hf _) zc_X11_wrong q_ml_X11_187 ⟨rfl, rfl⟩ ⟨Nat.le_of_ble_eq_true rfl, Nat.le_of_ble_eq_true rfl⟩ hP hD hS hA [0, 1, 2, 3, 4, 5, 6, 7, 8] [] rfl (by decide) rfl (by decide) (by decide) [0, 1, 2, 3, 4, 5, 6, 7, 8] (by decide) (fun _ => rfl) 10 rfl rfl hl.1 rfl rfl (Nat.le_of_ble_eq_true rfl) ⟨Nat.zero_le _, Nat.zero_le _⟩ dX11_acts_138 (fun u_150 H locs hf hP hD hS => ?_)
                      refine lv_aload_n hx hb dX11_acts_141 rfl (lv_at hl 3 rfl) ?_
                      refine lv_dup hx hb dX11_acts_142 rfl ?_
                      refine va_get (D := (dC, dI)) (ci := 10) (v := .int u_150.2.2.2.2.2.2.2.2.2.2.2.2.1) (C := RX11) (T := TX11) (N := 17) hx hb hts inX11 hown hK hP 0 rfl rfl 12 (by decide) (hts _ q_fl_X11_169) (fun _ h9 => h9) rfl dX11_acts_143 ?_
                      refine lv_iconst (v := 1) hx hb dX11_acts_146 (by decide) ?_
                      refine lv_iadd hx hb dX11_acts_147 ?_
                      refine lv_topi (fun x_151 ex_151 => ?_)
                      have hf := hf x_151 ex_151
                      refine z_put (w' := cl_X11 cI cJ a (u_150.1, u_150.2.1, u_150.2.2.1, u_150.2.2.2.1, u_150.2.2.2.2.1, u_150.2.2.2.2.2.1, u_150.2.2.2.2.2.2.1, u_150.2.2.2.2.2.2.2.1, u_150.2.2.2.2.2.2.2.2.1, u_150.2.2.2.2.2.2.2.2.2.1, u_150.2.2.2.2.2.2.2.2.2.2.1, u_150.2.2.2.2.2.2.2.2.2.2.2.1, x_151, u_150.2.2.2.2.2.2.2.2.2.2.2.2.2)) (ci := 10) (v := .int x_151) (ty := .int) (Cn := RX11) (T := TX11) (N := 17) X inX11 tyX11 tyX11_ok nmX11 hP hD hS 0 rfl rfl 12 (by decide) (hts _ q_fl_X11_169) (fun _ h9 => h9) rfl (tyX11_ok 12 (by decide)) rfl rfl (Nat.le_of_ble_eq_true rfl) rfl dX11_acts_148 (fun H locs hP hD hS => ?_)
                      refine lv_goto (tgt := 48) hx hb dX11_acts_151 (by decide) ?_
                      obtain ⟨k_152, hk_152, hf⟩ := hf
                      exact (ih k_152 hk_152) _ _ _ (u_150.1, u_150.2.1, u_150.2.2.1, u_150.2.2.2.1, u_150.2.2.2.2.1, u_150.2.2.2.2.2.1, u_150.2.2.2.2.2.2.1, u_150.2.2.2.2.2.2.2.1, u_150.2.2.2.2.2.2.2.2.1, u_150.2.2.2.2.2.2.2.2.2.1, u_150.2.2.2.2.2.2.2.2.2.2.1, u_150.2.2.2.2.2.2.2.2.2.2.2.1, x_151, u_150.2.2.2.2.2.2.2.2.2.2.2.2.2) _ _ ls hf hP hD hS (lv_sub hl [3, 1, 2, 0] rfl)
              · have hf := hf.2 c_141
                refine lv_iconst (v := 1) hx hb dX11_acts_101 (by decide) ?_
                refine lv_goto (tgt := 106) hx hb dX11_acts_102 (by decide) ?_
                refine lv_istore_n (lv' := [(3, .int (1 : Int32)), (1, .int x_138), (2, .int r_136), (0, .ref (a 0))]) hx hb dX11_acts_106 rfl hl (by decide) rfl (fun ls hl => ?_)
                refine lv_iload_n hx hb dX11_acts_107 rfl (lv_at hl 0 rfl) ?_
                refine lv_if_eq (tgt := 48) hx hb dX11_acts_108 (by decide) (fun c_153 => ?_) (fun c_153 => ?_)
                · have hf := hf.1 c_153
                  obtain ⟨k_154, hk_154, hf⟩ := hf
                  exact (ih k_154 hk_154) _ _ _ u_140 _ _ ls hf hP hD hS (lv_sub hl [3, 1, 2, 0] rfl)
                · have hf := hf.2 c_153
                  refine lv_aload_n hx hb dX11_acts_111 rfl (lv_at hl 3 rfl) ?_
                  refine va_get (D := (dC, dI)) (ci := 10) (v := .int u_140.2.2.2.2.2.2.2.2.2.2.2.2.2.1) (C := RX11) (T := TX11) (N := 17) hx hb hts inX11 hown hK hP 0 rfl rfl 13 (by decide) (hts _ q_fl_X11_29) (fun _ h9 => h9) rfl dX11_acts_112 ?_
                  refine lv_iconst (v := (-1)) hx hb dX11_acts_115 (by decide) ?_
                  refine lv_icmp_ne (tgt := 48) hx hb dX11_acts_116 (by decide) (fun c_155 => ?_) (fun c_155 => ?_)
                  · have hf := hf.1 c_155
                    obtain ⟨k_156, hk_156, hf⟩ := hf
                    exact (ih k_156 hk_156) _ _ _ u_140 _ _ ls hf hP hD hS (lv_sub hl [3, 1, 2, 0] rfl)
                  · have hf := hf.2 c_155
                    refine lv_aload_n hx hb dX11_acts_119 rfl (lv_at hl 3 rfl) ?_
                    refine va_get (D := (dC, dI)) (ci := 10) (v := .ref (a 6)) (C := RX11) (T := TX11) (N := 17) hx hb hts inX11 hown hK hP 0 rfl rfl 9 (by decide) (hts _ q_fl_X11_26) (fun _ h9 => h9) rfl dX11_acts_120 ?_
                    refine lv_aload_n hx hb dX11_acts_123 rfl (lv_at hl 3 rfl) ?_
                    refine va_get (D := (dC, dI)) (ci := 10) (v := .int u_140.2.2.2.2.2.2.2.2.2.2.2.2.1) (C := RX11) (T := TX11) (N := 17) hx hb hts inX11 hown hK hP 0 rfl rfl 12 (by decide) (hts _ q_fl_X11_169) (fun _ h9 => h9) rfl dX11_acts_124 ?_
                    obtain ⟨hg, hf⟩ := hf
                    refine va_iald hx hb hK hP 6 0 rfl rfl hg dX11_acts_127 ?_
                    refine lv_bipush (v := 59) hx hb dX11_acts_128 (by decide) ?_
                    refine lv_icmp_eq (tgt := 141) hx hb dX11_acts_130 (by decide) (fun c_157 => ?_) (fun c_157 => ?_)
                    · have hf := hf.1 c_157
                      refine lv_aload_n hx hb dX11_acts_141 rfl (lv_at hl 3 rfl) ?_
                      refine lv_dup hx hb dX11_acts_142 rfl ?_
                      refine va_get (D := (dC, dI)) (ci := 10) (v := .int u_140.2.2.2.2.2.2.2.2.2.2.2.2.1) (C := RX11) (T := TX11) (N := 17) hx hb hts inX11 hown hK hP 0 rfl rfl 12 (by decide) (hts _ q_fl_X11_169) (fun _ h9 => h9) rfl dX11_acts_143 ?_
                      refine lv_iconst (v := 1) hx hb dX11_acts_146 (by decide) ?_
                      refine lv_iadd hx hb dX11_acts_147 ?_
                      refine lv_topi (fun x_158 ex_158 => ?_)
                      have hf := hf x_158 ex_158
                      refine z_put (w' := cl_X11 cI cJ a (u_140.1, u_140.2.1, u_140.2.2.1, u_140.2.2.2.1, u_140.2.2.2.2.1, u_140.2.2.2.2.2.1, u_140.2.2.2.2.2.2.1, u_140.2.2.2.2.2.2.2.1, u_140.2.2.2.2.2.2.2.2.1, u_140.2.2.2.2.2.2.2.2.2.1, u_140.2.2.2.2.2.2.2.2.2.2.1, u_140.2.2.2.2.2.2.2.2.2.2.2.1, x_158, u_140.2.2.2.2.2.2.2.2.2.2.2.2.2)) (ci := 10) (v := .int x_158) (ty := .int) (Cn := RX11) (T := TX11) (N := 17) X inX11 tyX11 tyX11_ok nmX11 hP hD hS 0 rfl rfl 12 (by decide) (hts _ q_fl_X11_169) (fun _ h9 => h9) rfl (tyX11_ok 12 (by decide)) rfl rfl (Nat.le_of_ble_eq_true rfl) rfl dX11_acts_148 (fun H locs hP hD hS => ?_)
                      refine lv_goto (tgt := 48) hx hb dX11_acts_151 (by decide) ?_
                      obtain ⟨k_159, hk_159, hf⟩ := hf
                      exact (ih k_159 hk_159) _ _ _ (u_140.1, u_140.2.1, u_140.2.2.1, u_140.2.2.2.1, u_140.2.2.2.2.1, u_140.2.2.2.2.2.1, u_140.2.2.2.2.2.2.1, u_140.2.2.2.2.2.2.2.1, u_140.2.2.2.2.2.2.2.2.1, u_140.2.2.2.2.2.2.2.2.2.1, u_140.2.2.2.2.2.2.2.2.2.2.1, u_140.2.2.2.2.2.2.2.2.2.2.2.1, x_158, u_140.2.2.2.2.2.2.2.2.2.2.2.2.2) _ _ ls hf hP hD hS (lv_sub hl [3, 1, 2, 0] rfl)
                    · have hf := hf.2 c_157
                      refine lv_aload_n hx hb dX11_acts_133 rfl (lv_at hl 3 rfl) ?_
                      refine lv_aload_n hx hb dX11_acts_134 rfl (lv_at hl 3 rfl) ?_
                      refine va_get (D := (dC, dI)) (ci := 10) (v := .int u_140.2.2.2.2.2.2.2.2.2.2.2.2.1) (C := RX11) (T := TX11) (N := 17) hx hb hts inX11 hown hK hP 0 rfl rfl 12 (by decide) (hts _ q_fl_X11_169) (fun _ h9 => h9) rfl dX11_acts_135 ?_
                      refine z_mVv (Wn := (fun u_161 => cl_X11 cI cJ a u_161)) (As := [.int u_140.2.2.2.2.2.2.2.2.2.2.2.2.1]) (rest := []) (wr := []) X (c_X11_wrong l dC dI cI cJ cS a u_140 u_140.2.2.2.2.2.2.2.2.2.2.2.2.1 _ hf _) zc_X11_wrong q_ml_X11_187 ⟨rfl, rfl⟩ ⟨Nat.le_of_ble_eq_true rfl, Nat.le_of_ble_eq_true rfl⟩ hP hD hS hA [0, 1, 2, 3, 4, 5, 6, 7, 8] [] rfl (by decide) rfl (by decide) (by decide) [0, 1, 2, 3, 4, 5, 6, 7, 8] (by decide) (fun _ => rfl) 10 rfl rfl hl.1 rfl rfl (Nat.le_of_ble_eq_true rfl) ⟨Nat.zero_le _, Nat.zero_le _⟩ dX11_acts_138 (fun u_161 H locs hf hP hD hS => ?_)
                      refine lv_aload_n hx hb dX11_acts_141 rfl (lv_at hl 3 rfl) ?_
                      refine lv_dup hx hb dX11_acts_142 rfl ?_
                      refine va_get (D := (dC, dI)) (ci := 10) (v := .int u_161.2.2.2.2.2.2.2.2.2.2.2.2.1) (C := RX11) (T := TX11) (N := 17) hx hb hts inX11 hown hK hP 0 rfl rfl 12 (by decide) (hts _ q_fl_X11_169) (fun _ h9 => h9) rfl dX11_acts_143 ?_
                      refine lv_iconst (v := 1) hx hb dX11_acts_146 (by decide) ?_
                      refine lv_iadd hx hb dX11_acts_147 ?_
                      refine lv_topi (fun x_162 ex_162 => ?_)
                      have hf := hf x_162 ex_162
                      refine z_put (w' := cl_X11 cI cJ a (u_161.1, u_161.2.1, u_161.2.2.1, u_161.2.2.2.1, u_161.2.2.2.2.1, u_161.2.2.2.2.2.1, u_161.2.2.2.2.2.2.1, u_161.2.2.2.2.2.2.2.1, u_161.2.2.2.2.2.2.2.2.1, u_161.2.2.2.2.2.2.2.2.2.1, u_161.2.2.2.2.2.2.2.2.2.2.1, u_161.2.2.2.2.2.2.2.2.2.2.2.1, x_162, u_161.2.2.2.2.2.2.2.2.2.2.2.2.2)) (ci := 10) (v := .int x_162) (ty := .int) (Cn := RX11) (T := TX11) (N := 17) X inX11 tyX11 tyX11_ok nmX11 hP hD hS 0 rfl rfl 12 (by decide) (hts _ q_fl_X11_169) (fun _ h9 => h9) rfl (tyX11_ok 12 (by decide)) rfl rfl (Nat.le_of_ble_eq_true rfl) rfl dX11_acts_148 (fun H locs hP hD hS => ?_)
                      refine lv_goto (tgt := 48) hx hb dX11_acts_151 (by decide) ?_
                      obtain ⟨k_163, hk_163, hf⟩ := hf
                      exact (ih k_163 hk_163) _ _ _ (u_161.1, u_161.2.1, u_161.2.2.1, u_161.2.2.2.1, u_161.2.2.2.2.1, u_161.2.2.2.2.2.1, u_161.2.2.2.2.2.2.1, u_161.2.2.2.2.2.2.2.1, u_161.2.2.2.2.2.2.2.2.1, u_161.2.2.2.2.2.2.2.2.2.1, u_161.2.2.2.2.2.2.2.2.2.2.1, u_161.2.2.2.2.2.2.2.2.2.2.2.1, x_162, u_161.2.2.2.2.2.2.2.2.2.2.2.2.2) _ _ ls hf hP hD hS (lv_sub hl [3, 1, 2, 0] rfl)
  unfold t_X11_acts_e at hf
  refine lv_aload_n hx hb dX11_acts_0 rfl (lv_at hl 0 rfl) ?_
  refine lv_iconst (v := (-1)) hx hb dX11_acts_1 (by decide) ?_
  refine z_put (w' := cl_X11 cI cJ a (u.1, u.2.1, u.2.2.1, u.2.2.2.1, u.2.2.2.2.1, u.2.2.2.2.2.1, u.2.2.2.2.2.2.1, u.2.2.2.2.2.2.2.1, u.2.2.2.2.2.2.2.2.1, u.2.2.2.2.2.2.2.2.2.1, u.2.2.2.2.2.2.2.2.2.2.1, u.2.2.2.2.2.2.2.2.2.2.2.1, u.2.2.2.2.2.2.2.2.2.2.2.2.1, (-1 : Int32), u.2.2.2.2.2.2.2.2.2.2.2.2.2.2)) (ci := 10) (v := .int (-1 : Int32)) (ty := .int) (Cn := RX11) (T := TX11) (N := 17) X inX11 tyX11 tyX11_ok nmX11 hP hD hS 0 rfl rfl 13 (by decide) (hts _ q_fl_X11_29) (fun _ h9 => h9) rfl (tyX11_ok 13 (by decide)) rfl rfl (Nat.le_of_ble_eq_true rfl) rfl dX11_acts_2 (fun H locs hP hD hS => ?_)
  refine lv_aload_n hx hb dX11_acts_5 rfl (lv_at hl 0 rfl) ?_
  refine lv_aload_n hx hb dX11_acts_6 rfl (lv_at hl 0 rfl) ?_
  refine va_get (D := (dC, dI)) (ci := 10) (v := .int u.2.2.2.2.2.2.2.2.2.2.1) (C := RX11) (T := TX11) (N := 17) hx hb hts inX11 hown hK hP 0 rfl rfl 10 (by decide) (hts _ q_fl_X11_162) (fun _ h9 => h9) rfl dX11_acts_7 ?_
  refine lv_topi (fun x_1 ex_1 => ?_)
  have hf := hf x_1 ex_1
  refine z_put (w' := cl_X11 cI cJ a (u.1, u.2.1, u.2.2.1, u.2.2.2.1, u.2.2.2.2.1, u.2.2.2.2.2.1, u.2.2.2.2.2.2.1, u.2.2.2.2.2.2.2.1, u.2.2.2.2.2.2.2.2.1, u.2.2.2.2.2.2.2.2.2.1, u.2.2.2.2.2.2.2.2.2.2.1, x_1, u.2.2.2.2.2.2.2.2.2.2.2.2.1, (-1 : Int32), u.2.2.2.2.2.2.2.2.2.2.2.2.2.2)) (ci := 10) (v := .int x_1) (ty := .int) (Cn := RX11) (T := TX11) (N := 17) X inX11 tyX11 tyX11_ok nmX11 hP hD hS 0 rfl rfl 11 (by decide) (hts _ q_fl_X11_172) (fun _ h9 => h9) rfl (tyX11_ok 11 (by decide)) rfl rfl (Nat.le_of_ble_eq_true rfl) rfl dX11_acts_10 (fun H locs hP hD hS => ?_)
  refine lv_aload_n hx hb dX11_acts_13 rfl (lv_at hl 0 rfl) ?_
  refine lv_iconst (v := 0) hx hb dX11_acts_14 (by decide) ?_
  refine z_put (w' := cl_X11 cI cJ a (u.1, u.2.1, u.2.2.1, u.2.2.2.1, u.2.2.2.2.1, u.2.2.2.2.2.1, u.2.2.2.2.2.2.1, u.2.2.2.2.2.2.2.1, u.2.2.2.2.2.2.2.2.1, u.2.2.2.2.2.2.2.2.2.1, (0 : Int32), x_1, u.2.2.2.2.2.2.2.2.2.2.2.2.1, (-1 : Int32), u.2.2.2.2.2.2.2.2.2.2.2.2.2.2)) (ci := 10) (v := .int (0 : Int32)) (ty := .int) (Cn := RX11) (T := TX11) (N := 17) X inX11 tyX11 tyX11_ok nmX11 hP hD hS 0 rfl rfl 10 (by decide) (hts _ q_fl_X11_162) (fun _ h9 => h9) rfl (tyX11_ok 10 (by decide)) rfl rfl (Nat.le_of_ble_eq_true rfl) rfl dX11_acts_15 (fun H locs hP hD hS => ?_)
  refine lv_aload_n hx hb dX11_acts_18 rfl (lv_at hl 0 rfl) ?_
  refine lv_iconst (v := 0) hx hb dX11_acts_19 (by decide) ?_
  refine z_put (w' := cl_X11 cI cJ a (u.1, u.2.1, u.2.2.1, u.2.2.2.1, u.2.2.2.2.1, u.2.2.2.2.2.1, u.2.2.2.2.2.2.1, u.2.2.2.2.2.2.2.1, u.2.2.2.2.2.2.2.2.1, u.2.2.2.2.2.2.2.2.2.1, (0 : Int32), x_1, (0 : Int32), (-1 : Int32), u.2.2.2.2.2.2.2.2.2.2.2.2.2.2)) (ci := 10) (v := .int (0 : Int32)) (ty := .int) (Cn := RX11) (T := TX11) (N := 17) X inX11 tyX11 tyX11_ok nmX11 hP hD hS 0 rfl rfl 12 (by decide) (hts _ q_fl_X11_169) (fun _ h9 => h9) rfl (tyX11_ok 12 (by decide)) rfl rfl (Nat.le_of_ble_eq_true rfl) rfl dX11_acts_20 (fun H locs hP hD hS => ?_)
  refine lv_aload_n hx hb dX11_acts_23 rfl (lv_at hl 0 rfl) ?_
  refine z_mVv (Wn := (fun u_3 => cl_X11 cI cJ a u_3)) (As := []) (rest := []) (wr := []) X (c_X11_putsAside l dC dI cI cJ cS a (u.1, u.2.1, u.2.2.1, u.2.2.2.1, u.2.2.2.2.1, u.2.2.2.2.2.1, u.2.2.2.2.2.2.1, u.2.2.2.2.2.2.2.1, u.2.2.2.2.2.2.2.2.1, u.2.2.2.2.2.2.2.2.2.1, (0 : Int32), x_1, (0 : Int32), (-1 : Int32), u.2.2.2.2.2.2.2.2.2.2.2.2.2.2)  _ hf _) zc_X11_putsAside q_ml_X11_248 ⟨rfl, rfl⟩ ⟨Nat.le_of_ble_eq_true rfl, Nat.le_of_ble_eq_true rfl⟩ hP hD hS hA [0, 1, 2, 3, 4, 5, 6, 7, 8] [] rfl (by decide) rfl (by decide) (by decide) [0, 1, 2, 3, 4, 5, 6, 7, 8] (by decide) (fun _ => rfl) 10 rfl rfl hl.1 rfl rfl (Nat.le_of_ble_eq_true rfl) ⟨Nat.zero_le _, Nat.zero_le _⟩ dX11_acts_24 (fun u_3 H locs hf hP hD hS => ?_)
  refine lv_iconst (v := 0) hx hb dX11_acts_27 (by decide) ?_
  refine lv_istore_n (lv' := [(1, .int (0 : Int32)), (0, .ref (a 0))]) hx hb dX11_acts_28 rfl hl (by decide) rfl (fun ls hl => ?_)
  refine lv_iconst (v := 0) hx hb dX11_acts_29 (by decide) ?_
  refine lv_istore_n (lv' := [(2, .int (0 : Int32)), (1, .int (0 : Int32)), (0, .ref (a 0))]) hx hb dX11_acts_30 rfl hl (by decide) rfl (fun ls hl => ?_)
  refine lv_aload_n hx hb dX11_acts_31 rfl (lv_at hl 2 rfl) ?_
  refine z_mVi (Wn := (fun u_5 => cl_X11 cI cJ a u_5)) (As := []) (rest := []) (wr := []) X (c_X11_here l dC dI cI cJ cS a u_3  _ hf _) zc_X11_here q_ml_X11_175 ⟨rfl, rfl⟩ ⟨Nat.le_of_ble_eq_true rfl, Nat.le_of_ble_eq_true rfl⟩ hP hD hS hA [0, 1, 2, 3, 4, 5, 6, 7, 8] [] rfl (by decide) rfl (by decide) (by decide) [0, 1, 2, 3, 4, 5, 6, 7, 8] (by decide) (fun _ => rfl) 10 rfl rfl hl.1 rfl rfl (Nat.le_of_ble_eq_true rfl) ⟨Nat.zero_le _, Nat.zero_le _⟩ dX11_acts_32 (fun r_4 u_5 H locs hf hP hD hS => ?_)
  refine lv_aload_n hx hb dX11_acts_35 rfl (lv_at hl 2 rfl) ?_
  refine va_get (D := (dC, dI)) (ci := 10) (v := .int u_5.2.2.2.2.2.2.2.2.2.2.2.1) (C := RX11) (T := TX11) (N := 17) hx hb hts inX11 hown hK hP 0 rfl rfl 11 (by decide) (hts _ q_fl_X11_172) (fun _ h9 => h9) rfl dX11_acts_36 ?_
  refine lv_icmp_ge (tgt := 46) hx hb dX11_acts_39 (by decide) (fun c_6 => ?_) (fun c_6 => ?_)
  · have hf := hf.1 c_6
    refine lv_iconst (v := 0) hx hb dX11_acts_46 (by decide) ?_
    refine lv_istore_n (lv' := [(3, .int (0 : Int32)), (2, .int (0 : Int32)), (1, .int (0 : Int32)), (0, .ref (a 0))]) hx hb dX11_acts_47 rfl hl (by decide) rfl (fun ls hl => ?_)
    obtain ⟨k_7, hf⟩ := hf
    exact (LP k_7) _ _ _ u_5 _ _ ls hf hP hD hS (lv_sub hl [3, 2, 1, 0] rfl)
  · have hf := hf.2 c_6
    refine lv_iconst (v := 1) hx hb dX11_acts_42 (by decide) ?_
    refine lv_goto (tgt := 47) hx hb dX11_acts_43 (by decide) ?_
    refine lv_istore_n (lv' := [(3, .int (1 : Int32)), (2, .int (0 : Int32)), (1, .int (0 : Int32)), (0, .ref (a 0))]) hx hb dX11_acts_47 rfl hl (by decide) rfl (fun ls hl => ?_)
    obtain ⟨k_8, hf⟩ := hf
    exact (LP k_8) _ _ _ u_5 _ _ ls hf hP hD hS (lv_sub hl [3, 2, 1, 0] rfl)
theorem c_X11_acts (l : Launch) (dC : Nat → ClassId) (dI : Nat → Nat → Nat) (cI cJ cS : ClassId) (a : Nat → Nat) (u : zModel) (Q : Int32 → zModel → Prop) (hf : s_X11_acts u Q) : ∀ sz : Nat, Met l yX11_acts (Cond.code yX11_acts cX11_acts 4 (some .int) :: zT) rm_X11_acts (zPmF zFz dC dI cI cJ cS (cl_X11 cI cJ a u) [.ref (a 0)] sz) (va_Qi Q (zB dC dI cI cJ cS (va_A (cl_X11 cI cJ a u) sz) (fun z => cl_X11 cI cJ a z)) (va_A (cl_X11 cI cJ a u) sz)) 0 0 (va_A (cl_X11 cI cJ a u) sz) := by
  obtain ⟨I48, h48, hf⟩ := st_X11_acts hf
  exact L_X11_acts l dC dI cI cJ cS a u Q I48 h48 hf
