def acE (y1 y2 : Int32) (z : zModel) (Q : Int32 → zModel → Prop) : Prop := ((¬ z.2.2.2.2.2.2.2.2.2.2.2.2.2.1 = (-1 : Int32) → ((¬ (1 : Int32) = 0 → ((y2 ≤ 0 → ∀ x_13 : Int32, x_13 = z.2.2.2.2.2.2.2.2.1 → s_X11_putsBack ((1 : Int32), z.2.1, z.2.2.1, z.2.2.2.1, z.2.2.2.2.1, z.2.2.2.2.2.1, z.2.2.2.2.2.2.1, z.2.2.2.2.2.2.2.1, x_13, z.2.2.2.2.2.2.2.2.2) (fun (u_15 : zModel) => Q (0 : Int32) u_15)) ∧ (¬ y2 ≤ 0 → s_X11_putsBack ((1 : Int32), z.2.1, z.2.2.1, z.2.2.2.1, z.2.2.2.2.1, z.2.2.2.2.2.1, z.2.2.2.2.2.2.1, z.2.2.2.2.2.2.2.1, y2, z.2.2.2.2.2.2.2.2.2) (fun (u_17 : zModel) => Q (0 : Int32) u_17)))) ∧ ((1 : Int32) = 0 → ((y1 ≤ 0 → ∀ x_19 : Int32, x_19 = z.2.2.2.2.2.2.2.2.1 → Q y1 ((1 : Int32), z.2.1, z.2.2.1, z.2.2.2.1, z.2.2.2.2.1, z.2.2.2.2.2.1, (0 : Int32), z.2.2.2.2.2.2.2.1, x_19, z.2.2.2.2.2.2.2.2.2)) ∧ (¬ y1 ≤ 0 → Q y1 ((1 : Int32), z.2.1, z.2.2.1, z.2.2.2.1, z.2.2.2.2.1, z.2.2.2.2.2.1, (0 : Int32), z.2.2.2.2.2.2.2.1, (0 : Int32), z.2.2.2.2.2.2.2.2.2)))))) ∧ (z.2.2.2.2.2.2.2.2.2.2.2.2.2.1 = (-1 : Int32) → ((¬ (0 : Int32) = 0 → ((y2 ≤ 0 → ∀ x_22 : Int32, x_22 = z.2.2.2.2.2.2.2.2.1 → s_X11_putsBack ((0 : Int32), z.2.1, z.2.2.1, z.2.2.2.1, z.2.2.2.2.1, z.2.2.2.2.2.1, z.2.2.2.2.2.2.1, z.2.2.2.2.2.2.2.1, x_22, z.2.2.2.2.2.2.2.2.2) (fun (u_24 : zModel) => Q (0 : Int32) u_24)) ∧ (¬ y2 ≤ 0 → s_X11_putsBack ((0 : Int32), z.2.1, z.2.2.1, z.2.2.2.1, z.2.2.2.2.1, z.2.2.2.2.2.1, z.2.2.2.2.2.2.1, z.2.2.2.2.2.2.2.1, y2, z.2.2.2.2.2.2.2.2.2) (fun (u_26 : zModel) => Q (0 : Int32) u_26)))) ∧ ((0 : Int32) = 0 → ((y1 ≤ 0 → ∀ x_28 : Int32, x_28 = z.2.2.2.2.2.2.2.2.1 → Q y1 ((0 : Int32), z.2.1, z.2.2.1, z.2.2.2.1, z.2.2.2.2.1, z.2.2.2.2.2.1, (0 : Int32), z.2.2.2.2.2.2.2.1, x_28, z.2.2.2.2.2.2.2.2.2)) ∧ (¬ y1 ≤ 0 → Q y1 ((0 : Int32), z.2.1, z.2.2.1, z.2.2.2.1, z.2.2.2.2.1, z.2.2.2.2.2.1, (0 : Int32), z.2.2.2.2.2.2.2.1, (0 : Int32), z.2.2.2.2.2.2.2.2.2)))))))
def acT (n' c' r : Int32) (w : zModel) (K48 : Int32 → Int32 → Int32 → zModel → Prop) : Prop := ((w.2.2.2.2.2.2.2.2.2.2.2.1 ≤ r → (((0 : Int32) = 0 → K48 n' c' (0 : Int32) w) ∧ (¬ (0 : Int32) = 0 → ((¬ w.2.2.2.2.2.2.2.2.2.2.2.2.2.1 = (-1 : Int32) → K48 n' c' (0 : Int32) w) ∧ (w.2.2.2.2.2.2.2.2.2.2.2.2.2.1 = (-1 : Int32) → vp_in w.2.2.2.2.2.2.2.2.2.2.2.2.1 400 ∧ (((w.2.2.2.2.2.2.2.2.2.1 w.2.2.2.2.2.2.2.2.2.2.2.2.1.toNatClampNeg) = (59 : Int32) → ∀ x_88 : Int32, x_88 = (w.2.2.2.2.2.2.2.2.2.2.2.2.1 + (1 : Int32)) → K48 n' c' (0 : Int32) (w.1, w.2.1, w.2.2.1, w.2.2.2.1, w.2.2.2.2.1, w.2.2.2.2.2.1, w.2.2.2.2.2.2.1, w.2.2.2.2.2.2.2.1, w.2.2.2.2.2.2.2.2.1, w.2.2.2.2.2.2.2.2.2.1, w.2.2.2.2.2.2.2.2.2.2.1, w.2.2.2.2.2.2.2.2.2.2.2.1, x_88, w.2.2.2.2.2.2.2.2.2.2.2.2.2)) ∧ (¬ (w.2.2.2.2.2.2.2.2.2.1 w.2.2.2.2.2.2.2.2.2.2.2.2.1.toNatClampNeg) = (59 : Int32) → s_X11_wrong w w.2.2.2.2.2.2.2.2.2.2.2.2.1 (fun (u_91 : zModel) => ∀ x_92 : Int32, x_92 = (u_91.2.2.2.2.2.2.2.2.2.2.2.2.1 + (1 : Int32)) → K48 n' c' (0 : Int32) (u_91.1, u_91.2.1, u_91.2.2.1, u_91.2.2.2.1, u_91.2.2.2.2.1, u_91.2.2.2.2.2.1, u_91.2.2.2.2.2.2.1, u_91.2.2.2.2.2.2.2.1, u_91.2.2.2.2.2.2.2.2.1, u_91.2.2.2.2.2.2.2.2.2.1, u_91.2.2.2.2.2.2.2.2.2.2.1, u_91.2.2.2.2.2.2.2.2.2.2.2.1, x_92, u_91.2.2.2.2.2.2.2.2.2.2.2.2.2))))))))) ∧ (¬ w.2.2.2.2.2.2.2.2.2.2.2.1 ≤ r → (((1 : Int32) = 0 → K48 n' c' (1 : Int32) w) ∧ (¬ (1 : Int32) = 0 → ((¬ w.2.2.2.2.2.2.2.2.2.2.2.2.2.1 = (-1 : Int32) → K48 n' c' (1 : Int32) w) ∧ (w.2.2.2.2.2.2.2.2.2.2.2.2.2.1 = (-1 : Int32) → vp_in w.2.2.2.2.2.2.2.2.2.2.2.2.1 400 ∧ (((w.2.2.2.2.2.2.2.2.2.1 w.2.2.2.2.2.2.2.2.2.2.2.2.1.toNatClampNeg) = (59 : Int32) → ∀ x_99 : Int32, x_99 = (w.2.2.2.2.2.2.2.2.2.2.2.2.1 + (1 : Int32)) → K48 n' c' (1 : Int32) (w.1, w.2.1, w.2.2.1, w.2.2.2.1, w.2.2.2.2.1, w.2.2.2.2.2.1, w.2.2.2.2.2.2.1, w.2.2.2.2.2.2.2.1, w.2.2.2.2.2.2.2.2.1, w.2.2.2.2.2.2.2.2.2.1, w.2.2.2.2.2.2.2.2.2.2.1, w.2.2.2.2.2.2.2.2.2.2.2.1, x_99, w.2.2.2.2.2.2.2.2.2.2.2.2.2)) ∧ (¬ (w.2.2.2.2.2.2.2.2.2.1 w.2.2.2.2.2.2.2.2.2.2.2.2.1.toNatClampNeg) = (59 : Int32) → s_X11_wrong w w.2.2.2.2.2.2.2.2.2.2.2.2.1 (fun (u_102 : zModel) => ∀ x_103 : Int32, x_103 = (u_102.2.2.2.2.2.2.2.2.2.2.2.2.1 + (1 : Int32)) → K48 n' c' (1 : Int32) (u_102.1, u_102.2.1, u_102.2.2.1, u_102.2.2.2.1, u_102.2.2.2.2.1, u_102.2.2.2.2.2.1, u_102.2.2.2.2.2.2.1, u_102.2.2.2.2.2.2.2.1, u_102.2.2.2.2.2.2.2.2.1, u_102.2.2.2.2.2.2.2.2.2.1, u_102.2.2.2.2.2.2.2.2.2.2.1, u_102.2.2.2.2.2.2.2.2.2.2.2.1, x_103, u_102.2.2.2.2.2.2.2.2.2.2.2.2.2))))))))))

def t_X11_acts_e (u : zModel) (K48 : Int32 → Int32 → Int32 → zModel → Prop) (Q : Int32 → zModel → Prop) : Prop := ∀ x_1 : Int32, x_1 = u.2.2.2.2.2.2.2.2.2.2.1 → s_X11_putsAside (u.1, u.2.1, u.2.2.1, u.2.2.2.1, u.2.2.2.2.1, u.2.2.2.2.2.1, u.2.2.2.2.2.2.1, u.2.2.2.2.2.2.2.1, u.2.2.2.2.2.2.2.2.1, u.2.2.2.2.2.2.2.2.2.1, (0 : Int32), x_1, (0 : Int32), (-1 : Int32), u.2.2.2.2.2.2.2.2.2.2.2.2.2.2) (fun (u_3 : zModel) => s_X11_here u_3 (fun (r_4 : Int32) (u_5 : zModel) => ((u_5.2.2.2.2.2.2.2.2.2.2.2.1 ≤ r_4 → K48 (0 : Int32) (0 : Int32) (0 : Int32) u_5) ∧ (¬ u_5.2.2.2.2.2.2.2.2.2.2.2.1 ≤ r_4 → K48 (0 : Int32) (0 : Int32) (1 : Int32) u_5))))
def t_X11_acts_48 (y1 : Int32) (y2 : Int32) (y3 : Int32) (z : zModel) (K48 : Int32 → Int32 → Int32 → zModel → Prop) (Q : Int32 → zModel → Prop) : Prop := ((y3 = 0 → ((¬ z.2.2.2.2.2.2.2.2.2.2.2.2.2.1 = (-1 : Int32) → ((¬ (1 : Int32) = 0 → ((y2 ≤ 0 → ∀ x_13 : Int32, x_13 = z.2.2.2.2.2.2.2.2.1 → s_X11_putsBack ((1 : Int32), z.2.1, z.2.2.1, z.2.2.2.1, z.2.2.2.2.1, z.2.2.2.2.2.1, z.2.2.2.2.2.2.1, z.2.2.2.2.2.2.2.1, x_13, z.2.2.2.2.2.2.2.2.2) (fun (u_15 : zModel) => Q (0 : Int32) u_15)) ∧ (¬ y2 ≤ 0 → s_X11_putsBack ((1 : Int32), z.2.1, z.2.2.1, z.2.2.2.1, z.2.2.2.2.1, z.2.2.2.2.2.1, z.2.2.2.2.2.2.1, z.2.2.2.2.2.2.2.1, y2, z.2.2.2.2.2.2.2.2.2) (fun (u_17 : zModel) => Q (0 : Int32) u_17)))) ∧ ((1 : Int32) = 0 → ((y1 ≤ 0 → ∀ x_19 : Int32, x_19 = z.2.2.2.2.2.2.2.2.1 → Q y1 ((1 : Int32), z.2.1, z.2.2.1, z.2.2.2.1, z.2.2.2.2.1, z.2.2.2.2.2.1, (0 : Int32), z.2.2.2.2.2.2.2.1, x_19, z.2.2.2.2.2.2.2.2.2)) ∧ (¬ y1 ≤ 0 → Q y1 ((1 : Int32), z.2.1, z.2.2.1, z.2.2.2.1, z.2.2.2.2.1, z.2.2.2.2.2.1, (0 : Int32), z.2.2.2.2.2.2.2.1, (0 : Int32), z.2.2.2.2.2.2.2.2.2)))))) ∧ (z.2.2.2.2.2.2.2.2.2.2.2.2.2.1 = (-1 : Int32) → ((¬ (0 : Int32) = 0 → ((y2 ≤ 0 → ∀ x_22 : Int32, x_22 = z.2.2.2.2.2.2.2.2.1 → s_X11_putsBack ((0 : Int32), z.2.1, z.2.2.1, z.2.2.2.1, z.2.2.2.2.1, z.2.2.2.2.2.1, z.2.2.2.2.2.2.1, z.2.2.2.2.2.2.2.1, x_22, z.2.2.2.2.2.2.2.2.2) (fun (u_24 : zModel) => Q (0 : Int32) u_24)) ∧ (¬ y2 ≤ 0 → s_X11_putsBack ((0 : Int32), z.2.1, z.2.2.1, z.2.2.2.1, z.2.2.2.2.1, z.2.2.2.2.2.1, z.2.2.2.2.2.2.1, z.2.2.2.2.2.2.2.1, y2, z.2.2.2.2.2.2.2.2.2) (fun (u_26 : zModel) => Q (0 : Int32) u_26)))) ∧ ((0 : Int32) = 0 → ((y1 ≤ 0 → ∀ x_28 : Int32, x_28 = z.2.2.2.2.2.2.2.2.1 → Q y1 ((0 : Int32), z.2.1, z.2.2.1, z.2.2.2.1, z.2.2.2.2.1, z.2.2.2.2.2.1, (0 : Int32), z.2.2.2.2.2.2.2.1, x_28, z.2.2.2.2.2.2.2.2.2)) ∧ (¬ y1 ≤ 0 → Q y1 ((0 : Int32), z.2.1, z.2.2.1, z.2.2.2.1, z.2.2.2.2.1, z.2.2.2.2.2.1, (0 : Int32), z.2.2.2.2.2.2.2.1, (0 : Int32), z.2.2.2.2.2.2.2.2.2)))))))) ∧ (¬ y3 = 0 → ((¬ z.2.2.2.2.2.2.2.2.2.2.2.2.2.1 = (-1 : Int32) → ((¬ z.2.2.2.2.2.2.2.2.2.2.2.2.2.1 = (-1 : Int32) → ((¬ (1 : Int32) = 0 → ((y2 ≤ 0 → ∀ x_33 : Int32, x_33 = z.2.2.2.2.2.2.2.2.1 → s_X11_putsBack ((1 : Int32), z.2.1, z.2.2.1, z.2.2.2.1, z.2.2.2.2.1, z.2.2.2.2.2.1, z.2.2.2.2.2.2.1, z.2.2.2.2.2.2.2.1, x_33, z.2.2.2.2.2.2.2.2.2) (fun (u_35 : zModel) => Q (0 : Int32) u_35)) ∧ (¬ y2 ≤ 0 → s_X11_putsBack ((1 : Int32), z.2.1, z.2.2.1, z.2.2.2.1, z.2.2.2.2.1, z.2.2.2.2.2.1, z.2.2.2.2.2.2.1, z.2.2.2.2.2.2.2.1, y2, z.2.2.2.2.2.2.2.2.2) (fun (u_37 : zModel) => Q (0 : Int32) u_37)))) ∧ ((1 : Int32) = 0 → ((y1 ≤ 0 → ∀ x_39 : Int32, x_39 = z.2.2.2.2.2.2.2.2.1 → Q y1 ((1 : Int32), z.2.1, z.2.2.1, z.2.2.2.1, z.2.2.2.2.1, z.2.2.2.2.2.1, (0 : Int32), z.2.2.2.2.2.2.2.1, x_39, z.2.2.2.2.2.2.2.2.2)) ∧ (¬ y1 ≤ 0 → Q y1 ((1 : Int32), z.2.1, z.2.2.1, z.2.2.2.1, z.2.2.2.2.1, z.2.2.2.2.2.1, (0 : Int32), z.2.2.2.2.2.2.2.1, (0 : Int32), z.2.2.2.2.2.2.2.2.2)))))) ∧ (z.2.2.2.2.2.2.2.2.2.2.2.2.2.1 = (-1 : Int32) → ((¬ (0 : Int32) = 0 → ((y2 ≤ 0 → ∀ x_42 : Int32, x_42 = z.2.2.2.2.2.2.2.2.1 → s_X11_putsBack ((0 : Int32), z.2.1, z.2.2.1, z.2.2.2.1, z.2.2.2.2.1, z.2.2.2.2.2.1, z.2.2.2.2.2.2.1, z.2.2.2.2.2.2.2.1, x_42, z.2.2.2.2.2.2.2.2.2) (fun (u_44 : zModel) => Q (0 : Int32) u_44)) ∧ (¬ y2 ≤ 0 → s_X11_putsBack ((0 : Int32), z.2.1, z.2.2.1, z.2.2.2.1, z.2.2.2.2.1, z.2.2.2.2.2.1, z.2.2.2.2.2.2.1, z.2.2.2.2.2.2.2.1, y2, z.2.2.2.2.2.2.2.2.2) (fun (u_46 : zModel) => Q (0 : Int32) u_46)))) ∧ ((0 : Int32) = 0 → ((y1 ≤ 0 → ∀ x_48 : Int32, x_48 = z.2.2.2.2.2.2.2.2.1 → Q y1 ((0 : Int32), z.2.1, z.2.2.1, z.2.2.2.1, z.2.2.2.2.1, z.2.2.2.2.2.1, (0 : Int32), z.2.2.2.2.2.2.2.1, x_48, z.2.2.2.2.2.2.2.2.2)) ∧ (¬ y1 ≤ 0 → Q y1 ((0 : Int32), z.2.1, z.2.2.1, z.2.2.2.1, z.2.2.2.2.1, z.2.2.2.2.2.1, (0 : Int32), z.2.2.2.2.2.2.2.1, (0 : Int32), z.2.2.2.2.2.2.2.2.2)))))))) ∧ (z.2.2.2.2.2.2.2.2.2.2.2.2.2.1 = (-1 : Int32) → ((¬ y1 = (14 : Int32) → ((¬ z.2.2.2.2.2.2.2.2.2.2.2.2.2.1 = (-1 : Int32) → ∀ x_51 : Int32, x_51 = y1 + (1 : Int32) → s_X11_here z (fun (r_52 : Int32) (u_53 : zModel) => ((u_53.2.2.2.2.2.2.2.2.2.2.2.1 ≤ r_52 → (((0 : Int32) = 0 → K48 x_51 y2 (0 : Int32) u_53) ∧ (¬ (0 : Int32) = 0 → ((¬ u_53.2.2.2.2.2.2.2.2.2.2.2.2.2.1 = (-1 : Int32) → K48 x_51 y2 (0 : Int32) u_53) ∧ (u_53.2.2.2.2.2.2.2.2.2.2.2.2.2.1 = (-1 : Int32) → vp_in u_53.2.2.2.2.2.2.2.2.2.2.2.2.1 400 ∧ (((u_53.2.2.2.2.2.2.2.2.2.1 u_53.2.2.2.2.2.2.2.2.2.2.2.2.1.toNatClampNeg) = (59 : Int32) → ∀ x_60 : Int32, x_60 = (u_53.2.2.2.2.2.2.2.2.2.2.2.2.1 + (1 : Int32)) → K48 x_51 y2 (0 : Int32) (u_53.1, u_53.2.1, u_53.2.2.1, u_53.2.2.2.1, u_53.2.2.2.2.1, u_53.2.2.2.2.2.1, u_53.2.2.2.2.2.2.1, u_53.2.2.2.2.2.2.2.1, u_53.2.2.2.2.2.2.2.2.1, u_53.2.2.2.2.2.2.2.2.2.1, u_53.2.2.2.2.2.2.2.2.2.2.1, u_53.2.2.2.2.2.2.2.2.2.2.2.1, x_60, u_53.2.2.2.2.2.2.2.2.2.2.2.2.2)) ∧ (¬ (u_53.2.2.2.2.2.2.2.2.2.1 u_53.2.2.2.2.2.2.2.2.2.2.2.2.1.toNatClampNeg) = (59 : Int32) → s_X11_wrong u_53 u_53.2.2.2.2.2.2.2.2.2.2.2.2.1 (fun (u_63 : zModel) => ∀ x_64 : Int32, x_64 = (u_63.2.2.2.2.2.2.2.2.2.2.2.2.1 + (1 : Int32)) → K48 x_51 y2 (0 : Int32) (u_63.1, u_63.2.1, u_63.2.2.1, u_63.2.2.2.1, u_63.2.2.2.2.1, u_63.2.2.2.2.2.1, u_63.2.2.2.2.2.2.1, u_63.2.2.2.2.2.2.2.1, u_63.2.2.2.2.2.2.2.2.1, u_63.2.2.2.2.2.2.2.2.2.1, u_63.2.2.2.2.2.2.2.2.2.2.1, u_63.2.2.2.2.2.2.2.2.2.2.2.1, x_64, u_63.2.2.2.2.2.2.2.2.2.2.2.2.2))))))))) ∧ (¬ u_53.2.2.2.2.2.2.2.2.2.2.2.1 ≤ r_52 → (((1 : Int32) = 0 → K48 x_51 y2 (1 : Int32) u_53) ∧ (¬ (1 : Int32) = 0 → ((¬ u_53.2.2.2.2.2.2.2.2.2.2.2.2.2.1 = (-1 : Int32) → K48 x_51 y2 (1 : Int32) u_53) ∧ (u_53.2.2.2.2.2.2.2.2.2.2.2.2.2.1 = (-1 : Int32) → vp_in u_53.2.2.2.2.2.2.2.2.2.2.2.2.1 400 ∧ (((u_53.2.2.2.2.2.2.2.2.2.1 u_53.2.2.2.2.2.2.2.2.2.2.2.2.1.toNatClampNeg) = (59 : Int32) → ∀ x_71 : Int32, x_71 = (u_53.2.2.2.2.2.2.2.2.2.2.2.2.1 + (1 : Int32)) → K48 x_51 y2 (1 : Int32) (u_53.1, u_53.2.1, u_53.2.2.1, u_53.2.2.2.1, u_53.2.2.2.2.1, u_53.2.2.2.2.2.1, u_53.2.2.2.2.2.2.1, u_53.2.2.2.2.2.2.2.1, u_53.2.2.2.2.2.2.2.2.1, u_53.2.2.2.2.2.2.2.2.2.1, u_53.2.2.2.2.2.2.2.2.2.2.1, u_53.2.2.2.2.2.2.2.2.2.2.2.1, x_71, u_53.2.2.2.2.2.2.2.2.2.2.2.2.2)) ∧ (¬ (u_53.2.2.2.2.2.2.2.2.2.1 u_53.2.2.2.2.2.2.2.2.2.2.2.2.1.toNatClampNeg) = (59 : Int32) → s_X11_wrong u_53 u_53.2.2.2.2.2.2.2.2.2.2.2.2.1 (fun (u_74 : zModel) => ∀ x_75 : Int32, x_75 = (u_74.2.2.2.2.2.2.2.2.2.2.2.2.1 + (1 : Int32)) → K48 x_51 y2 (1 : Int32) (u_74.1, u_74.2.1, u_74.2.2.1, u_74.2.2.2.1, u_74.2.2.2.2.1, u_74.2.2.2.2.2.1, u_74.2.2.2.2.2.2.1, u_74.2.2.2.2.2.2.2.1, u_74.2.2.2.2.2.2.2.2.1, u_74.2.2.2.2.2.2.2.2.2.1, u_74.2.2.2.2.2.2.2.2.2.2.1, u_74.2.2.2.2.2.2.2.2.2.2.2.1, x_75, u_74.2.2.2.2.2.2.2.2.2.2.2.2.2)))))))))))) ∧ (z.2.2.2.2.2.2.2.2.2.2.2.2.2.1 = (-1 : Int32) → s_X11_act z (fun (r_77 : Int32) (u_78 : zModel) => ∀ x_79 : Int32, x_79 = y1 + (1 : Int32) → s_X11_here u_78 (fun (r_80 : Int32) (u_81 : zModel) => ((u_81.2.2.2.2.2.2.2.2.2.2.2.1 ≤ r_80 → (((0 : Int32) = 0 → K48 x_79 r_77 (0 : Int32) u_81) ∧ (¬ (0 : Int32) = 0 → ((¬ u_81.2.2.2.2.2.2.2.2.2.2.2.2.2.1 = (-1 : Int32) → K48 x_79 r_77 (0 : Int32) u_81) ∧ (u_81.2.2.2.2.2.2.2.2.2.2.2.2.2.1 = (-1 : Int32) → vp_in u_81.2.2.2.2.2.2.2.2.2.2.2.2.1 400 ∧ (((u_81.2.2.2.2.2.2.2.2.2.1 u_81.2.2.2.2.2.2.2.2.2.2.2.2.1.toNatClampNeg) = (59 : Int32) → ∀ x_88 : Int32, x_88 = (u_81.2.2.2.2.2.2.2.2.2.2.2.2.1 + (1 : Int32)) → K48 x_79 r_77 (0 : Int32) (u_81.1, u_81.2.1, u_81.2.2.1, u_81.2.2.2.1, u_81.2.2.2.2.1, u_81.2.2.2.2.2.1, u_81.2.2.2.2.2.2.1, u_81.2.2.2.2.2.2.2.1, u_81.2.2.2.2.2.2.2.2.1, u_81.2.2.2.2.2.2.2.2.2.1, u_81.2.2.2.2.2.2.2.2.2.2.1, u_81.2.2.2.2.2.2.2.2.2.2.2.1, x_88, u_81.2.2.2.2.2.2.2.2.2.2.2.2.2)) ∧ (¬ (u_81.2.2.2.2.2.2.2.2.2.1 u_81.2.2.2.2.2.2.2.2.2.2.2.2.1.toNatClampNeg) = (59 : Int32) → s_X11_wrong u_81 u_81.2.2.2.2.2.2.2.2.2.2.2.2.1 (fun (u_91 : zModel) => ∀ x_92 : Int32, x_92 = (u_91.2.2.2.2.2.2.2.2.2.2.2.2.1 + (1 : Int32)) → K48 x_79 r_77 (0 : Int32) (u_91.1, u_91.2.1, u_91.2.2.1, u_91.2.2.2.1, u_91.2.2.2.2.1, u_91.2.2.2.2.2.1, u_91.2.2.2.2.2.2.1, u_91.2.2.2.2.2.2.2.1, u_91.2.2.2.2.2.2.2.2.1, u_91.2.2.2.2.2.2.2.2.2.1, u_91.2.2.2.2.2.2.2.2.2.2.1, u_91.2.2.2.2.2.2.2.2.2.2.2.1, x_92, u_91.2.2.2.2.2.2.2.2.2.2.2.2.2))))))))) ∧ (¬ u_81.2.2.2.2.2.2.2.2.2.2.2.1 ≤ r_80 → (((1 : Int32) = 0 → K48 x_79 r_77 (1 : Int32) u_81) ∧ (¬ (1 : Int32) = 0 → ((¬ u_81.2.2.2.2.2.2.2.2.2.2.2.2.2.1 = (-1 : Int32) → K48 x_79 r_77 (1 : Int32) u_81) ∧ (u_81.2.2.2.2.2.2.2.2.2.2.2.2.2.1 = (-1 : Int32) → vp_in u_81.2.2.2.2.2.2.2.2.2.2.2.2.1 400 ∧ (((u_81.2.2.2.2.2.2.2.2.2.1 u_81.2.2.2.2.2.2.2.2.2.2.2.2.1.toNatClampNeg) = (59 : Int32) → ∀ x_99 : Int32, x_99 = (u_81.2.2.2.2.2.2.2.2.2.2.2.2.1 + (1 : Int32)) → K48 x_79 r_77 (1 : Int32) (u_81.1, u_81.2.1, u_81.2.2.1, u_81.2.2.2.1, u_81.2.2.2.2.1, u_81.2.2.2.2.2.1, u_81.2.2.2.2.2.2.1, u_81.2.2.2.2.2.2.2.1, u_81.2.2.2.2.2.2.2.2.1, u_81.2.2.2.2.2.2.2.2.2.1, u_81.2.2.2.2.2.2.2.2.2.2.1, u_81.2.2.2.2.2.2.2.2.2.2.2.1, x_99, u_81.2.2.2.2.2.2.2.2.2.2.2.2.2)) ∧ (¬ (u_81.2.2.2.2.2.2.2.2.2.1 u_81.2.2.2.2.2.2.2.2.2.2.2.2.1.toNatClampNeg) = (59 : Int32) → s_X11_wrong u_81 u_81.2.2.2.2.2.2.2.2.2.2.2.2.1 (fun (u_102 : zModel) => ∀ x_103 : Int32, x_103 = (u_102.2.2.2.2.2.2.2.2.2.2.2.2.1 + (1 : Int32)) → K48 x_79 r_77 (1 : Int32) (u_102.1, u_102.2.1, u_102.2.2.1, u_102.2.2.2.1, u_102.2.2.2.2.1, u_102.2.2.2.2.2.1, u_102.2.2.2.2.2.2.1, u_102.2.2.2.2.2.2.2.1, u_102.2.2.2.2.2.2.2.2.1, u_102.2.2.2.2.2.2.2.2.2.1, u_102.2.2.2.2.2.2.2.2.2.2.1, u_102.2.2.2.2.2.2.2.2.2.2.2.1, x_103, u_102.2.2.2.2.2.2.2.2.2.2.2.2.2))))))))))))))) ∧ (y1 = (14 : Int32) → s_X11_here z (fun (r_105 : Int32) (u_106 : zModel) => s_X11_wrong u_106 r_105 (fun (u_108 : zModel) => ((¬ u_108.2.2.2.2.2.2.2.2.2.2.2.2.2.1 = (-1 : Int32) → ∀ x_110 : Int32, x_110 = y1 + (1 : Int32) → s_X11_here u_108 (fun (r_111 : Int32) (u_112 : zModel) => ((u_112.2.2.2.2.2.2.2.2.2.2.2.1 ≤ r_111 → (((0 : Int32) = 0 → K48 x_110 y2 (0 : Int32) u_112) ∧ (¬ (0 : Int32) = 0 → ((¬ u_112.2.2.2.2.2.2.2.2.2.2.2.2.2.1 = (-1 : Int32) → K48 x_110 y2 (0 : Int32) u_112) ∧ (u_112.2.2.2.2.2.2.2.2.2.2.2.2.2.1 = (-1 : Int32) → vp_in u_112.2.2.2.2.2.2.2.2.2.2.2.2.1 400 ∧ (((u_112.2.2.2.2.2.2.2.2.2.1 u_112.2.2.2.2.2.2.2.2.2.2.2.2.1.toNatClampNeg) = (59 : Int32) → ∀ x_119 : Int32, x_119 = (u_112.2.2.2.2.2.2.2.2.2.2.2.2.1 + (1 : Int32)) → K48 x_110 y2 (0 : Int32) (u_112.1, u_112.2.1, u_112.2.2.1, u_112.2.2.2.1, u_112.2.2.2.2.1, u_112.2.2.2.2.2.1, u_112.2.2.2.2.2.2.1, u_112.2.2.2.2.2.2.2.1, u_112.2.2.2.2.2.2.2.2.1, u_112.2.2.2.2.2.2.2.2.2.1, u_112.2.2.2.2.2.2.2.2.2.2.1, u_112.2.2.2.2.2.2.2.2.2.2.2.1, x_119, u_112.2.2.2.2.2.2.2.2.2.2.2.2.2)) ∧ (¬ (u_112.2.2.2.2.2.2.2.2.2.1 u_112.2.2.2.2.2.2.2.2.2.2.2.2.1.toNatClampNeg) = (59 : Int32) → s_X11_wrong u_112 u_112.2.2.2.2.2.2.2.2.2.2.2.2.1 (fun (u_122 : zModel) => ∀ x_123 : Int32, x_123 = (u_122.2.2.2.2.2.2.2.2.2.2.2.2.1 + (1 : Int32)) → K48 x_110 y2 (0 : Int32) (u_122.1, u_122.2.1, u_122.2.2.1, u_122.2.2.2.1, u_122.2.2.2.2.1, u_122.2.2.2.2.2.1, u_122.2.2.2.2.2.2.1, u_122.2.2.2.2.2.2.2.1, u_122.2.2.2.2.2.2.2.2.1, u_122.2.2.2.2.2.2.2.2.2.1, u_122.2.2.2.2.2.2.2.2.2.2.1, u_122.2.2.2.2.2.2.2.2.2.2.2.1, x_123, u_122.2.2.2.2.2.2.2.2.2.2.2.2.2))))))))) ∧ (¬ u_112.2.2.2.2.2.2.2.2.2.2.2.1 ≤ r_111 → (((1 : Int32) = 0 → K48 x_110 y2 (1 : Int32) u_112) ∧ (¬ (1 : Int32) = 0 → ((¬ u_112.2.2.2.2.2.2.2.2.2.2.2.2.2.1 = (-1 : Int32) → K48 x_110 y2 (1 : Int32) u_112) ∧ (u_112.2.2.2.2.2.2.2.2.2.2.2.2.2.1 = (-1 : Int32) → vp_in u_112.2.2.2.2.2.2.2.2.2.2.2.2.1 400 ∧ (((u_112.2.2.2.2.2.2.2.2.2.1 u_112.2.2.2.2.2.2.2.2.2.2.2.2.1.toNatClampNeg) = (59 : Int32) → ∀ x_130 : Int32, x_130 = (u_112.2.2.2.2.2.2.2.2.2.2.2.2.1 + (1 : Int32)) → K48 x_110 y2 (1 : Int32) (u_112.1, u_112.2.1, u_112.2.2.1, u_112.2.2.2.1, u_112.2.2.2.2.1, u_112.2.2.2.2.2.1, u_112.2.2.2.2.2.2.1, u_112.2.2.2.2.2.2.2.1, u_112.2.2.2.2.2.2.2.2.1, u_112.2.2.2.2.2.2.2.2.2.1, u_112.2.2.2.2.2.2.2.2.2.2.1, u_112.2.2.2.2.2.2.2.2.2.2.2.1, x_130, u_112.2.2.2.2.2.2.2.2.2.2.2.2.2)) ∧ (¬ (u_112.2.2.2.2.2.2.2.2.2.1 u_112.2.2.2.2.2.2.2.2.2.2.2.2.1.toNatClampNeg) = (59 : Int32) → s_X11_wrong u_112 u_112.2.2.2.2.2.2.2.2.2.2.2.2.1 (fun (u_133 : zModel) => ∀ x_134 : Int32, x_134 = (u_133.2.2.2.2.2.2.2.2.2.2.2.2.1 + (1 : Int32)) → K48 x_110 y2 (1 : Int32) (u_133.1, u_133.2.1, u_133.2.2.1, u_133.2.2.2.1, u_133.2.2.2.2.1, u_133.2.2.2.2.2.1, u_133.2.2.2.2.2.2.1, u_133.2.2.2.2.2.2.2.1, u_133.2.2.2.2.2.2.2.2.1, u_133.2.2.2.2.2.2.2.2.2.1, u_133.2.2.2.2.2.2.2.2.2.2.1, u_133.2.2.2.2.2.2.2.2.2.2.2.1, x_134, u_133.2.2.2.2.2.2.2.2.2.2.2.2.2)))))))))))) ∧ (u_108.2.2.2.2.2.2.2.2.2.2.2.2.2.1 = (-1 : Int32) → s_X11_act u_108 (fun (r_136 : Int32) (u_137 : zModel) => ∀ x_138 : Int32, x_138 = y1 + (1 : Int32) → s_X11_here u_137 (fun (r_139 : Int32) (u_140 : zModel) => ((u_140.2.2.2.2.2.2.2.2.2.2.2.1 ≤ r_139 → (((0 : Int32) = 0 → K48 x_138 r_136 (0 : Int32) u_140) ∧ (¬ (0 : Int32) = 0 → ((¬ u_140.2.2.2.2.2.2.2.2.2.2.2.2.2.1 = (-1 : Int32) → K48 x_138 r_136 (0 : Int32) u_140) ∧ (u_140.2.2.2.2.2.2.2.2.2.2.2.2.2.1 = (-1 : Int32) → vp_in u_140.2.2.2.2.2.2.2.2.2.2.2.2.1 400 ∧ (((u_140.2.2.2.2.2.2.2.2.2.1 u_140.2.2.2.2.2.2.2.2.2.2.2.2.1.toNatClampNeg) = (59 : Int32) → ∀ x_147 : Int32, x_147 = (u_140.2.2.2.2.2.2.2.2.2.2.2.2.1 + (1 : Int32)) → K48 x_138 r_136 (0 : Int32) (u_140.1, u_140.2.1, u_140.2.2.1, u_140.2.2.2.1, u_140.2.2.2.2.1, u_140.2.2.2.2.2.1, u_140.2.2.2.2.2.2.1, u_140.2.2.2.2.2.2.2.1, u_140.2.2.2.2.2.2.2.2.1, u_140.2.2.2.2.2.2.2.2.2.1, u_140.2.2.2.2.2.2.2.2.2.2.1, u_140.2.2.2.2.2.2.2.2.2.2.2.1, x_147, u_140.2.2.2.2.2.2.2.2.2.2.2.2.2)) ∧ (¬ (u_140.2.2.2.2.2.2.2.2.2.1 u_140.2.2.2.2.2.2.2.2.2.2.2.2.1.toNatClampNeg) = (59 : Int32) → s_X11_wrong u_140 u_140.2.2.2.2.2.2.2.2.2.2.2.2.1 (fun (u_150 : zModel) => ∀ x_151 : Int32, x_151 = (u_150.2.2.2.2.2.2.2.2.2.2.2.2.1 + (1 : Int32)) → K48 x_138 r_136 (0 : Int32) (u_150.1, u_150.2.1, u_150.2.2.1, u_150.2.2.2.1, u_150.2.2.2.2.1, u_150.2.2.2.2.2.1, u_150.2.2.2.2.2.2.1, u_150.2.2.2.2.2.2.2.1, u_150.2.2.2.2.2.2.2.2.1, u_150.2.2.2.2.2.2.2.2.2.1, u_150.2.2.2.2.2.2.2.2.2.2.1, u_150.2.2.2.2.2.2.2.2.2.2.2.1, x_151, u_150.2.2.2.2.2.2.2.2.2.2.2.2.2))))))))) ∧ (¬ u_140.2.2.2.2.2.2.2.2.2.2.2.1 ≤ r_139 → (((1 : Int32) = 0 → K48 x_138 r_136 (1 : Int32) u_140) ∧ (¬ (1 : Int32) = 0 → ((¬ u_140.2.2.2.2.2.2.2.2.2.2.2.2.2.1 = (-1 : Int32) → K48 x_138 r_136 (1 : Int32) u_140) ∧ (u_140.2.2.2.2.2.2.2.2.2.2.2.2.2.1 = (-1 : Int32) → vp_in u_140.2.2.2.2.2.2.2.2.2.2.2.2.1 400 ∧ (((u_140.2.2.2.2.2.2.2.2.2.1 u_140.2.2.2.2.2.2.2.2.2.2.2.2.1.toNatClampNeg) = (59 : Int32) → ∀ x_158 : Int32, x_158 = (u_140.2.2.2.2.2.2.2.2.2.2.2.2.1 + (1 : Int32)) → K48 x_138 r_136 (1 : Int32) (u_140.1, u_140.2.1, u_140.2.2.1, u_140.2.2.2.1, u_140.2.2.2.2.1, u_140.2.2.2.2.2.1, u_140.2.2.2.2.2.2.1, u_140.2.2.2.2.2.2.2.1, u_140.2.2.2.2.2.2.2.2.1, u_140.2.2.2.2.2.2.2.2.2.1, u_140.2.2.2.2.2.2.2.2.2.2.1, u_140.2.2.2.2.2.2.2.2.2.2.2.1, x_158, u_140.2.2.2.2.2.2.2.2.2.2.2.2.2)) ∧ (¬ (u_140.2.2.2.2.2.2.2.2.2.1 u_140.2.2.2.2.2.2.2.2.2.2.2.2.1.toNatClampNeg) = (59 : Int32) → s_X11_wrong u_140 u_140.2.2.2.2.2.2.2.2.2.2.2.2.1 (fun (u_161 : zModel) => ∀ x_162 : Int32, x_162 = (u_161.2.2.2.2.2.2.2.2.2.2.2.2.1 + (1 : Int32)) → K48 x_138 r_136 (1 : Int32) (u_161.1, u_161.2.1, u_161.2.2.1, u_161.2.2.2.1, u_161.2.2.2.2.1, u_161.2.2.2.2.2.1, u_161.2.2.2.2.2.2.1, u_161.2.2.2.2.2.2.2.1, u_161.2.2.2.2.2.2.2.2.1, u_161.2.2.2.2.2.2.2.2.2.1, u_161.2.2.2.2.2.2.2.2.2.2.1, u_161.2.2.2.2.2.2.2.2.2.2.2.1, x_162, u_161.2.2.2.2.2.2.2.2.2.2.2.2.2))))))))))))))))))))))
theorem zc_X11_acts : zCalV RX11 yX11_acts cX11_acts 4 (some .int) 0 := ⟨q_im_X11_acts, q_se_X11_acts, q_in_X11, q_cd_X11_acts, ⟨by decide, by decide, by decide +kernel⟩, rfl⟩
abbrev rm_X11_acts : Room := { frames := 10, cells := 0, slots := 0, locals := 224 }
def v_X11_acts (u : zModel) (Q : Int32 → zModel → Prop) : Prop := ∃ I48 : Nat → Int32 → Int32 → Int32 → zModel → Prop, (∀ (n : Nat) (y1 : Int32) (y2 : Int32) (y3 : Int32) (z : zModel), I48 n y1 y2 y3 z → t_X11_acts_48 y1 y2 y3 z (fun q0 q1 q2 q3 => ∃ k : Nat, k < n ∧ I48 k q0 q1 q2 q3) Q) ∧ t_X11_acts_e u (fun q0 q1 q2 q3 => ∃ k : Nat, I48 k q0 q1 q2 q3) Q
set_option maxHeartbeats 4000000 in
set_option maxRecDepth 100000 in
theorem L_X11_acts (l : Launch) (dC : Nat → ClassId) (dI : Nat → Nat → Nat) (cI cJ cS : ClassId) (a : Nat → Nat) (u : zModel) (Q : Int32 → zModel → Prop) (I48 : Nat → Int32 → Int32 → Int32 → zModel → Prop) (h48 : ∀ (n : Nat) (y1 : Int32) (y2 : Int32) (y3 : Int32) (z : zModel), I48 n y1 y2 y3 z → t_X11_acts_48 y1 y2 y3 z (fun q0 q1 q2 q3 => ∃ k : Nat, k < n ∧ I48 k q0 q1 q2 q3) Q) (hf : t_X11_acts_e u (fun q0 q1 q2 q3 => ∃ k : Nat, I48 k q0 q1 q2 q3) Q) : ∀ sz : Nat, Met l yX11_acts (Cond.code yX11_acts cX11_acts 4 (some .int) :: zT) rm_X11_acts (zPmF zFz dC dI cI cJ cS (cl_X11 cI cJ a u) [.ref (a 0)] sz) (va_Qi Q (zB dC dI cI cJ cS (va_A (cl_X11 cI cJ a u) sz) (fun z => cl_X11 cI cJ a z)) (va_A (cl_X11 cI cJ a u) sz)) 0 0 (va_A (cl_X11 cI cJ a u) sz) := by
  intro sz
  refine z_enterMF (Qc := fun A => va_Qi Q (zB dC dI cI cJ cS A (fun z => cl_X11 cI cJ a z)) A) (cc := cX11_acts) (maxL := 4) (ret := (some .int)) (by decide) (Nat.le_of_ble_eq_true rfl) ?_
  intro p e s m below meth c ls A X hP hD hS hA hF hl
  obtain ⟨⟨hx, hb, hml, hown, hts⟩, hr, hlk, hK⟩ := id X
  have hl : lv_has ls 4 [(0, .ref (a 0))] := hl
  have LP : ∀ n : Nat, (∀ (y1 : Int32) (y2 : Int32) (y3 : Int32) (z : zModel) (H : Heap) (locs : List Loc) (ls : Array Slot), I48 n y1 y2 y3 z → va_P (dC, dI) vwCl (cl_X11 cI cJ a z) H → va_D A (cl_X11 cI cJ a z) → va_S A s.heap H locs → lv_has ls 4 [(0, .ref (a 0)), (1, .int y1), (2, .int y2), (3, .int y3)] → W p l e rm_X11_acts s m [.ref (a 0)].toArray below meth c H locs 0 0 (MQ below (va_Qi Q (zB dC dI cI cJ cS A (fun z => cl_X11 cI cJ a z)) A) [.ref (a 0)].toArray s 0 0 A) (F0 m 48 ls [])) := by
    intro n
    induction n using Nat.strongRecOn with
    | _ n ih =>
      intro y1 y2 y3 z H locs ls hI hP hD hS hl
      have hf := h48 n y1 y2 y3 z hI
      unfold t_X11_acts_48 at hf
      refine lv_iload_n hx hb dX11_acts_48 rfl (lv_at hl 3 rfl) ?_
      refine lv_if_eq (tgt := 154) hx hb dX11_acts_49 (by decide) (fun c_9 => ?_) (fun c_9 => ?_)
      · have hf := hf.1 c_9
        refine lv_aload_n hx hb dX11_acts_154 rfl (lv_at hl 0 rfl) ?_
        refine lv_aload_n hx hb dX11_acts_155 rfl (lv_at hl 0 rfl) ?_
        refine va_get (D := (dC, dI)) (ci := 10) (v := .int z.2.2.2.2.2.2.2.2.2.2.2.2.2.1) (C := RX11) (T := TX11) (N := 17) hx hb hts inX11 hown hK hP 0 rfl rfl 13 (by decide) (hts _ q_fl_X11_29) (fun _ h9 => h9) rfl dX11_acts_156 ?_
        refine lv_iconst (v := (-1)) hx hb dX11_acts_159 (by decide) ?_
        refine lv_icmp_ne (tgt := 167) hx hb dX11_acts_160 (by decide) (fun c_10 => ?_) (fun c_10 => ?_)
        · have hf := hf.1 c_10
          refine lv_iconst (v := 1) hx hb dX11_acts_167 (by decide) ?_
          refine z_put (w' := cl_X11 cI cJ a ((1 : Int32), z.2)) (ci := 10) (v := .int (1 : Int32)) (ty := .int) (Cn := RX11) (T := TX11) (N := 17) X inX11 tyX11 tyX11_ok nmX11 hP hD hS 0 rfl rfl 0 (by decide) (hts _ q_fl_X11_43) (fun _ h9 => h9) rfl (tyX11_ok 0 (by decide)) rfl rfl (Nat.le_of_ble_eq_true rfl) rfl dX11_acts_168 (fun H locs hP hD hS => ?_)
          refine lv_aload_n hx hb dX11_acts_171 rfl (lv_at hl 0 rfl) ?_
          refine va_get (D := (dC, dI)) (ci := 10) (v := .int (1 : Int32)) (C := RX11) (T := TX11) (N := 17) hx hb hts inX11 hown hK hP 0 rfl rfl 0 (by decide) (hts _ q_fl_X11_43) (fun _ h9 => h9) rfl dX11_acts_172 ?_
          refine lv_if_ne (tgt := 201) hx hb dX11_acts_175 (by decide) (fun c_11 => ?_) (fun c_11 => ?_)
          · have hf := hf.1 c_11
            refine lv_aload_n hx hb dX11_acts_201 rfl (lv_at hl 0 rfl) ?_
            refine lv_iload_n hx hb dX11_acts_202 rfl (lv_at hl 2 rfl) ?_
            refine lv_if_le (tgt := 210) hx hb dX11_acts_203 (by decide) (fun c_12 => ?_) (fun c_12 => ?_)
            · have hf := hf.1 c_12
              refine lv_aload_n hx hb dX11_acts_210 rfl (lv_at hl 0 rfl) ?_
              refine va_get (D := (dC, dI)) (ci := 10) (v := .int z.2.2.2.2.2.2.2.2.1) (C := RX11) (T := TX11) (N := 17) hx hb hts inX11 hown hK hP 0 rfl rfl 8 (by decide) (hts _ q_fl_X11_153) (fun _ h9 => h9) rfl dX11_acts_211 ?_
              refine lv_topi (fun x_13 ex_13 => ?_)
              have hf := hf x_13 ex_13
              refine z_put (w' := cl_X11 cI cJ a ((1 : Int32), z.2.1, z.2.2.1, z.2.2.2.1, z.2.2.2.2.1, z.2.2.2.2.2.1, z.2.2.2.2.2.2.1, z.2.2.2.2.2.2.2.1, x_13, z.2.2.2.2.2.2.2.2.2)) (ci := 10) (v := .int x_13) (ty := .int) (Cn := RX11) (T := TX11) (N := 17) X inX11 tyX11 tyX11_ok nmX11 hP hD hS 0 rfl rfl 8 (by decide) (hts _ q_fl_X11_153) (fun _ h9 => h9) rfl (tyX11_ok 8 (by decide)) rfl rfl (Nat.le_of_ble_eq_true rfl) rfl dX11_acts_214 (fun H locs hP hD hS => ?_)
              refine lv_aload_n hx hb dX11_acts_217 rfl (lv_at hl 0 rfl) ?_
              refine z_mVv (Wn := (fun u_15 => cl_X11 cI cJ a u_15)) (As := []) (rest := []) (wr := []) X (c_X11_putsBack l dC dI cI cJ cS a ((1 : Int32), z.2.1, z.2.2.1, z.2.2.2.1, z.2.2.2.2.1, z.2.2.2.2.2.1, z.2.2.2.2.2.2.1, z.2.2.2.2.2.2.2.1, x_13, z.2.2.2.2.2.2.2.2.2)  _ hf _) zc_X11_putsBack q_ml_X11_159 ⟨rfl, rfl⟩ ⟨Nat.le_of_ble_eq_true rfl, Nat.le_of_ble_eq_true rfl⟩ hP hD hS hA [0, 1, 2, 3, 4, 5, 6, 7, 8] [] rfl (by decide) rfl (by decide) (by decide) [0, 1, 2, 3, 4, 5, 6, 7, 8] (by decide) (fun _ => rfl) 10 rfl rfl hl.1 rfl rfl (Nat.le_of_ble_eq_true rfl) ⟨Nat.zero_le _, Nat.zero_le _⟩ dX11_acts_218 (fun u_15 H locs hf hP hD hS => ?_)
              refine lv_iconst (v := 0) hx hb dX11_acts_221 (by decide) ?_
              exact z_retMi (Wf := (fun z => cl_X11 cI cJ a z)) (u := u_15) X hf hP hD hS dX11_acts_222
            · have hf := hf.2 c_12
              refine lv_iload_n hx hb dX11_acts_206 rfl (lv_at hl 2 rfl) ?_
              refine lv_goto (tgt := 214) hx hb dX11_acts_207 (by decide) ?_
              refine z_put (w' := cl_X11 cI cJ a ((1 : Int32), z.2.1, z.2.2.1, z.2.2.2.1, z.2.2.2.2.1, z.2.2.2.2.2.1, z.2.2.2.2.2.2.1, z.2.2.2.2.2.2.2.1, y2, z.2.2.2.2.2.2.2.2.2)) (ci := 10) (v := .int y2) (ty := .int) (Cn := RX11) (T := TX11) (N := 17) X inX11 tyX11 tyX11_ok nmX11 hP hD hS 0 rfl rfl 8 (by decide) (hts _ q_fl_X11_153) (fun _ h9 => h9) rfl (tyX11_ok 8 (by decide)) rfl rfl (Nat.le_of_ble_eq_true rfl) rfl dX11_acts_214 (fun H locs hP hD hS => ?_)
              refine lv_aload_n hx hb dX11_acts_217 rfl (lv_at hl 0 rfl) ?_
              refine z_mVv (Wn := (fun u_17 => cl_X11 cI cJ a u_17)) (As := []) (rest := []) (wr := []) X (c_X11_putsBack l dC dI cI cJ cS a ((1 : Int32), z.2.1, z.2.2.1, z.2.2.2.1, z.2.2.2.2.1, z.2.2.2.2.2.1, z.2.2.2.2.2.2.1, z.2.2.2.2.2.2.2.1, y2, z.2.2.2.2.2.2.2.2.2)  _ hf _) zc_X11_putsBack q_ml_X11_159 ⟨rfl, rfl⟩ ⟨Nat.le_of_ble_eq_true rfl, Nat.le_of_ble_eq_true rfl⟩ hP hD hS hA [0, 1, 2, 3, 4, 5, 6, 7, 8] [] rfl (by decide) rfl (by decide) (by decide) [0, 1, 2, 3, 4, 5, 6, 7, 8] (by decide) (fun _ => rfl) 10 rfl rfl hl.1 rfl rfl (Nat.le_of_ble_eq_true rfl) ⟨Nat.zero_le _, Nat.zero_le _⟩ dX11_acts_218 (fun u_17 H locs hf hP hD hS => ?_)
              refine lv_iconst (v := 0) hx hb dX11_acts_221 (by decide) ?_
              exact z_retMi (Wf := (fun z => cl_X11 cI cJ a z)) (u := u_17) X hf hP hD hS dX11_acts_222
          · have hf := hf.2 c_11
            refine lv_aload_n hx hb dX11_acts_178 rfl (lv_at hl 0 rfl) ?_
            refine lv_iload_n hx hb dX11_acts_179 rfl (lv_at hl 1 rfl) ?_
            refine lv_if_le (tgt := 187) hx hb dX11_acts_180 (by decide) (fun c_18 => ?_) (fun c_18 => ?_)
            · have hf := hf.1 c_18
              refine lv_aload_n hx hb dX11_acts_187 rfl (lv_at hl 0 rfl) ?_
              refine va_get (D := (dC, dI)) (ci := 10) (v := .int z.2.2.2.2.2.2.2.2.1) (C := RX11) (T := TX11) (N := 17) hx hb hts inX11 hown hK hP 0 rfl rfl 8 (by decide) (hts _ q_fl_X11_153) (fun _ h9 => h9) rfl dX11_acts_188 ?_
              refine lv_topi (fun x_19 ex_19 => ?_)
              have hf := hf x_19 ex_19
              refine z_put (w' := cl_X11 cI cJ a ((1 : Int32), z.2.1, z.2.2.1, z.2.2.2.1, z.2.2.2.2.1, z.2.2.2.2.2.1, z.2.2.2.2.2.2.1, z.2.2.2.2.2.2.2.1, x_19, z.2.2.2.2.2.2.2.2.2)) (ci := 10) (v := .int x_19) (ty := .int) (Cn := RX11) (T := TX11) (N := 17) X inX11 tyX11 tyX11_ok nmX11 hP hD hS 0 rfl rfl 8 (by decide) (hts _ q_fl_X11_153) (fun _ h9 => h9) rfl (tyX11_ok 8 (by decide)) rfl rfl (Nat.le_of_ble_eq_true rfl) rfl dX11_acts_191 (fun H locs hP hD hS => ?_)
              refine lv_aload_n hx hb dX11_acts_194 rfl (lv_at hl 0 rfl) ?_
              refine lv_iconst (v := 0) hx hb dX11_acts_195 (by decide) ?_
              refine z_put (w' := cl_X11 cI cJ a ((1 : Int32), z.2.1, z.2.2.1, z.2.2.2.1, z.2.2.2.2.1, z.2.2.2.2.2.1, (0 : Int32), z.2.2.2.2.2.2.2.1, x_19, z.2.2.2.2.2.2.2.2.2)) (ci := 10) (v := .int (0 : Int32)) (ty := .int) (Cn := RX11) (T := TX11) (N := 17) X inX11 tyX11 tyX11_ok nmX11 hP hD hS 0 rfl rfl 6 (by decide) (hts _ q_fl_X11_149) (fun _ h9 => h9) rfl (tyX11_ok 6 (by decide)) rfl rfl (Nat.le_of_ble_eq_true rfl) rfl dX11_acts_196 (fun H locs hP hD hS => ?_)
              refine lv_iload_n hx hb dX11_acts_199 rfl (lv_at hl 1 rfl) ?_
              exact z_retMi (Wf := (fun z => cl_X11 cI cJ a z)) (u := ((1 : Int32), z.2.1, z.2.2.1, z.2.2.2.1, z.2.2.2.2.1, z.2.2.2.2.2.1, (0 : Int32), z.2.2.2.2.2.2.2.1, x_19, z.2.2.2.2.2.2.2.2.2)) X hf hP hD hS dX11_acts_200
            · have hf := hf.2 c_18
              refine lv_iconst (v := 0) hx hb dX11_acts_183 (by decide) ?_
              refine lv_goto (tgt := 191) hx hb dX11_acts_184 (by decide) ?_
              refine z_put (w' := cl_X11 cI cJ a ((1 : Int32), z.2.1, z.2.2.1, z.2.2.2.1, z.2.2.2.2.1, z.2.2.2.2.2.1, z.2.2.2.2.2.2.1, z.2.2.2.2.2.2.2.1, (0 : Int32), z.2.2.2.2.2.2.2.2.2)) (ci := 10) (v := .int (0 : Int32)) (ty := .int) (Cn := RX11) (T := TX11) (N := 17) X inX11 tyX11 tyX11_ok nmX11 hP hD hS 0 rfl rfl 8 (by decide) (hts _ q_fl_X11_153) (fun _ h9 => h9) rfl (tyX11_ok 8 (by decide)) rfl rfl (Nat.le_of_ble_eq_true rfl) rfl dX11_acts_191 (fun H locs hP hD hS => ?_)
              refine lv_aload_n hx hb dX11_acts_194 rfl (lv_at hl 0 rfl) ?_
              refine lv_iconst (v := 0) hx hb dX11_acts_195 (by decide) ?_
              refine z_put (w' := cl_X11 cI cJ a ((1 : Int32), z.2.1, z.2.2.1, z.2.2.2.1, z.2.2.2.2.1, z.2.2.2.2.2.1, (0 : Int32), z.2.2.2.2.2.2.2.1, (0 : Int32), z.2.2.2.2.2.2.2.2.2)) (ci := 10) (v := .int (0 : Int32)) (ty := .int) (Cn := RX11) (T := TX11) (N := 17) X inX11 tyX11 tyX11_ok nmX11 hP hD hS 0 rfl rfl 6 (by decide) (hts _ q_fl_X11_149) (fun _ h9 => h9) rfl (tyX11_ok 6 (by decide)) rfl rfl (Nat.le_of_ble_eq_true rfl) rfl dX11_acts_196 (fun H locs hP hD hS => ?_)
              refine lv_iload_n hx hb dX11_acts_199 rfl (lv_at hl 1 rfl) ?_
              exact z_retMi (Wf := (fun z => cl_X11 cI cJ a z)) (u := ((1 : Int32), z.2.1, z.2.2.1, z.2.2.2.1, z.2.2.2.2.1, z.2.2.2.2.2.1, (0 : Int32), z.2.2.2.2.2.2.2.1, (0 : Int32), z.2.2.2.2.2.2.2.2.2)) X hf hP hD hS dX11_acts_200
        · have hf := hf.2 c_10
          refine lv_iconst (v := 0) hx hb dX11_acts_163 (by decide) ?_
          refine lv_goto (tgt := 168) hx hb dX11_acts_164 (by decide) ?_
          refine z_put (w' := cl_X11 cI cJ a ((0 : Int32), z.2)) (ci := 10) (v := .int (0 : Int32)) (ty := .int) (Cn := RX11) (T := TX11) (N := 17) X inX11 tyX11 tyX11_ok nmX11 hP hD hS 0 rfl rfl 0 (by decide) (hts _ q_fl_X11_43) (fun _ h9 => h9) rfl (tyX11_ok 0 (by decide)) rfl rfl (Nat.le_of_ble_eq_true rfl) rfl dX11_acts_168 (fun H locs hP hD hS => ?_)
          refine lv_aload_n hx hb dX11_acts_171 rfl (lv_at hl 0 rfl) ?_
          refine va_get (D := (dC, dI)) (ci := 10) (v := .int (0 : Int32)) (C := RX11) (T := TX11) (N := 17) hx hb hts inX11 hown hK hP 0 rfl rfl 0 (by decide) (hts _ q_fl_X11_43) (fun _ h9 => h9) rfl dX11_acts_172 ?_
          refine lv_if_ne (tgt := 201) hx hb dX11_acts_175 (by decide) (fun c_20 => ?_) (fun c_20 => ?_)
          · have hf := hf.1 c_20
            refine lv_aload_n hx hb dX11_acts_201 rfl (lv_at hl 0 rfl) ?_
            refine lv_iload_n hx hb dX11_acts_202 rfl (lv_at hl 2 rfl) ?_
            refine lv_if_le (tgt := 210) hx hb dX11_acts_203 (by decide) (fun c_21 => ?_) (fun c_21 => ?_)
            · have hf := hf.1 c_21
              refine lv_aload_n hx hb dX11_acts_210 rfl (lv_at hl 0 rfl) ?_
              refine va_get (D := (dC, dI)) (ci := 10) (v := .int z.2.2.2.2.2.2.2.2.1) (C := RX11) (T := TX11) (N := 17) hx hb hts inX11 hown hK hP 0 rfl rfl 8 (by decide) (hts _ q_fl_X11_153) (fun _ h9 => h9) rfl dX11_acts_211 ?_
              refine lv_topi (fun x_22 ex_22 => ?_)
              have hf := hf x_22 ex_22
              refine z_put (w' := cl_X11 cI cJ a ((0 : Int32), z.2.1, z.2.2.1, z.2.2.2.1, z.2.2.2.2.1, z.2.2.2.2.2.1, z.2.2.2.2.2.2.1, z.2.2.2.2.2.2.2.1, x_22, z.2.2.2.2.2.2.2.2.2)) (ci := 10) (v := .int x_22) (ty := .int) (Cn := RX11) (T := TX11) (N := 17) X inX11 tyX11 tyX11_ok nmX11 hP hD hS 0 rfl rfl 8 (by decide) (hts _ q_fl_X11_153) (fun _ h9 => h9) rfl (tyX11_ok 8 (by decide)) rfl rfl (Nat.le_of_ble_eq_true rfl) rfl dX11_acts_214 (fun H locs hP hD hS => ?_)
              refine lv_aload_n hx hb dX11_acts_217 rfl (lv_at hl 0 rfl) ?_
              refine z_mVv (Wn := (fun u_24 => cl_X11 cI cJ a u_24)) (As := []) (rest := []) (wr := []) X (c_X11_putsBack l dC dI cI cJ cS a ((0 : Int32), z.2.1, z.2.2.1, z.2.2.2.1, z.2.2.2.2.1, z.2.2.2.2.2.1, z.2.2.2.2.2.2.1, z.2.2.2.2.2.2.2.1, x_22, z.2.2.2.2.2.2.2.2.2)  _ hf _) zc_X11_putsBack q_ml_X11_159 ⟨rfl, rfl⟩ ⟨Nat.le_of_ble_eq_true rfl, Nat.le_of_ble_eq_true rfl⟩ hP hD hS hA [0, 1, 2, 3, 4, 5, 6, 7, 8] [] rfl (by decide) rfl (by decide) (by decide) [0, 1, 2, 3, 4, 5, 6, 7, 8] (by decide) (fun _ => rfl) 10 rfl rfl hl.1 rfl rfl (Nat.le_of_ble_eq_true rfl) ⟨Nat.zero_le _, Nat.zero_le _⟩ dX11_acts_218 (fun u_24 H locs hf hP hD hS => ?_)
              refine lv_iconst (v := 0) hx hb dX11_acts_221 (by decide) ?_
              exact z_retMi (Wf := (fun z => cl_X11 cI cJ a z)) (u := u_24) X hf hP hD hS dX11_acts_222
            · have hf := hf.2 c_21
              refine lv_iload_n hx hb dX11_acts_206 rfl (lv_at hl 2 rfl) ?_
              refine lv_goto (tgt := 214) hx hb dX11_acts_207 (by decide) ?_
              refine z_put (w' := cl_X11 cI cJ a ((0 : Int32), z.2.1, z.2.2.1, z.2.2.2.1, z.2.2.2.2.1, z.2.2.2.2.2.1, z.2.2.2.2.2.2.1, z.2.2.2.2.2.2.2.1, y2, z.2.2.2.2.2.2.2.2.2)) (ci := 10) (v := .int y2) (ty := .int) (Cn := RX11) (T := TX11) (N := 17) X inX11 tyX11 tyX11_ok nmX11 hP hD hS 0 rfl rfl 8 (by decide) (hts _ q_fl_X11_153) (fun _ h9 => h9) rfl (tyX11_ok 8 (by decide)) rfl rfl (Nat.le_of_ble_eq_true rfl) rfl dX11_acts_214 (fun H locs hP hD hS => ?_)
              refine lv_aload_n hx hb dX11_acts_217 rfl (lv_at hl 0 rfl) ?_
              refine z_mVv (Wn := (fun u_26 => cl_X11 cI cJ a u_26)) (As := []) (rest := []) (wr := []) X (c_X11_putsBack l dC dI cI cJ cS a ((0 : Int32), z.2.1, z.2.2.1, z.2.2.2.1, z.2.2.2.2.1, z.2.2.2.2.2.1, z.2.2.2.2.2.2.1, z.2.2.2.2.2.2.2.1, y2, z.2.2.2.2.2.2.2.2.2)  _ hf _) zc_X11_putsBack q_ml_X11_159 ⟨rfl, rfl⟩ ⟨Nat.le_of_ble_eq_true rfl, Nat.le_of_ble_eq_true rfl⟩ hP hD hS hA [0, 1, 2, 3, 4, 5, 6, 7, 8] [] rfl (by decide) rfl (by decide) (by decide) [0, 1, 2, 3, 4, 5, 6, 7, 8] (by decide) (fun _ => rfl) 10 rfl rfl hl.1 rfl rfl (Nat.le_of_ble_eq_true rfl) ⟨Nat.zero_le _, Nat.zero_le _⟩ dX11_acts_218 (fun u_26 H locs hf hP hD hS => ?_)
              refine lv_iconst (v := 0) hx hb dX11_acts_221 (by decide) ?_
              exact z_retMi (Wf := (fun z => cl_X11 cI cJ a z)) (u := u_26) X hf hP hD hS dX11_acts_222
          · have hf := hf.2 c_20
            refine lv_aload_n hx hb dX11_acts_178 rfl (lv_at hl 0 rfl) ?_
            refine lv_iload_n hx hb dX11_acts_179 rfl (lv_at hl 1 rfl) ?_
            refine lv_if_le (tgt := 187) hx hb dX11_acts_180 (by decide) (fun c_27 => ?_) (fun c_27 => ?_)
            · have hf := hf.1 c_27
              refine lv_aload_n hx hb dX11_acts_187 rfl (lv_at hl 0 rfl) ?_
              refine va_get (D := (dC, dI)) (ci := 10) (v := .int z.2.2.2.2.2.2.2.2.1) (C := RX11) (T := TX11) (N := 17) hx hb hts inX11 hown hK hP 0 rfl rfl 8 (by decide) (hts _ q_fl_X11_153) (fun _ h9 => h9) rfl dX11_acts_188 ?_
              refine lv_topi (fun x_28 ex_28 => ?_)
              have hf := hf x_28 ex_28
              refine z_put (w' := cl_X11 cI cJ a ((0 : Int32), z.2.1, z.2.2.1, z.2.2.2.1, z.2.2.2.2.1, z.2.2.2.2.2.1, z.2.2.2.2.2.2.1, z.2.2.2.2.2.2.2.1, x_28, z.2.2.2.2.2.2.2.2.2)) (ci := 10) (v := .int x_28) (ty := .int) (Cn := RX11) (T := TX11) (N := 17) X inX11 tyX11 tyX11_ok nmX11 hP hD hS 0 rfl rfl 8 (by decide) (hts _ q_fl_X11_153) (fun _ h9 => h9) rfl (tyX11_ok 8 (by decide)) rfl rfl (Nat.le_of_ble_eq_true rfl) rfl dX11_acts_191 (fun H locs hP hD hS => ?_)
              refine lv_aload_n hx hb dX11_acts_194 rfl (lv_at hl 0 rfl) ?_
              refine lv_iconst (v := 0) hx hb dX11_acts_195 (by decide) ?_
              refine z_put (w' := cl_X11 cI cJ a ((0 : Int32), z.2.1, z.2.2.1, z.2.2.2.1, z.2.2.2.2.1, z.2.2.2.2.2.1, (0 : Int32), z.2.2.2.2.2.2.2.1, x_28, z.2.2.2.2.2.2.2.2.2)) (ci := 10) (v := .int (0 : Int32)) (ty := .int) (Cn := RX11) (T := TX11) (N := 17) X inX11 tyX11 tyX11_ok nmX11 hP hD hS 0 rfl rfl 6 (by decide) (hts _ q_fl_X11_149) (fun _ h9 => h9) rfl (tyX11_ok 6 (by decide)) rfl rfl (Nat.le_of_ble_eq_true rfl) rfl dX11_acts_196 (fun H locs hP hD hS => ?_)
              refine lv_iload_n hx hb dX11_acts_199 rfl (lv_at hl 1 rfl) ?_
              exact z_retMi (Wf := (fun z => cl_X11 cI cJ a z)) (u := ((0 : Int32), z.2.1, z.2.2.1, z.2.2.2.1, z.2.2.2.2.1, z.2.2.2.2.2.1, (0 : Int32), z.2.2.2.2.2.2.2.1, x_28, z.2.2.2.2.2.2.2.2.2)) X hf hP hD hS dX11_acts_200
            · have hf := hf.2 c_27
              refine lv_iconst (v := 0) hx hb dX11_acts_183 (by decide) ?_
              refine lv_goto (tgt := 191) hx hb dX11_acts_184 (by decide) ?_
              refine z_put (w' := cl_X11 cI cJ a ((0 : Int32), z.2.1, z.2.2.1, z.2.2.2.1, z.2.2.2.2.1, z.2.2.2.2.2.1, z.2.2.2.2.2.2.1, z.2.2.2.2.2.2.2.1, (0 : Int32), z.2.2.2.2.2.2.2.2.2)) (ci := 10) (v := .int (0 : Int32)) (ty := .int) (Cn := RX11) (T := TX11) (N := 17) X inX11 tyX11 tyX11_ok nmX11 hP hD hS 0 rfl rfl 8 (by decide) (hts _ q_fl_X11_153) (fun _ h9 => h9) rfl (tyX11_ok 8 (by decide)) rfl rfl (Nat.le_of_ble_eq_true rfl) rfl dX11_acts_191 (fun H locs hP hD hS => ?_)
              refine lv_aload_n hx hb dX11_acts_194 rfl (lv_at hl 0 rfl) ?_
              refine lv_iconst (v := 0) hx hb dX11_acts_195 (by decide) ?_
              refine z_put (w' := cl_X11 cI cJ a ((0 : Int32), z.2.1, z.2.2.1, z.2.2.2.1, z.2.2.2.2.1, z.2.2.2.2.2.1, (0 : Int32), z.2.2.2.2.2.2.2.1, (0 : Int32), z.2.2.2.2.2.2.2.2.2)) (ci := 10) (v := .int (0 : Int32)) (ty := .int) (Cn := RX11) (T := TX11) (N := 17) X inX11 tyX11 tyX11_ok nmX11 hP hD hS 0 rfl rfl 6 (by decide) (hts _ q_fl_X11_149) (fun _ h9 => h9) rfl (tyX11_ok 6 (by decide)) rfl rfl (Nat.le_of_ble_eq_true rfl) rfl dX11_acts_196 (fun H locs hP hD hS => ?_)
              refine lv_iload_n hx hb dX11_acts_199 rfl (lv_at hl 1 rfl) ?_
              exact z_retMi (Wf := (fun z => cl_X11 cI cJ a z)) (u := ((0 : Int32), z.2.1, z.2.2.1, z.2.2.2.1, z.2.2.2.2.1, z.2.2.2.2.2.1, (0 : Int32), z.2.2.2.2.2.2.2.1, (0 : Int32), z.2.2.2.2.2.2.2.2.2)) X hf hP hD hS dX11_acts_200
      · have hf := hf.2 c_9
        refine lv_aload_n hx hb dX11_acts_52 rfl (lv_at hl 0 rfl) ?_
        refine va_get (D := (dC, dI)) (ci := 10) (v := .int z.2.2.2.2.2.2.2.2.2.2.2.2.2.1) (C := RX11) (T := TX11) (N := 17) hx hb hts inX11 hown hK hP 0 rfl rfl 13 (by decide) (hts _ q_fl_X11_29) (fun _ h9 => h9) rfl dX11_acts_53 ?_
        refine lv_iconst (v := (-1)) hx hb dX11_acts_56 (by decide) ?_
        refine lv_icmp_ne (tgt := 154) hx hb dX11_acts_57 (by decide) (fun c_29 => ?_) (fun c_29 => ?_)
        · have hf := hf.1 c_29
          refine lv_aload_n hx hb dX11_acts_154 rfl (lv_at hl 0 rfl) ?_
          refine lv_aload_n hx hb dX11_acts_155 rfl (lv_at hl 0 rfl) ?_
          refine va_get (D := (dC, dI)) (ci := 10) (v := .int z.2.2.2.2.2.2.2.2.2.2.2.2.2.1) (C := RX11) (T := TX11) (N := 17) hx hb hts inX11 hown hK hP 0 rfl rfl 13 (by decide) (hts _ q_fl_X11_29) (fun _ h9 => h9) rfl dX11_acts_156 ?_
          refine lv_iconst (v := (-1)) hx hb dX11_acts_159 (by decide) ?_
          refine lv_icmp_ne (tgt := 167) hx hb dX11_acts_160 (by decide) (fun c_30 => ?_) (fun c_30 => ?_)
          · have hf := hf.1 c_30
            refine lv_iconst (v := 1) hx hb dX11_acts_167 (by decide) ?_
            refine z_put (w' := cl_X11 cI cJ a ((1 : Int32), z.2)) (ci := 10) (v := .int (1 : Int32)) (ty := .int) (Cn := RX11) (T := TX11) (N := 17) X inX11 tyX11 tyX11_ok nmX11 hP hD hS 0 rfl rfl 0 (by decide) (hts _ q_fl_X11_43) (fun _ h9 => h9) rfl (tyX11_ok 0 (by decide)) rfl rfl (Nat.le_of_ble_eq_true rfl) rfl dX11_acts_168 (fun H locs hP hD hS => ?_)
            refine lv_aload_n hx hb dX11_acts_171 rfl (lv_at hl 0 rfl) ?_
            refine va_get (D := (dC, dI)) (ci := 10) (v := .int (1 : Int32)) (C := RX11) (T := TX11) (N := 17) hx hb hts inX11 hown hK hP 0 rfl rfl 0 (by decide) (hts _ q_fl_X11_43) (fun _ h9 => h9) rfl dX11_acts_172 ?_
            refine lv_if_ne (tgt := 201) hx hb dX11_acts_175 (by decide) (fun c_31 => ?_) (fun c_31 => ?_)
            · have hf := hf.1 c_31
              refine lv_aload_n hx hb dX11_acts_201 rfl (lv_at hl 0 rfl) ?_
              refine lv_iload_n hx hb dX11_acts_202 rfl (lv_at hl 2 rfl) ?_
              refine lv_if_le (tgt := 210) hx hb dX11_acts_203 (by decide) (fun c_32 => ?_) (fun c_32 => ?_)
              · have hf := hf.1 c_32
                refine lv_aload_n hx hb dX11_acts_210 rfl (lv_at hl 0 rfl) ?_
                refine va_get (D := (dC, dI)) (ci := 10) (v := .int z.2.2.2.2.2.2.2.2.1) (C := RX11) (T := TX11) (N := 17) hx hb hts inX11 hown hK hP 0 rfl rfl 8 (by decide) (hts _ q_fl_X11_153) (fun _ h9 => h9) rfl dX11_acts_211 ?_
                refine lv_topi (fun x_33 ex_33 => ?_)
                have hf := hf x_33 ex_33
                refine z_put (w' := cl_X11 cI cJ a ((1 : Int32), z.2.1, z.2.2.1, z.2.2.2.1, z.2.2.2.2.1, z.2.2.2.2.2.1, z.2.2.2.2.2.2.1, z.2.2.2.2.2.2.2.1, x_33, z.2.2.2.2.2.2.2.2.2)) (ci := 10) (v := .int x_33) (ty := .int) (Cn := RX11) (T := TX11) (N := 17) X inX11 tyX11 tyX11_ok nmX11 hP hD hS 0 rfl rfl 8 (by decide) (hts _ q_fl_X11_153) (fun _ h9 => h9) rfl (tyX11_ok 8 (by decide)) rfl rfl (Nat.le_of_ble_eq_true rfl) rfl dX11_acts_214 (fun H locs hP hD hS => ?_)
                refine lv_aload_n hx hb dX11_acts_217 rfl (lv_at hl 0 rfl) ?_
                refine z_mVv (Wn := (fun u_35 => cl_X11 cI cJ a u_35)) (As := []) (rest := []) (wr := []) X (c_X11_putsBack l dC dI cI cJ cS a ((1 : Int32), z.2.1, z.2.2.1, z.2.2.2.1, z.2.2.2.2.1, z.2.2.2.2.2.1, z.2.2.2.2.2.2.1, z.2.2.2.2.2.2.2.1, x_33, z.2.2.2.2.2.2.2.2.2)  _ hf _) zc_X11_putsBack q_ml_X11_159 ⟨rfl, rfl⟩ ⟨Nat.le_of_ble_eq_true rfl, Nat.le_of_ble_eq_true rfl⟩ hP hD hS hA [0, 1, 2, 3, 4, 5, 6, 7, 8] [] rfl (by decide) rfl (by decide) (by decide) [0, 1, 2, 3, 4, 5, 6, 7, 8] (by decide) (fun _ => rfl) 10 rfl rfl hl.1 rfl rfl (Nat.le_of_ble_eq_true rfl) ⟨Nat.zero_le _, Nat.zero_le _⟩ dX11_acts_218 (fun u_35 H locs hf hP hD hS => ?_)
                refine lv_iconst (v := 0) hx hb dX11_acts_221 (by decide) ?_
                exact z_retMi (Wf := (fun z => cl_X11 cI cJ a z)) (u := u_35) X hf hP hD hS dX11_acts_222
              · have hf := hf.2 c_32
                refine lv_iload_n hx hb dX11_acts_206 rfl (lv_at hl 2 rfl) ?_
                refine lv_goto (tgt := 214) hx hb dX11_acts_207 (by decide) ?_
                refine z_put (w' := cl_X11 cI cJ a ((1 : Int32), z.2.1, z.2.2.1, z.2.2.2.1, z.2.2.2.2.1, z.2.2.2.2.2.1, z.2.2.2.2.2.2.1, z.2.2.2.2.2.2.2.1, y2, z.2.2.2.2.2.2.2.2.2)) (ci := 10) (v := .int y2) (ty := .int) (Cn := RX11) (T := TX11) (N := 17) X inX11 tyX11 tyX11_ok nmX11 hP hD hS 0 rfl rfl 8 (by decide) (hts _ q_fl_X11_153) (fun _ h9 => h9) rfl (tyX11_ok 8 (by decide)) rfl rfl (Nat.le_of_ble_eq_true rfl) rfl dX11_acts_214 (fun H locs hP hD hS => ?_)
                refine lv_aload_n hx hb dX11_acts_217 rfl (lv_at hl 0 rfl) ?_
                refine z_mVv (Wn := (fun u_37 => cl_X11 cI cJ a u_37)) (As := []) (rest := []) (wr := []) X (c_X11_putsBack l dC dI cI cJ cS a ((1 : Int32), z.2.1, z.2.2.1, z.2.2.2.1, z.2.2.2.2.1, z.2.2.2.2.2.1, z.2.2.2.2.2.2.1, z.2.2.2.2.2.2.2.1, y2, z.2.2.2.2.2.2.2.2.2)  _ hf _) zc_X11_putsBack q_ml_X11_159 ⟨rfl, rfl⟩ ⟨Nat.le_of_ble_eq_true rfl, Nat.le_of_ble_eq_true rfl⟩ hP hD hS hA [0, 1, 2, 3, 4, 5, 6, 7, 8] [] rfl (by decide) rfl (by decide) (by decide) [0, 1, 2, 3, 4, 5, 6, 7, 8] (by decide) (fun _ => rfl) 10 rfl rfl hl.1 rfl rfl (Nat.le_of_ble_eq_true rfl) ⟨Nat.zero_le _, Nat.zero_le _⟩ dX11_acts_218 (fun u_37 H locs hf hP hD hS => ?_)
                refine lv_iconst (v := 0) hx hb dX11_acts_221 (by decide) ?_
                exact z_retMi (Wf := (fun z => cl_X11 cI cJ a z)) (u := u_37) X hf hP hD hS dX11_acts_222
            · have hf := hf.2 c_31
              refine lv_aload_n hx hb dX11_acts_178 rfl (lv_at hl 0 rfl) ?_
              refine lv_iload_n hx hb dX11_acts_179 rfl (lv_at hl 1 rfl) ?_
              refine lv_if_le (tgt := 187) hx hb dX11_acts_180 (by decide) (fun c_38 => ?_) (fun c_38 => ?_)
              · have hf := hf.1 c_38
                refine lv_aload_n hx hb dX11_acts_187 rfl (lv_at hl 0 rfl) ?_
                refine va_get (D := (dC, dI)) (ci := 10) (v := .int z.2.2.2.2.2.2.2.2.1) (C := RX11) (T := TX11) (N := 17) hx hb hts inX11 hown hK hP 0 rfl rfl 8 (by decide) (hts _ q_fl_X11_153) (fun _ h9 => h9) rfl dX11_acts_188 ?_
                refine lv_topi (fun x_39 ex_39 => ?_)
                have hf := hf x_39 ex_39
                refine z_put (w' := cl_X11 cI cJ a ((1 : Int32), z.2.1, z.2.2.1, z.2.2.2.1, z.2.2.2.2.1, z.2.2.2.2.2.1, z.2.2.2.2.2.2.1, z.2.2.2.2.2.2.2.1, x_39, z.2.2.2.2.2.2.2.2.2)) (ci := 10) (v := .int x_39) (ty := .int) (Cn := RX11) (T := TX11) (N := 17) X inX11 tyX11 tyX11_ok nmX11 hP hD hS 0 rfl rfl 8 (by decide) (hts _ q_fl_X11_153) (fun _ h9 => h9) rfl (tyX11_ok 8 (by decide)) rfl rfl (Nat.le_of_ble_eq_true rfl) rfl dX11_acts_191 (fun H locs hP hD hS => ?_)
                refine lv_aload_n hx hb dX11_acts_194 rfl (lv_at hl 0 rfl) ?_
                refine lv_iconst (v := 0) hx hb dX11_acts_195 (by decide) ?_
                refine z_put (w' := cl_X11 cI cJ a ((1 : Int32), z.2.1, z.2.2.1, z.2.2.2.1, z.2.2.2.2.1, z.2.2.2.2.2.1, (0 : Int32), z.2.2.2.2.2.2.2.1, x_39, z.2.2.2.2.2.2.2.2.2)) (ci := 10) (v := .int (0 : Int32)) (ty := .int) (Cn := RX11) (T := TX11) (N := 17) X inX11 tyX11 tyX11_ok nmX11 hP hD hS 0 rfl rfl 6 (by decide) (hts _ q_fl_X11_149) (fun _ h9 => h9) rfl (tyX11_ok 6 (by decide)) rfl rfl (Nat.le_of_ble_eq_true rfl) rfl dX11_acts_196 (fun H locs hP hD hS => ?_)
                refine lv_iload_n hx hb dX11_acts_199 rfl (lv_at hl 1 rfl) ?_
                exact z_retMi (Wf := (fun z => cl_X11 cI cJ a z)) (u := ((1 : Int32), z.2.1, z.2.2.1, z.2.2.2.1, z.2.2.2.2.1, z.2.2.2.2.2.1, (0 : Int32), z.2.2.2.2.2.2.2.1, x_39, z.2.2.2.2.2.2.2.2.2)) X hf hP hD hS dX11_acts_200
              · have hf := hf.2 c_38
                refine lv_iconst (v := 0) hx hb dX11_acts_183 (by decide) ?_
                refine lv_goto (tgt := 191) hx hb dX11_acts_184 (by decide) ?_
                refine z_put (w' := cl_X11 cI cJ a ((1 : Int32), z.2.1, z.2.2.1, z.2.2.2.1, z.2.2.2.2.1, z.2.2.2.2.2.1, z.2.2.2.2.2.2.1, z.2.2.2.2.2.2.2.1, (0 : Int32), z.2.2.2.2.2.2.2.2.2)) (ci := 10) (v := .int (0 : Int32)) (ty := .int) (Cn := RX11) (T := TX11) (N := 17) X inX11 tyX11 tyX11_ok nmX11 hP hD hS 0 rfl rfl 8 (by decide) (hts _ q_fl_X11_153) (fun _ h9 => h9) rfl (tyX11_ok 8 (by decide)) rfl rfl (Nat.le_of_ble_eq_true rfl) rfl dX11_acts_191 (fun H locs hP hD hS => ?_)
                refine lv_aload_n hx hb dX11_acts_194 rfl (lv_at hl 0 rfl) ?_
                refine lv_iconst (v := 0) hx hb dX11_acts_195 (by decide) ?_
                refine z_put (w' := cl_X11 cI cJ a ((1 : Int32), z.2.1, z.2.2.1, z.2.2.2.1, z.2.2.2.2.1, z.2.2.2.2.2.1, (0 : Int32), z.2.2.2.2.2.2.2.1, (0 : Int32), z.2.2.2.2.2.2.2.2.2)) (ci := 10) (v := .int (0 : Int32)) (ty := .int) (Cn := RX11) (T := TX11) (N := 17) X inX11 tyX11 tyX11_ok nmX11 hP hD hS 0 rfl rfl 6 (by decide) (hts _ q_fl_X11_149) (fun _ h9 => h9) rfl (tyX11_ok 6 (by decide)) rfl rfl (Nat.le_of_ble_eq_true rfl) rfl dX11_acts_196 (fun H locs hP hD hS => ?_)
                refine lv_iload_n hx hb dX11_acts_199 rfl (lv_at hl 1 rfl) ?_
                exact z_retMi (Wf := (fun z => cl_X11 cI cJ a z)) (u := ((1 : Int32), z.2.1, z.2.2.1, z.2.2.2.1, z.2.2.2.2.1, z.2.2.2.2.2.1, (0 : Int32), z.2.2.2.2.2.2.2.1, (0 : Int32), z.2.2.2.2.2.2.2.2.2)) X hf hP hD hS dX11_acts_200
          · have hf := hf.2 c_30
            refine lv_iconst (v := 0) hx hb dX11_acts_163 (by decide) ?_
            refine lv_goto (tgt := 168) hx hb dX11_acts_164 (by decide) ?_
            refine z_put (w' := cl_X11 cI cJ a ((0 : Int32), z.2)) (ci := 10) (v := .int (0 : Int32)) (ty := .int) (Cn := RX11) (T := TX11) (N := 17) X inX11 tyX11 tyX11_ok nmX11 hP hD hS 0 rfl rfl 0 (by decide) (hts _ q_fl_X11_43) (fun _ h9 => h9) rfl (tyX11_ok 0 (by decide)) rfl rfl (Nat.le_of_ble_eq_true rfl) rfl dX11_acts_168 (fun H locs hP hD hS => ?_)
            refine lv_aload_n hx hb dX11_acts_171 rfl (lv_at hl 0 rfl) ?_
            refine va_get (D := (dC, dI)) (ci := 10) (v := .int (0 : Int32)) (C := RX11) (T := TX11) (N := 17) hx hb hts inX11 hown hK hP 0 rfl rfl 0 (by decide) (hts _ q_fl_X11_43) (fun _ h9 => h9) rfl dX11_acts_172 ?_
            refine lv_if_ne (tgt := 201) hx hb dX11_acts_175 (by decide) (fun c_40 => ?_) (fun c_40 => ?_)
            · have hf := hf.1 c_40
              refine lv_aload_n hx hb dX11_acts_201 rfl (lv_at hl 0 rfl) ?_
              refine lv_iload_n hx hb dX11_acts_202 rfl (lv_at hl 2 rfl) ?_
              refine lv_if_le (tgt := 210) hx hb dX11_acts_203 (by decide) (fun c_41 => ?_) (fun c_41 => ?_)
              · have hf := hf.1 c_41
                refine lv_aload_n hx hb dX11_acts_210 rfl (lv_at hl 0 rfl) ?_
                refine va_get (D := (dC, dI)) (ci := 10) (v := .int z.2.2.2.2.2.2.2.2.1) (C := RX11) (T := TX11) (N := 17) hx hb hts inX11 hown hK hP 0 rfl rfl 8 (by decide) (hts _ q_fl_X11_153) (fun _ h9 => h9) rfl dX11_acts_211 ?_
                refine lv_topi (fun x_42 ex_42 => ?_)
                have hf := hf x_42 ex_42
                refine z_put (w' := cl_X11 cI cJ a ((0 : Int32), z.2.1, z.2.2.1, z.2.2.2.1, z.2.2.2.2.1, z.2.2.2.2.2.1, z.2.2.2.2.2.2.1, z.2.2.2.2.2.2.2.1, x_42, z.2.2.2.2.2.2.2.2.2)) (ci := 10) (v := .int x_42) (ty := .int) (Cn := RX11) (T := TX11) (N := 17) X inX11 tyX11 tyX11_ok nmX11 hP hD hS 0 rfl rfl 8 (by decide) (hts _ q_fl_X11_153) (fun _ h9 => h9) rfl (tyX11_ok 8 (by decide)) rfl rfl (Nat.le_of_ble_eq_true rfl) rfl dX11_acts_214 (fun H locs hP hD hS => ?_)
                refine lv_aload_n hx hb dX11_acts_217 rfl (lv_at hl 0 rfl) ?_
                refine z_mVv (Wn := (fun u_44 => cl_X11 cI cJ a u_44)) (As := []) (rest := []) (wr := []) X (c_X11_putsBack l dC dI cI cJ cS a ((0 : Int32), z.2.1, z.2.2.1, z.2.2.2.1, z.2.2.2.2.1, z.2.2.2.2.2.1, z.2.2.2.2.2.2.1, z.2.2.2.2.2.2.2.1, x_42, z.2.2.2.2.2.2.2.2.2)  _ hf _) zc_X11_putsBack q_ml_X11_159 ⟨rfl, rfl⟩ ⟨Nat.le_of_ble_eq_true rfl, Nat.le_of_ble_eq_true rfl⟩ hP hD hS hA [0, 1, 2, 3, 4, 5, 6, 7, 8] [] rfl (by decide) rfl (by decide) (by decide) [0, 1, 2, 3, 4, 5, 6, 7, 8] (by decide) (fun _ => rfl) 10 rfl rfl hl.1 rfl rfl (Nat.le_of_ble_eq_true rfl) ⟨Nat.zero_le _, Nat.zero_le _⟩ dX11_acts_218 (fun u_44 H locs hf hP hD hS => ?_)
                refine lv_iconst (v := 0) hx hb dX11_acts_221 (by decide) ?_
                exact z_retMi (Wf := (fun z => cl_X11 cI cJ a z)) (u := u_44) X hf hP hD hS dX11_acts_222
              · have hf := hf.2 c_41
                refine lv_iload_n hx hb dX11_acts_206 rfl (lv_at hl 2 rfl) ?_
                refine lv_goto (tgt := 214) hx hb dX11_acts_207 (by decide) ?_
                refine z_put (w' := cl_X11 cI cJ a ((0 : Int32), z.2.1, z.2.2.1, z.2.2.2.1, z.2.2.2.2.1, z.2.2.2.2.2.1, z.2.2.2.2.2.2.1, z.2.2.2.2.2.2.2.1, y2, z.2.2.2.2.2.2.2.2.2)) (ci := 10) (v := .int y2) (ty := .int) (Cn := RX11) (T := TX11) (N := 17) X inX11 tyX11 tyX11_ok nmX11 hP hD hS 0 rfl rfl 8 (by decide) (hts _ q_fl_X11_153) (fun _ h9 => h9) rfl (tyX11_ok 8 (by decide)) rfl rfl (Nat.le_of_ble_eq_true rfl) rfl dX11_acts_214 (fun H locs hP hD hS => ?_)
                refine lv_aload_n hx hb dX11_acts_217 rfl (lv_at hl 0 rfl) ?_
                refine z_mVv (Wn := (fun u_46 => cl_X11 cI cJ a u_46)) (As := []) (rest := []) (wr := []) X (c_X11_putsBack l dC dI cI cJ cS a ((0 : Int32), z.2.1, z.2.2.1, z.2.2.2.1, z.2.2.2.2.1, z.2.2.2.2.2.1, z.2.2.2.2.2.2.1, z.2.2.2.2.2.2.2.1, y2, z.2.2.2.2.2.2.2.2.2)  _ hf _) zc_X11_putsBack q_ml_X11_159 ⟨rfl, rfl⟩ ⟨Nat.le_of_ble_eq_true rfl, Nat.le_of_ble_eq_true rfl⟩ hP hD hS hA [0, 1, 2, 3, 4, 5, 6, 7, 8] [] rfl (by decide) rfl (by decide) (by decide) [0, 1, 2, 3, 4, 5, 6, 7, 8] (by decide) (fun _ => rfl) 10 rfl rfl hl.1 rfl rfl (Nat.le_of_ble_eq_true rfl) ⟨Nat.zero_le _, Nat.zero_le _⟩ dX11_acts_218 (fun u_46 H locs hf hP hD hS => ?_)
                refine lv_iconst (v := 0) hx hb dX11_acts_221 (by decide) ?_
                exact z_retMi (Wf := (fun z => cl_X11 cI cJ a z)) (u := u_46) X hf hP hD hS dX11_acts_222
            · have hf := hf.2 c_40
              refine lv_aload_n hx hb dX11_acts_178 rfl (lv_at hl 0 rfl) ?_
              refine lv_iload_n hx hb dX11_acts_179 rfl (lv_at hl 1 rfl) ?_
              refine lv_if_le (tgt := 187) hx hb dX11_acts_180 (by decide) (fun c_47 => ?_) (fun c_47 => ?_)
              · have hf := hf.1 c_47
                refine lv_aload_n hx hb dX11_acts_187 rfl (lv_at hl 0 rfl) ?_
                refine va_get (D := (dC, dI)) (ci := 10) (v := .int z.2.2.2.2.2.2.2.2.1) (C := RX11) (T := TX11) (N := 17) hx hb hts inX11 hown hK hP 0 rfl rfl 8 (by decide) (hts _ q_fl_X11_153) (fun _ h9 => h9) rfl dX11_acts_188 ?_
                refine lv_topi (fun x_48 ex_48 => ?_)
                have hf := hf x_48 ex_48
                refine z_put (w' := cl_X11 cI cJ a ((0 : Int32), z.2.1, z.2.2.1, z.2.2.2.1, z.2.2.2.2.1, z.2.2.2.2.2.1, z.2.2.2.2.2.2.1, z.2.2.2.2.2.2.2.1, x_48, z.2.2.2.2.2.2.2.2.2)) (ci := 10) (v := .int x_48) (ty := .int) (Cn := RX11) (T := TX11) (N := 17) X inX11 tyX11 tyX11_ok nmX11 hP hD hS 0 rfl rfl 8 (by decide) (hts _ q_fl_X11_153) (fun _ h9 => h9) rfl (tyX11_ok 8 (by decide)) rfl rfl (Nat.le_of_ble_eq_true rfl) rfl dX11_acts_191 (fun H locs hP hD hS => ?_)
                refine lv_aload_n hx hb dX11_acts_194 rfl (lv_at hl 0 rfl) ?_
                refine lv_iconst (v := 0) hx hb dX11_acts_195 (by decide) ?_
                refine z_put (w' := cl_X11 cI cJ a ((0 : Int32), z.2.1, z.2.2.1, z.2.2.2.1, z.2.2.2.2.1, z.2.2.2.2.2.1, (0 : Int32), z.2.2.2.2.2.2.2.1, x_48, z.2.2.2.2.2.2.2.2.2)) (ci := 10) (v := .int (0 : Int32)) (ty := .int) (Cn := RX11) (T := TX11) (N := 17) X inX11 tyX11 tyX11_ok nmX11 hP hD hS 0 rfl rfl 6 (by decide) (hts _ q_fl_X11_149) (fun _ h9 => h9) rfl (tyX11_ok 6 (by decide)) rfl rfl (Nat.le_of_ble_eq_true rfl) rfl dX11_acts_196 (fun H locs hP hD hS => ?_)
                refine lv_iload_n hx hb dX11_acts_199 rfl (lv_at hl 1 rfl) ?_
                exact z_retMi (Wf := (fun z => cl_X11 cI cJ a z)) (u := ((0 : Int32), z.2.1, z.2.2.1, z.2.2.2.1, z.2.2.2.2.1, z.2.2.2.2.2.1, (0 : Int32), z.2.2.2.2.2.2.2.1, x_48, z.2.2.2.2.2.2.2.2.2)) X hf hP hD hS dX11_acts_200
              · have hf := hf.2 c_47
                refine lv_iconst (v := 0) hx hb dX11_acts_183 (by decide) ?_
                refine lv_goto (tgt := 191) hx hb dX11_acts_184 (by decide) ?_
                refine z_put (w' := cl_X11 cI cJ a ((0 : Int32), z.2.1, z.2.2.1, z.2.2.2.1, z.2.2.2.2.1, z.2.2.2.2.2.1, z.2.2.2.2.2.2.1, z.2.2.2.2.2.2.2.1, (0 : Int32), z.2.2.2.2.2.2.2.2.2)) (ci := 10) (v := .int (0 : Int32)) (ty := .int) (Cn := RX11) (T := TX11) (N := 17) X inX11 tyX11 tyX11_ok nmX11 hP hD hS 0 rfl rfl 8 (by decide) (hts _ q_fl_X11_153) (fun _ h9 => h9) rfl (tyX11_ok 8 (by decide)) rfl rfl (Nat.le_of_ble_eq_true rfl) rfl dX11_acts_191 (fun H locs hP hD hS => ?_)
                refine lv_aload_n hx hb dX11_acts_194 rfl (lv_at hl 0 rfl) ?_
                refine lv_iconst (v := 0) hx hb dX11_acts_195 (by decide) ?_
                refine z_put (w' := cl_X11 cI cJ a ((0 : Int32), z.2.1, z.2.2.1, z.2.2.2.1, z.2.2.2.2.1, z.2.2.2.2.2.1, (0 : Int32), z.2.2.2.2.2.2.2.1, (0 : Int32), z.2.2.2.2.2.2.2.2.2)) (ci := 10) (v := .int (0 : Int32)) (ty := .int) (Cn := RX11) (T := TX11) (N := 17) X inX11 tyX11 tyX11_ok nmX11 hP hD hS 0 rfl rfl 6 (by decide) (hts _ q_fl_X11_149) (fun _ h9 => h9) rfl (tyX11_ok 6 (by decide)) rfl rfl (Nat.le_of_ble_eq_true rfl) rfl dX11_acts_196 (fun H locs hP hD hS => ?_)
                refine lv_iload_n hx hb dX11_acts_199 rfl (lv_at hl 1 rfl) ?_
                exact z_retMi (Wf := (fun z => cl_X11 cI cJ a z)) (u := ((0 : Int32), z.2.1, z.2.2.1, z.2.2.2.1, z.2.2.2.2.1, z.2.2.2.2.2.1, (0 : Int32), z.2.2.2.2.2.2.2.1, (0 : Int32), z.2.2.2.2.2.2.2.2.2)) X hf hP hD hS dX11_acts_200
        · have hf := hf.2 c_29
          refine lv_iload_n hx hb dX11_acts_60 rfl (lv_at hl 1 rfl) ?_
          refine lv_bipush (v := 14) hx hb dX11_acts_61 (by decide) ?_
          refine lv_icmp_ne (tgt := 74) hx hb dX11_acts_63 (by decide) (fun c_49 => ?_) (fun c_49 => ?_)
          · have hf := hf.1 c_49
            refine lv_aload_n hx hb dX11_acts_74 rfl (lv_at hl 0 rfl) ?_
            refine va_get (D := (dC, dI)) (ci := 10) (v := .int z.2.2.2.2.2.2.2.2.2.2.2.2.2.1) (C := RX11) (T := TX11) (N := 17) hx hb hts inX11 hown hK hP 0 rfl rfl 13 (by decide) (hts _ q_fl_X11_29) (fun _ h9 => h9) rfl dX11_acts_75 ?_
            refine lv_iconst (v := (-1)) hx hb dX11_acts_78 (by decide) ?_
            refine lv_icmp_ne (tgt := 87) hx hb dX11_acts_79 (by decide) (fun c_50 => ?_) (fun c_50 => ?_)
            · have hf := hf.1 c_50
              obtain ⟨x_51, ex_51⟩ : ∃ y : Int32, y = y1 + (1 : Int32) := ⟨_, rfl⟩
              have hf := hf x_51 ex_51
              refine lv_iinc (v := x_51) (lv' := [(1, .int x_51), (0, .ref (a 0)), (2, .int y2), (3, .int y3)]) hx hb dX11_acts_87 hl (k := 1) rfl (by rw [ex_51]; rfl) (by decide) rfl (fun ls hl => ?_)
              refine lv_aload_n hx hb dX11_acts_90 rfl (lv_at hl 1 rfl) ?_
              refine z_mVi (Wn := (fun u_53 => cl_X11 cI cJ a u_53)) (As := []) (rest := []) (wr := []) X (c_X11_here l dC dI cI cJ cS a z  _ hf _) zc_X11_here q_ml_X11_175 ⟨rfl, rfl⟩ ⟨Nat.le_of_ble_eq_true rfl, Nat.le_of_ble_eq_true rfl⟩ hP hD hS hA [0, 1, 2, 3, 4, 5, 6, 7, 8] [] rfl (by decide) rfl (by decide) (by decide) [0, 1, 2, 3, 4, 5, 6, 7, 8] (by decide) (fun _ => rfl) 10 rfl rfl hl.1 rfl rfl (Nat.le_of_ble_eq_true rfl) ⟨Nat.zero_le _, Nat.zero_le _⟩ dX11_acts_91 (fun r_52 u_53 H locs hf hP hD hS => ?_)
              refine lv_aload_n hx hb dX11_acts_94 rfl (lv_at hl 1 rfl) ?_
              refine va_get (D := (dC, dI)) (ci := 10) (v := .int u_53.2.2.2.2.2.2.2.2.2.2.2.1) (C := RX11) (T := TX11) (N := 17) hx hb hts inX11 hown hK hP 0 rfl rfl 11 (by decide) (hts _ q_fl_X11_172) (fun _ h9 => h9) rfl dX11_acts_95 ?_
              refine lv_icmp_ge (tgt := 105) hx hb dX11_acts_98 (by decide) (fun c_54 => ?_) (fun c_54 => ?_)
              · have hf := hf.1 c_54
                refine lv_iconst (v := 0) hx hb dX11_acts_105 (by decide) ?_
                refine lv_istore_n (lv' := [(3, .int (0 : Int32)), (1, .int x_51), (0, .ref (a 0)), (2, .int y2)]) hx hb dX11_acts_106 rfl hl (by decide) rfl (fun ls hl => ?_)
                refine lv_iload_n hx hb dX11_acts_107 rfl (lv_at hl 0 rfl) ?_
                refine lv_if_eq (tgt := 48) hx hb dX11_acts_108 (by decide) (fun c_55 => ?_) (fun c_55 => ?_)
                · have hf := hf.1 c_55
                  obtain ⟨k_56, hk_56, hf⟩ := hf
                  exact (ih k_56 hk_56) _ _ _ u_53 _ _ ls hf hP hD hS (lv_sub hl [2, 1, 3, 0] rfl)
                · have hf := hf.2 c_55
                  refine lv_aload_n hx hb dX11_acts_111 rfl (lv_at hl 2 rfl) ?_
                  refine va_get (D := (dC, dI)) (ci := 10) (v := .int u_53.2.2.2.2.2.2.2.2.2.2.2.2.2.1) (C := RX11) (T := TX11) (N := 17) hx hb hts inX11 hown hK hP 0 rfl rfl 13 (by decide) (hts _ q_fl_X11_29) (fun _ h9 => h9) rfl dX11_acts_112 ?_
                  refine lv_iconst (v := (-1)) hx hb dX11_acts_115 (by decide) ?_
                  refine lv_icmp_ne (tgt := 48) hx hb dX11_acts_116 (by decide) (fun c_57 => ?_) (fun c_57 => ?_)
                  · have hf := hf.1 c_57
                    obtain ⟨k_58, hk_58, hf⟩ := hf
                    exact (ih k_58 hk_58) _ _ _ u_53 _ _ ls hf hP hD hS (lv_sub hl [2, 1, 3, 0] rfl)
                  · have hf := hf.2 c_57
                    refine lv_aload_n hx hb dX11_acts_119 rfl (lv_at hl 2 rfl) ?_
                    refine va_get (D := (dC, dI)) (ci := 10) (v := .ref (a 6)) (C := RX11) (T := TX11) (N := 17) hx hb hts inX11 hown hK hP 0 rfl rfl 9 (by decide) (hts _ q_fl_X11_26) (fun _ h9 => h9) rfl dX11_acts_120 ?_
                    refine lv_aload_n hx hb dX11_acts_123 rfl (lv_at hl 2 rfl) ?_
                    refine va_get (D := (dC, dI)) (ci := 10) (v := .int u_53.2.2.2.2.2.2.2.2.2.2.2.2.1) (C := RX11) (T := TX11) (N := 17) hx hb hts inX11 hown hK hP 0 rfl rfl 12 (by decide) (hts _ q_fl_X11_169) (fun _ h9 => h9) rfl dX11_acts_124 ?_
                    obtain ⟨hg, hf⟩ := hf
                    refine va_iald hx hb hK hP 6 0 rfl rfl hg dX11_acts_127 ?_
                    refine lv_bipush (v := 59) hx hb dX11_acts_128 (by decide) ?_
                    refine lv_icmp_eq (tgt := 141) hx hb dX11_acts_130 (by decide) (fun c_59 => ?_) (fun c_59 => ?_)
                    · have hf := hf.1 c_59
                      refine lv_aload_n hx hb dX11_acts_141 rfl (lv_at hl 2 rfl) ?_
                      refine lv_dup hx hb dX11_acts_142 rfl ?_
                      refine va_get (D := (dC, dI)) (ci := 10) (v := .int u_53.2.2.2.2.2.2.2.2.2.2.2.2.1) (C := RX11) (T := TX11) (N := 17) hx hb hts inX11 hown hK hP 0 rfl rfl 12 (by decide) (hts _ q_fl_X11_169) (fun _ h9 => h9) rfl dX11_acts_143 ?_
                      refine lv_iconst (v := 1) hx hb dX11_acts_146 (by decide) ?_
                      refine lv_iadd hx hb dX11_acts_147 ?_
                      refine lv_topi (fun x_60 ex_60 => ?_)
                      have hf := hf x_60 ex_60
                      refine z_put (w' := cl_X11 cI cJ a (u_53.1, u_53.2.1, u_53.2.2.1, u_53.2.2.2.1, u_53.2.2.2.2.1, u_53.2.2.2.2.2.1, u_53.2.2.2.2.2.2.1, u_53.2.2.2.2.2.2.2.1, u_53.2.2.2.2.2.2.2.2.1, u_53.2.2.2.2.2.2.2.2.2.1, u_53.2.2.2.2.2.2.2.2.2.2.1, u_53.2.2.2.2.2.2.2.2.2.2.2.1, x_60, u_53.2.2.2.2.2.2.2.2.2.2.2.2.2)) (ci := 10) (v := .int x_60) (ty := .int) (Cn := RX11) (T := TX11) (N := 17) X inX11 tyX11 tyX11_ok nmX11 hP hD hS 0 rfl rfl 12 (by decide) (hts _ q_fl_X11_169) (fun _ h9 => h9) rfl (tyX11_ok 12 (by decide)) rfl rfl (Nat.le_of_ble_eq_true rfl) rfl dX11_acts_148 (fun H locs hP hD hS => ?_)
                      refine lv_goto (tgt := 48) hx hb dX11_acts_151 (by decide) ?_
                      obtain ⟨k_61, hk_61, hf⟩ := hf
                      exact (ih k_61 hk_61) _ _ _ (u_53.1, u_53.2.1, u_53.2.2.1, u_53.2.2.2.1, u_53.2.2.2.2.1, u_53.2.2.2.2.2.1, u_53.2.2.2.2.2.2.1, u_53.2.2.2.2.2.2.2.1, u_53.2.2.2.2.2.2.2.2.1, u_53.2.2.2.2.2.2.2.2.2.1, u_53.2.2.2.2.2.2.2.2.2.2.1, u_53.2.2.2.2.2.2.2.2.2.2.2.1, x_60, u_53.2.2.2.2.2.2.2.2.2.2.2.2.2) _ _ ls hf hP hD hS (lv_sub hl [2, 1, 3, 0] rfl)
                    · have hf := hf.2 c_59
                      refine lv_aload_n hx hb dX11_acts_133 rfl (lv_at hl 2 rfl) ?_
                      refine lv_aload_n hx hb dX11_acts_134 rfl (lv_at hl 2 rfl) ?_
                      refine va_get (D := (dC, dI)) (ci := 10) (v := .int u_53.2.2.2.2.2.2.2.2.2.2.2.2.1) (C := RX11) (T := TX11) (N := 17) hx hb hts inX11 hown hK hP 0 rfl rfl 12 (by decide) (hts _ q_fl_X11_169) (fun _ h9 => h9) rfl dX11_acts_135 ?_
                      refine z_mVv (Wn := (fun u_63 => cl_X11 cI cJ a u_63)) (As := [.int u_53.2.2.2.2.2.2.2.2.2.2.2.2.1]) (rest := []) (wr := []) X (c_X11_wrong l dC dI cI cJ cS a u_53 u_53.2.2.2.2.2.2.2.2.2.2.2.2.1 _ hf _) zc_X11_wrong q_ml_X11_187 ⟨rfl, rfl⟩ ⟨Nat.le_of_ble_eq_true rfl, Nat.le_of_ble_eq_true rfl⟩ hP hD hS hA [0, 1, 2, 3, 4, 5, 6, 7, 8] [] rfl (by decide) rfl (by decide) (by decide) [0, 1, 2, 3, 4, 5, 6, 7, 8] (by decide) (fun _ => rfl) 10 rfl rfl hl.1 rfl rfl (Nat.le_of_ble_eq_true rfl) ⟨Nat.zero_le _, Nat.zero_le _⟩ dX11_acts_138 (fun u_63 H locs hf hP hD hS => ?_)
                      refine lv_aload_n hx hb dX11_acts_141 rfl (lv_at hl 2 rfl) ?_
                      refine lv_dup hx hb dX11_acts_142 rfl ?_
                      refine va_get (D := (dC, dI)) (ci := 10) (v := .int u_63.2.2.2.2.2.2.2.2.2.2.2.2.1) (C := RX11) (T := TX11) (N := 17) hx hb hts inX11 hown hK hP 0 rfl rfl 12 (by decide) (hts _ q_fl_X11_169) (fun _ h9 => h9) rfl dX11_acts_143 ?_
                      refine lv_iconst (v := 1) hx hb dX11_acts_146 (by decide) ?_
                      refine lv_iadd hx hb dX11_acts_147 ?_
                      refine lv_topi (fun x_64 ex_64 => ?_)
                      have hf := hf x_64 ex_64
                      refine z_put (w' := cl_X11 cI cJ a (u_63.1, u_63.2.1, u_63.2.2.1, u_63.2.2.2.1, u_63.2.2.2.2.1, u_63.2.2.2.2.2.1, u_63.2.2.2.2.2.2.1, u_63.2.2.2.2.2.2.2.1, u_63.2.2.2.2.2.2.2.2.1, u_63.2.2.2.2.2.2.2.2.2.1, u_63.2.2.2.2.2.2.2.2.2.2.1, u_63.2.2.2.2.2.2.2.2.2.2.2.1, x_64, u_63.2.2.2.2.2.2.2.2.2.2.2.2.2)) (ci := 10) (v := .int x_64) (ty := .int) (Cn := RX11) (T := TX11) (N := 17) X inX11 tyX11 tyX11_ok nmX11 hP hD hS 0 rfl rfl 12 (by decide) (hts _ q_fl_X11_169) (fun _ h9 => h9) rfl (tyX11_ok 12 (by decide)) rfl rfl (Nat.le_of_ble_eq_true rfl) rfl dX11_acts_148 (fun H locs hP hD hS => ?_)
                      refine lv_goto (tgt := 48) hx hb dX11_acts_151 (by decide) ?_
                      obtain ⟨k_65, hk_65, hf⟩ := hf
                      exact (ih k_65 hk_65) _ _ _ (u_63.1, u_63.2.1, u_63.2.2.1, u_63.2.2.2.1, u_63.2.2.2.2.1, u_63.2.2.2.2.2.1, u_63.2.2.2.2.2.2.1, u_63.2.2.2.2.2.2.2.1, u_63.2.2.2.2.2.2.2.2.1, u_63.2.2.2.2.2.2.2.2.2.1, u_63.2.2.2.2.2.2.2.2.2.2.1, u_63.2.2.2.2.2.2.2.2.2.2.2.1, x_64, u_63.2.2.2.2.2.2.2.2.2.2.2.2.2) _ _ ls hf hP hD hS (lv_sub hl [2, 1, 3, 0] rfl)
              · have hf := hf.2 c_54
                refine lv_iconst (v := 1) hx hb dX11_acts_101 (by decide) ?_
                refine lv_goto (tgt := 106) hx hb dX11_acts_102 (by decide) ?_
                refine lv_istore_n (lv' := [(3, .int (1 : Int32)), (1, .int x_51), (0, .ref (a 0)), (2, .int y2)]) hx hb dX11_acts_106 rfl hl (by decide) rfl (fun ls hl => ?_)
                refine lv_iload_n hx hb dX11_acts_107 rfl (lv_at hl 0 rfl) ?_
                refine lv_if_eq (tgt := 48) hx hb dX11_acts_108 (by decide) (fun c_66 => ?_) (fun c_66 => ?_)
                · have hf := hf.1 c_66
                  obtain ⟨k_67, hk_67, hf⟩ := hf
                  exact (ih k_67 hk_67) _ _ _ u_53 _ _ ls hf hP hD hS (lv_sub hl [2, 1, 3, 0] rfl)
                · have hf := hf.2 c_66
                  refine lv_aload_n hx hb dX11_acts_111 rfl (lv_at hl 2 rfl) ?_
                  refine va_get (D := (dC, dI)) (ci := 10) (v := .int u_53.2.2.2.2.2.2.2.2.2.2.2.2.2.1) (C := RX11) (T := TX11) (N := 17) hx hb hts inX11 hown hK hP 0 rfl rfl 13 (by decide) (hts _ q_fl_X11_29) (fun _ h9 => h9) rfl dX11_acts_112 ?_
                  refine lv_iconst (v := (-1)) hx hb dX11_acts_115 (by decide) ?_
                  refine lv_icmp_ne (tgt := 48) hx hb dX11_acts_116 (by decide) (fun c_68 => ?_) (fun c_68 => ?_)
                  · have hf := hf.1 c_68
                    obtain ⟨k_69, hk_69, hf⟩ := hf
                    exact (ih k_69 hk_69) _ _ _ u_53 _ _ ls hf hP hD hS (lv_sub hl [2, 1, 3, 0] rfl)
                  · have hf := hf.2 c_68
                    refine lv_aload_n hx hb dX11_acts_119 rfl (lv_at hl 2 rfl) ?_
                    refine va_get (D := (dC, dI)) (ci := 10) (v := .ref (a 6)) (C := RX11) (T := TX11) (N := 17) hx hb hts inX11 hown hK hP 0 rfl rfl 9 (by decide) (hts _ q_fl_X11_26) (fun _ h9 => h9) rfl dX11_acts_120 ?_
                    refine lv_aload_n hx hb dX11_acts_123 rfl (lv_at hl 2 rfl) ?_
                    refine va_get (D := (dC, dI)) (ci := 10) (v := .int u_53.2.2.2.2.2.2.2.2.2.2.2.2.1) (C := RX11) (T := TX11) (N := 17) hx hb hts inX11 hown hK hP 0 rfl rfl 12 (by decide) (hts _ q_fl_X11_169) (fun _ h9 => h9) rfl dX11_acts_124 ?_
                    obtain ⟨hg, hf⟩ := hf
                    refine va_iald hx hb hK hP 6 0 rfl rfl hg dX11_acts_127 ?_
                    refine lv_bipush (v := 59) hx hb dX11_acts_128 (by decide) ?_
                    refine lv_icmp_eq (tgt := 141) hx hb dX11_acts_130 (by decide) (fun c_70 => ?_) (fun c_70 => ?_)
                    · have hf := hf.1 c_70
                      refine lv_aload_n hx hb dX11_acts_141 rfl (lv_at hl 2 rfl) ?_
                      refine lv_dup hx hb dX11_acts_142 rfl ?_
                      refine va_get (D := (dC, dI)) (ci := 10) (v := .int u_53.2.2.2.2.2.2.2.2.2.2.2.2.1) (C := RX11) (T := TX11) (N := 17) hx hb hts inX11 hown hK hP 0 rfl rfl 12 (by decide) (hts _ q_fl_X11_169) (fun _ h9 => h9) rfl dX11_acts_143 ?_
                      refine lv_iconst (v := 1) hx hb dX11_acts_146 (by decide) ?_
                      refine lv_iadd hx hb dX11_acts_147 ?_
                      refine lv_topi (fun x_71 ex_71 => ?_)
                      have hf := hf x_71 ex_71
                      refine z_put (w' := cl_X11 cI cJ a (u_53.1, u_53.2.1, u_53.2.2.1, u_53.2.2.2.1, u_53.2.2.2.2.1, u_53.2.2.2.2.2.1, u_53.2.2.2.2.2.2.1, u_53.2.2.2.2.2.2.2.1, u_53.2.2.2.2.2.2.2.2.1, u_53.2.2.2.2.2.2.2.2.2.1, u_53.2.2.2.2.2.2.2.2.2.2.1, u_53.2.2.2.2.2.2.2.2.2.2.2.1, x_71, u_53.2.2.2.2.2.2.2.2.2.2.2.2.2)) (ci := 10) (v := .int x_71) (ty := .int) (Cn := RX11) (T := TX11) (N := 17) X inX11 tyX11 tyX11_ok nmX11 hP hD hS 0 rfl rfl 12 (by decide) (hts _ q_fl_X11_169) (fun _ h9 => h9) rfl (tyX11_ok 12 (by decide)) rfl rfl (Nat.le_of_ble_eq_true rfl) rfl dX11_acts_148 (fun H locs hP hD hS => ?_)
                      refine lv_goto (tgt := 48) hx hb dX11_acts_151 (by decide) ?_
                      obtain ⟨k_72, hk_72, hf⟩ := hf
                      exact (ih k_72 hk_72) _ _ _ (u_53.1, u_53.2.1, u_53.2.2.1, u_53.2.2.2.1, u_53.2.2.2.2.1, u_53.2.2.2.2.2.1, u_53.2.2.2.2.2.2.1, u_53.2.2.2.2.2.2.2.1, u_53.2.2.2.2.2.2.2.2.1, u_53.2.2.2.2.2.2.2.2.2.1, u_53.2.2.2.2.2.2.2.2.2.2.1, u_53.2.2.2.2.2.2.2.2.2.2.2.1, x_71, u_53.2.2.2.2.2.2.2.2.2.2.2.2.2) _ _ ls hf hP hD hS (lv_sub hl [2, 1, 3, 0] rfl)
                    · have hf := hf.2 c_70
                      refine lv_aload_n hx hb dX11_acts_133 rfl (lv_at hl 2 rfl) ?_
                      refine lv_aload_n hx hb dX11_acts_134 rfl (lv_at hl 2 rfl) ?_
                      refine va_get (D := (dC, dI)) (ci := 10) (v := .int u_53.2.2.2.2.2.2.2.2.2.2.2.2.1) (C := RX11) (T := TX11) (N := 17) hx hb hts inX11 hown hK hP 0 rfl rfl 12 (by decide) (hts _ q_fl_X11_169) (fun _ h9 => h9) rfl dX11_acts_135 ?_
                      refine z_mVv (Wn := (fun u_74 => cl_X11 cI cJ a u_74)) (As := [.int u_53.2.2.2.2.2.2.2.2.2.2.2.2.1]) (rest := []) (wr := []) X (c_X11_wrong l dC dI cI cJ cS a u_53 u_53.2.2.2.2.2.2.2.2.2.2.2.2.1 _ hf _) zc_X11_wrong q_ml_X11_187 ⟨rfl, rfl⟩ ⟨Nat.le_of_ble_eq_true rfl, Nat.le_of_ble_eq_true rfl⟩ hP hD hS hA [0, 1, 2, 3, 4, 5, 6, 7, 8] [] rfl (by decide) rfl (by decide) (by decide) [0, 1, 2, 3, 4, 5, 6, 7, 8] (by decide) (fun _ => rfl) 10 rfl rfl hl.1 rfl rfl (Nat.le_of_ble_eq_true rfl) ⟨Nat.zero_le _, Nat.zero_le _⟩ dX11_acts_138 (fun u_74 H locs hf hP hD hS => ?_)
                      refine lv_aload_n hx hb dX11_acts_141 rfl (lv_at hl 2 rfl) ?_
                      refine lv_dup hx hb dX11_acts_142 rfl ?_
                      refine va_get (D := (dC, dI)) (ci := 10) (v := .int u_74.2.2.2.2.2.2.2.2.2.2.2.2.1) (C := RX11) (T := TX11) (N := 17) hx hb hts inX11 hown hK hP 0 rfl rfl 12 (by decide) (hts _ q_fl_X11_169) (fun _ h9 => h9) rfl dX11_acts_143 ?_
                      refine lv_iconst (v := 1) hx hb dX11_acts_146 (by decide) ?_
                      refine lv_iadd hx hb dX11_acts_147 ?_
                      refine lv_topi (fun x_75 ex_75 => ?_)
                      have hf := hf x_75 ex_75
                      refine z_put (w' := cl_X11 cI cJ a (u_74.1, u_74.2.1, u_74.2.2.1, u_74.2.2.2.1, u_74.2.2.2.2.1, u_74.2.2.2.2.2.1, u_74.2.2.2.2.2.2.1, u_74.2.2.2.2.2.2.2.1, u_74.2.2.2.2.2.2.2.2.1, u_74.2.2.2.2.2.2.2.2.2.1, u_74.2.2.2.2.2.2.2.2.2.2.1, u_74.2.2.2.2.2.2.2.2.2.2.2.1, x_75, u_74.2.2.2.2.2.2.2.2.2.2.2.2.2)) (ci := 10) (v := .int x_75) (ty := .int) (Cn := RX11) (T := TX11) (N := 17) X inX11 tyX11 tyX11_ok nmX11 hP hD hS 0 rfl rfl 12 (by decide) (hts _ q_fl_X11_169) (fun _ h9 => h9) rfl (tyX11_ok 12 (by decide)) rfl rfl (Nat.le_of_ble_eq_true rfl) rfl dX11_acts_148 (fun H locs hP hD hS => ?_)
                      refine lv_goto (tgt := 48) hx hb dX11_acts_151 (by decide) ?_
                      obtain ⟨k_76, hk_76, hf⟩ := hf
                      exact (ih k_76 hk_76) _ _ _ (u_74.1, u_74.2.1, u_74.2.2.1, u_74.2.2.2.1, u_74.2.2.2.2.1, u_74.2.2.2.2.2.1, u_74.2.2.2.2.2.2.1, u_74.2.2.2.2.2.2.2.1, u_74.2.2.2.2.2.2.2.2.1, u_74.2.2.2.2.2.2.2.2.2.1, u_74.2.2.2.2.2.2.2.2.2.2.1, u_74.2.2.2.2.2.2.2.2.2.2.2.1, x_75, u_74.2.2.2.2.2.2.2.2.2.2.2.2.2) _ _ ls hf hP hD hS (lv_sub hl [2, 1, 3, 0] rfl)
            · have hf := hf.2 c_50
              refine lv_aload_n hx hb dX11_acts_82 rfl (lv_at hl 0 rfl) ?_
              refine z_mViF (Wn := (fun u_78 => cl_X11 cI cJ a u_78)) (As := []) (rest := []) (wr := []) X fro_Fz hF (c_X11_act l dC dI cI cJ cS a z  _ hf _) zc_X11_act q_ml_X11_251 ⟨rfl, rfl⟩ ⟨Nat.le_of_ble_eq_true rfl, Nat.le_of_ble_eq_true rfl⟩ hP hD hS hA [0, 1, 2, 3, 4, 5, 6, 7, 8] [] rfl (by decide) rfl (by decide) (by decide) [0, 1, 2, 3, 4, 5, 6, 7, 8] (by decide) (fun _ => rfl) 10 rfl rfl hl.1 rfl rfl (Nat.le_of_ble_eq_true rfl) ⟨Nat.zero_le _, Nat.zero_le _⟩ dX11_acts_83 (fun r_77 u_78 H locs hf hP hD hS => ?_)
              refine lv_istore_n (lv' := [(2, .int r_77), (0, .ref (a 0)), (1, .int y1), (3, .int y3)]) hx hb dX11_acts_86 rfl hl (by decide) rfl (fun ls hl => ?_)
              obtain ⟨x_79, ex_79⟩ : ∃ y : Int32, y = y1 + (1 : Int32) := ⟨_, rfl⟩
              have hf := hf x_79 ex_79
              refine lv_iinc (v := x_79) (lv' := [(1, .int x_79), (2, .int r_77), (0, .ref (a 0)), (3, .int y3)]) hx hb dX11_acts_87 hl (k := 2) rfl (by rw [ex_79]; rfl) (by decide) rfl (fun ls hl => ?_)
              refine lv_aload_n hx hb dX11_acts_90 rfl (lv_at hl 2 rfl) ?_
              refine z_mVi (Wn := (fun u_81 => cl_X11 cI cJ a u_81)) (As := []) (rest := []) (wr := []) X (c_X11_here l dC dI cI cJ cS a u_78  _ hf _) zc_X11_here q_ml_X11_175 ⟨rfl, rfl⟩ ⟨Nat.le_of_ble_eq_true rfl, Nat.le_of_ble_eq_true rfl⟩ hP hD hS hA [0, 1, 2, 3, 4, 5, 6, 7, 8] [] rfl (by decide) rfl (by decide) (by decide) [0, 1, 2, 3, 4, 5, 6, 7, 8] (by decide) (fun _ => rfl) 10 rfl rfl hl.1 rfl rfl (Nat.le_of_ble_eq_true rfl) ⟨Nat.zero_le _, Nat.zero_le _⟩ dX11_acts_91 (fun r_80 u_81 H locs hf hP hD hS => ?_)
              refine lv_aload_n hx hb dX11_acts_94 rfl (lv_at hl 2 rfl) ?_
              refine va_get (D := (dC, dI)) (ci := 10) (v := .int u_81.2.2.2.2.2.2.2.2.2.2.2.1) (C := RX11) (T := TX11) (N := 17) hx hb hts inX11 hown hK hP 0 rfl rfl 11 (by decide) (hts _ q_fl_X11_172) (fun _ h9 => h9) rfl dX11_acts_95 ?_
              refine lv_icmp_ge (tgt := 105) hx hb dX11_acts_98 (by decide) (fun c_82 => ?_) (fun c_82 => ?_)
              · have hf := hf.1 c_82
                refine lv_iconst (v := 0) hx hb dX11_acts_105 (by decide) ?_
                refine lv_istore_n (lv' := [(3, .int (0 : Int32)), (1, .int x_79), (2, .int r_77), (0, .ref (a 0))]) hx hb dX11_acts_106 rfl hl (by decide) rfl (fun ls hl => ?_)
                refine lv_iload_n hx hb dX11_acts_107 rfl (lv_at hl 0 rfl) ?_
                refine lv_if_eq (tgt := 48) hx hb dX11_acts_108 (by decide) (fun c_83 => ?_) (fun c_83 => ?_)
                · have hf := hf.1 c_83
                  obtain ⟨k_84, hk_84, hf⟩ := hf
                  exact (ih k_84 hk_84) _ _ _ u_81 _ _ ls hf hP hD hS (lv_sub hl [3, 1, 2, 0] rfl)
                · have hf := hf.2 c_83
                  refine lv_aload_n hx hb dX11_acts_111 rfl (lv_at hl 3 rfl) ?_
                  refine va_get (D := (dC, dI)) (ci := 10) (v := .int u_81.2.2.2.2.2.2.2.2.2.2.2.2.2.1) (C := RX11) (T := TX11) (N := 17) hx hb hts inX11 hown hK hP 0 rfl rfl 13 (by decide) (hts _ q_fl_X11_29) (fun _ h9 => h9) rfl dX11_acts_112 ?_
                  refine lv_iconst (v := (-1)) hx hb dX11_acts_115 (by decide) ?_
                  refine lv_icmp_ne (tgt := 48) hx hb dX11_acts_116 (by decide) (fun c_85 => ?_) (fun c_85 => ?_)
                  · have hf := hf.1 c_85
                    obtain ⟨k_86, hk_86, hf⟩ := hf
                    exact (ih k_86 hk_86) _ _ _ u_81 _ _ ls hf hP hD hS (lv_sub hl [3, 1, 2, 0] rfl)
                  · have hf := hf.2 c_85
                    refine lv_aload_n hx hb dX11_acts_119 rfl (lv_at hl 3 rfl) ?_
                    refine va_get (D := (dC, dI)) (ci := 10) (v := .ref (a 6)) (C := RX11) (T := TX11) (N := 17) hx hb hts inX11 hown hK hP 0 rfl rfl 9 (by decide) (hts _ q_fl_X11_26) (fun _ h9 => h9) rfl dX11_acts_120 ?_
                    refine lv_aload_n hx hb dX11_acts_123 rfl (lv_at hl 3 rfl) ?_
                    refine va_get (D := (dC, dI)) (ci := 10) (v := .int u_81.2.2.2.2.2.2.2.2.2.2.2.2.1) (C := RX11) (T := TX11) (N := 17) hx hb hts inX11 hown hK hP 0 rfl rfl 12 (by decide) (hts _ q_fl_X11_169) (fun _ h9 => h9) rfl dX11_acts_124 ?_
                    obtain ⟨hg, hf⟩ := hf
                    refine va_iald hx hb hK hP 6 0 rfl rfl hg dX11_acts_127 ?_
                    refine lv_bipush (v := 59) hx hb dX11_acts_128 (by decide) ?_
                    refine lv_icmp_eq (tgt := 141) hx hb dX11_acts_130 (by decide) (fun c_87 => ?_) (fun c_87 => ?_)
                    · have hf := hf.1 c_87
                      refine lv_aload_n hx hb dX11_acts_141 rfl (lv_at hl 3 rfl) ?_
                      refine lv_dup hx hb dX11_acts_142 rfl ?_
                      refine va_get (D := (dC, dI)) (ci := 10) (v := .int u_81.2.2.2.2.2.2.2.2.2.2.2.2.1) (C := RX11) (T := TX11) (N := 17) hx hb hts inX11 hown hK hP 0 rfl rfl 12 (by decide) (hts _ q_fl_X11_169) (fun _ h9 => h9) rfl dX11_acts_143 ?_
                      refine lv_iconst (v := 1) hx hb dX11_acts_146 (by decide) ?_
                      refine lv_iadd hx hb dX11_acts_147 ?_
                      refine lv_topi (fun x_88 ex_88 => ?_)
                      have hf := hf x_88 ex_88
                      refine z_put (w' := cl_X11 cI cJ a (u_81.1, u_81.2.1, u_81.2.2.1, u_81.2.2.2.1, u_81.2.2.2.2.1, u_81.2.2.2.2.2.1, u_81.2.2.2.2.2.2.1, u_81.2.2.2.2.2.2.2.1, u_81.2.2.2.2.2.2.2.2.1, u_81.2.2.2.2.2.2.2.2.2.1, u_81.2.2.2.2.2.2.2.2.2.2.1, u_81.2.2.2.2.2.2.2.2.2.2.2.1, x_88, u_81.2.2.2.2.2.2.2.2.2.2.2.2.2)) (ci := 10) (v := .int x_88) (ty := .int) (Cn := RX11) (T := TX11) (N := 17) X inX11 tyX11 tyX11_ok nmX11 hP hD hS 0 rfl rfl 12 (by decide) (hts _ q_fl_X11_169) (fun _ h9 => h9) rfl (tyX11_ok 12 (by decide)) rfl rfl (Nat.le_of_ble_eq_true rfl) rfl dX11_acts_148 (fun H locs hP hD hS => ?_)
                      refine lv_goto (tgt := 48) hx hb dX11_acts_151 (by decide) ?_
                      obtain ⟨k_89, hk_89, hf⟩ := hf
                      exact (ih k_89 hk_89) _ _ _ (u_81.1, u_81.2.1, u_81.2.2.1, u_81.2.2.2.1, u_81.2.2.2.2.1, u_81.2.2.2.2.2.1, u_81.2.2.2.2.2.2.1, u_81.2.2.2.2.2.2.2.1, u_81.2.2.2.2.2.2.2.2.1, u_81.2.2.2.2.2.2.2.2.2.1, u_81.2.2.2.2.2.2.2.2.2.2.1, u_81.2.2.2.2.2.2.2.2.2.2.2.1, x_88, u_81.2.2.2.2.2.2.2.2.2.2.2.2.2) _ _ ls hf hP hD hS (lv_sub hl [3, 1, 2, 0] rfl)
                    · have hf := hf.2 c_87
                      refine lv_aload_n hx hb dX11_acts_133 rfl (lv_at hl 3 rfl) ?_
                      refine lv_aload_n hx hb dX11_acts_134 rfl (lv_at hl 3 rfl) ?_
                      refine va_get (D := (dC, dI)) (ci := 10) (v := .int u_81.2.2.2.2.2.2.2.2.2.2.2.2.1) (C := RX11) (T := TX11) (N := 17) hx hb hts inX11 hown hK hP 0 rfl rfl 12 (by decide) (hts _ q_fl_X11_169) (fun _ h9 => h9) rfl dX11_acts_135 ?_
                      refine z_mVv (Wn := (fun u_91 => cl_X11 cI cJ a u_91)) (As := [.int u_81.2.2.2.2.2.2.2.2.2.2.2.2.1]) (rest := []) (wr := []) X (c_X11_wrong l dC dI cI cJ cS a u_81 u_81.2.2.2.2.2.2.2.2.2.2.2.2.1 _ hf _) zc_X11_wrong q_ml_X11_187 ⟨rfl, rfl⟩ ⟨Nat.le_of_ble_eq_true rfl, Nat.le_of_ble_eq_true rfl⟩ hP hD hS hA [0, 1, 2, 3, 4, 5, 6, 7, 8] [] rfl (by decide) rfl (by decide) (by decide) [0, 1, 2, 3, 4, 5, 6, 7, 8] (by decide) (fun _ => rfl) 10 rfl rfl hl.1 rfl rfl (Nat.le_of_ble_eq_true rfl) ⟨Nat.zero_le _, Nat.zero_le _⟩ dX11_acts_138 (fun u_91 H locs hf hP hD hS => ?_)
                      refine lv_aload_n hx hb dX11_acts_141 rfl (lv_at hl 3 rfl) ?_
                      refine lv_dup hx hb dX11_acts_142 rfl ?_
                      refine va_get (D := (dC, dI)) (ci := 10) (v := .int u_91.2.2.2.2.2.2.2.2.2.2.2.2.1) (C := RX11) (T := TX11) (N := 17) hx hb hts inX11 hown hK hP 0 rfl rfl 12 (by decide) (hts _ q_fl_X11_169) (fun _ h9 => h9) rfl dX11_acts_143 ?_
                      refine lv_iconst (v := 1) hx hb dX11_acts_146 (by decide) ?_
                      refine lv_iadd hx hb dX11_acts_147 ?_
                      refine lv_topi (fun x_92 ex_92 => ?_)
                      have hf := hf x_92 ex_92
                      refine z_put (w' := cl_X11 cI cJ a (u_91.1, u_91.2.1, u_91.2.2.1, u_91.2.2.2.1, u_91.2.2.2.2.1, u_91.2.2.2.2.2.1, u_91.2.2.2.2.2.2.1, u_91.2.2.2.2.2.2.2.1, u_91.2.2.2.2.2.2.2.2.1, u_91.2.2.2.2.2.2.2.2.2.1, u_91.2.2.2.2.2.2.2.2.2.2.1, u_91.2.2.2.2.2.2.2.2.2.2.2.1, x_92, u_91.2.2.2.2.2.2.2.2.2.2.2.2.2)) (ci := 10) (v := .int x_92) (ty := .int) (Cn := RX11) (T := TX11) (N := 17) X inX11 tyX11 tyX11_ok nmX11 hP hD hS 0 rfl rfl 12 (by decide) (hts _ q_fl_X11_169) (fun _ h9 => h9) rfl (tyX11_ok 12 (by decide)) rfl rfl (Nat.le_of_ble_eq_true rfl) rfl dX11_acts_148 (fun H locs hP hD hS => ?_)
                      refine lv_goto (tgt := 48) hx hb dX11_acts_151 (by decide) ?_
                      obtain ⟨k_93, hk_93, hf⟩ := hf
                      exact (ih k_93 hk_93) _ _ _ (u_91.1, u_91.2.1, u_91.2.2.1, u_91.2.2.2.1, u_91.2.2.2.2.1, u_91.2.2.2.2.2.1, u_91.2.2.2.2.2.2.1, u_91.2.2.2.2.2.2.2.1, u_91.2.2.2.2.2.2.2.2.1, u_91.2.2.2.2.2.2.2.2.2.1, u_91.2.2.2.2.2.2.2.2.2.2.1, u_91.2.2.2.2.2.2.2.2.2.2.2.1, x_92, u_91.2.2.2.2.2.2.2.2.2.2.2.2.2) _ _ ls hf hP hD hS (lv_sub hl [3, 1, 2, 0] rfl)
              · have hf := hf.2 c_82
                refine lv_iconst (v := 1) hx hb dX11_acts_101 (by decide) ?_
                refine lv_goto (tgt := 106) hx hb dX11_acts_102 (by decide) ?_
                refine lv_istore_n (lv' := [(3, .int (1 : Int32)), (1, .int x_79), (2, .int r_77), (0, .ref (a 0))]) hx hb dX11_acts_106 rfl hl (by decide) rfl (fun ls hl => ?_)
                refine lv_iload_n hx hb dX11_acts_107 rfl (lv_at hl 0 rfl) ?_
                refine lv_if_eq (tgt := 48) hx hb dX11_acts_108 (by decide) (fun c_94 => ?_) (fun c_94 => ?_)
                · have hf := hf.1 c_94
                  obtain ⟨k_95, hk_95, hf⟩ := hf
                  exact (ih k_95 hk_95) _ _ _ u_81 _ _ ls hf hP hD hS (lv_sub hl [3, 1, 2, 0] rfl)
                · have hf := hf.2 c_94
                  refine lv_aload_n hx hb dX11_acts_111 rfl (lv_at hl 3 rfl) ?_
                  refine va_get (D := (dC, dI)) (ci := 10) (v := .int u_81.2.2.2.2.2.2.2.2.2.2.2.2.2.1) (C := RX11) (T := TX11) (N := 17) hx hb hts inX11 hown hK hP 0 rfl rfl 13 (by decide) (hts _ q_fl_X11_29) (fun _ h9 => h9) rfl dX11_acts_112 ?_
                  refine lv_iconst (v := (-1)) hx hb dX11_acts_115 (by decide) ?_
                  refine lv_icmp_ne (tgt := 48) hx hb dX11_acts_116 (by decide) (fun c_96 => ?_) (fun c_96 => ?_)
                  · have hf := hf.1 c_96
                    obtain ⟨k_97, hk_97, hf⟩ := hf
                    exact (ih k_97 hk_97) _ _ _ u_81 _ _ ls hf hP hD hS (lv_sub hl [3, 1, 2, 0] rfl)
                  · have hf := hf.2 c_96
                    refine lv_aload_n hx hb dX11_acts_119 rfl (lv_at hl 3 rfl) ?_
                    refine va_get (D := (dC, dI)) (ci := 10) (v := .ref (a 6)) (C := RX11) (T := TX11) (N := 17) hx hb hts inX11 hown hK hP 0 rfl rfl 9 (by decide) (hts _ q_fl_X11_26) (fun _ h9 => h9) rfl dX11_acts_120 ?_
                    refine lv_aload_n hx hb dX11_acts_123 rfl (lv_at hl 3 rfl) ?_
                    refine va_get (D := (dC, dI)) (ci := 10) (v := .int u_81.2.2.2.2.2.2.2.2.2.2.2.2.1) (C := RX11) (T := TX11) (N := 17) hx hb hts inX11 hown hK hP 0 rfl rfl 12 (by decide) (hts _ q_fl_X11_169) (fun _ h9 => h9) rfl dX11_acts_124 ?_
                    obtain ⟨hg, hf⟩ := hf
                    refine va_iald hx hb hK hP 6 0 rfl rfl hg dX11_acts_127 ?_
                    refine lv_bipush (v := 59) hx hb dX11_acts_128 (by decide) ?_
                    refine lv_icmp_eq (tgt := 141) hx hb dX11_acts_130 (by decide) (fun c_98 => ?_) (fun c_98 => ?_)
                    · have hf := hf.1 c_98
                      refine lv_aload_n hx hb dX11_acts_141 rfl (lv_at hl 3 rfl) ?_
                      refine lv_dup hx hb dX11_acts_142 rfl ?_
                      refine va_get (D := (dC, dI)) (ci := 10) (v := .int u_81.2.2.2.2.2.2.2.2.2.2.2.2.1) (C := RX11) (T := TX11) (N := 17) hx hb hts inX11 hown hK hP 0 rfl rfl 12 (by decide) (hts _ q_fl_X11_169) (fun _ h9 => h9) rfl dX11_acts_143 ?_
                      refine lv_iconst (v := 1) hx hb dX11_acts_146 (by decide) ?_
                      refine lv_iadd hx hb dX11_acts_147 ?_
                      refine lv_topi (fun x_99 ex_99 => ?_)
                      have hf := hf x_99 ex_99
                      refine z_put (w' := cl_X11 cI cJ a (u_81.1, u_81.2.1, u_81.2.2.1, u_81.2.2.2.1, u_81.2.2.2.2.1, u_81.2.2.2.2.2.1, u_81.2.2.2.2.2.2.1, u_81.2.2.2.2.2.2.2.1, u_81.2.2.2.2.2.2.2.2.1, u_81.2.2.2.2.2.2.2.2.2.1, u_81.2.2.2.2.2.2.2.2.2.2.1, u_81.2.2.2.2.2.2.2.2.2.2.2.1, x_99, u_81.2.2.2.2.2.2.2.2.2.2.2.2.2)) (ci := 10) (v := .int x_99) (ty := .int) (Cn := RX11) (T := TX11) (N := 17) X inX11 tyX11 tyX11_ok nmX11 hP hD hS 0 rfl rfl 12 (by decide) (hts _ q_fl_X11_169) (fun _ h9 => h9) rfl (tyX11_ok 12 (by decide)) rfl rfl (Nat.le_of_ble_eq_true rfl) rfl dX11_acts_148 (fun H locs hP hD hS => ?_)
                      refine lv_goto (tgt := 48) hx hb dX11_acts_151 (by decide) ?_
                      obtain ⟨k_100, hk_100, hf⟩ := hf
                      exact (ih k_100 hk_100) _ _ _ (u_81.1, u_81.2.1, u_81.2.2.1, u_81.2.2.2.1, u_81.2.2.2.2.1, u_81.2.2.2.2.2.1, u_81.2.2.2.2.2.2.1, u_81.2.2.2.2.2.2.2.1, u_81.2.2.2.2.2.2.2.2.1, u_81.2.2.2.2.2.2.2.2.2.1, u_81.2.2.2.2.2.2.2.2.2.2.1, u_81.2.2.2.2.2.2.2.2.2.2.2.1, x_99, u_81.2.2.2.2.2.2.2.2.2.2.2.2.2) _ _ ls hf hP hD hS (lv_sub hl [3, 1, 2, 0] rfl)
                    · have hf := hf.2 c_98
                      refine lv_aload_n hx hb dX11_acts_133 rfl (lv_at hl 3 rfl) ?_
                      refine lv_aload_n hx hb dX11_acts_134 rfl (lv_at hl 3 rfl) ?_
                      refine va_get (D := (dC, dI)) (ci := 10) (v := .int u_81.2.2.2.2.2.2.2.2.2.2.2.2.1) (C := RX11) (T := TX11) (N := 17) hx hb hts inX11 hown hK hP 0 rfl rfl 12 (by decide) (hts _ q_fl_X11_169) (fun _ h9 => h9) rfl dX11_acts_135 ?_
                      refine z_mVv (Wn := (fun u_102 => cl_X11 cI cJ a u_102)) (As := [.int u_81.2.2.2.2.2.2.2.2.2.2.2.2.1]) (rest := []) (wr := []) X (c_X11_wrong l dC dI cI cJ cS a u_81 u_81.2.2.2.2.2.2.2.2.2.2.2.2.1 _ hf _) zc_X11_wrong q_ml_X11_187 ⟨rfl, rfl⟩ ⟨Nat.le_of_ble_eq_true rfl, Nat.le_of_ble_eq_true rfl⟩ hP hD hS hA [0, 1, 2, 3, 4, 5, 6, 7, 8] [] rfl (by decide) rfl (by decide) (by decide) [0, 1, 2, 3, 4, 5, 6, 7, 8] (by decide) (fun _ => rfl) 10 rfl rfl hl.1 rfl rfl (Nat.le_of_ble_eq_true rfl) ⟨Nat.zero_le _, Nat.zero_le _⟩ dX11_acts_138 (fun u_102 H locs hf hP hD hS => ?_)
                      refine lv_aload_n hx hb dX11_acts_141 rfl (lv_at hl 3 rfl) ?_
                      refine lv_dup hx hb dX11_acts_142 rfl ?_
                      refine va_get (D := (dC, dI)) (ci := 10) (v := .int u_102.2.2.2.2.2.2.2.2.2.2.2.2.1) (C := RX11) (T := TX11) (N := 17) hx hb hts inX11 hown hK hP 0 rfl rfl 12 (by decide) (hts _ q_fl_X11_169) (fun _ h9 => h9) rfl dX11_acts_143 ?_
                      refine lv_iconst (v := 1) hx hb dX11_acts_146 (by decide) ?_
                      refine lv_iadd hx hb dX11_acts_147 ?_
                      refine lv_topi (fun x_103 ex_103 => ?_)
                      have hf := hf x_103 ex_103
                      refine z_put (w' := cl_X11 cI cJ a (u_102.1, u_102.2.1, u_102.2.2.1, u_102.2.2.2.1, u_102.2.2.2.2.1, u_102.2.2.2.2.2.1, u_102.2.2.2.2.2.2.1, u_102.2.2.2.2.2.2.2.1, u_102.2.2.2.2.2.2.2.2.1, u_102.2.2.2.2.2.2.2.2.2.1, u_102.2.2.2.2.2.2.2.2.2.2.1, u_102.2.2.2.2.2.2.2.2.2.2.2.1, x_103, u_102.2.2.2.2.2.2.2.2.2.2.2.2.2)) (ci := 10) (v := .int x_103) (ty := .int) (Cn := RX11) (T := TX11) (N := 17) X inX11 tyX11 tyX11_ok nmX11 hP hD hS 0 rfl rfl 12 (by decide) (hts _ q_fl_X11_169) (fun _ h9 => h9) rfl (tyX11_ok 12 (by decide)) rfl rfl (Nat.le_of_ble_eq_true rfl) rfl dX11_acts_148 (fun H locs hP hD hS => ?_)
                      refine lv_goto (tgt := 48) hx hb dX11_acts_151 (by decide) ?_
                      obtain ⟨k_104, hk_104, hf⟩ := hf
                      exact (ih k_104 hk_104) _ _ _ (u_102.1, u_102.2.1, u_102.2.2.1, u_102.2.2.2.1, u_102.2.2.2.2.1, u_102.2.2.2.2.2.1, u_102.2.2.2.2.2.2.1, u_102.2.2.2.2.2.2.2.1, u_102.2.2.2.2.2.2.2.2.1, u_102.2.2.2.2.2.2.2.2.2.1, u_102.2.2.2.2.2.2.2.2.2.2.1, u_102.2.2.2.2.2.2.2.2.2.2.2.1, x_103, u_102.2.2.2.2.2.2.2.2.2.2.2.2.2) _ _ ls hf hP hD hS (lv_sub hl [3, 1, 2, 0] rfl)
          · have hf := hf.2 c_49
            refine lv_aload_n hx hb dX11_acts_66 rfl (lv_at hl 0 rfl) ?_
            refine lv_aload_n hx hb dX11_acts_67 rfl (lv_at hl 0 rfl) ?_
            refine z_mVi (Wn := (fun u_106 => cl_X11 cI cJ a u_106)) (As := []) (rest := [.ref (a 0)]) (wr := []) X (c_X11_here l dC dI cI cJ cS a z  _ hf _) zc_X11_here q_ml_X11_175 ⟨rfl, rfl⟩ ⟨Nat.le_of_ble_eq_true rfl, Nat.le_of_ble_eq_true rfl⟩ hP hD hS hA [0, 1, 2, 3, 4, 5, 6, 7, 8] [] rfl (by decide) rfl (by decide) (by decide) [0, 1, 2, 3, 4, 5, 6, 7, 8] (by decide) (fun _ => rfl) 10 rfl rfl hl.1 rfl rfl (Nat.le_of_ble_eq_true rfl) ⟨Nat.zero_le _, Nat.zero_le _⟩ dX11_acts_68 (fun r_105 u_106 H locs hf hP hD hS => ?_)
            refine z_mVv (Wn := (fun u_108 => cl_X11 cI cJ a u_108)) (As := [.int r_105]) (rest := []) (wr := []) X (c_X11_wrong l dC dI cI cJ cS a u_106 r_105 _ hf _) zc_X11_wrong q_ml_X11_187 ⟨rfl, rfl⟩ ⟨Nat.le_of_ble_eq_true rfl, Nat.le_of_ble_eq_true rfl⟩ hP hD hS hA [0, 1, 2, 3, 4, 5, 6, 7, 8] [] rfl (by decide) rfl (by decide) (by decide) [0, 1, 2, 3, 4, 5, 6, 7, 8] (by decide) (fun _ => rfl) 10 rfl rfl hl.1 rfl rfl (Nat.le_of_ble_eq_true rfl) ⟨Nat.zero_le _, Nat.zero_le _⟩ dX11_acts_71 (fun u_108 H locs hf hP hD hS => ?_)
            refine lv_aload_n hx hb dX11_acts_74 rfl (lv_at hl 0 rfl) ?_
            refine va_get (D := (dC, dI)) (ci := 10) (v := .int u_108.2.2.2.2.2.2.2.2.2.2.2.2.2.1) (C := RX11) (T := TX11) (N := 17) hx hb hts inX11 hown hK hP 0 rfl rfl 13 (by decide) (hts _ q_fl_X11_29) (fun _ h9 => h9) rfl dX11_acts_75 ?_
            refine lv_iconst (v := (-1)) hx hb dX11_acts_78 (by decide) ?_
            refine lv_icmp_ne (tgt := 87) hx hb dX11_acts_79 (by decide) (fun c_109 => ?_) (fun c_109 => ?_)
            · have hf := hf.1 c_109
              obtain ⟨x_110, ex_110⟩ : ∃ y : Int32, y = y1 + (1 : Int32) := ⟨_, rfl⟩
              have hf := hf x_110 ex_110
              refine lv_iinc (v := x_110) (lv' := [(1, .int x_110), (0, .ref (a 0)), (2, .int y2), (3, .int y3)]) hx hb dX11_acts_87 hl (k := 1) rfl (by rw [ex_110]; rfl) (by decide) rfl (fun ls hl => ?_)
              refine lv_aload_n hx hb dX11_acts_90 rfl (lv_at hl 1 rfl) ?_
              refine z_mVi (Wn := (fun u_112 => cl_X11 cI cJ a u_112)) (As := []) (rest := []) (wr := []) X (c_X11_here l dC dI cI cJ cS a u_108  _ hf _) zc_X11_here q_ml_X11_175 ⟨rfl, rfl⟩ ⟨Nat.le_of_ble_eq_true rfl, Nat.le_of_ble_eq_true rfl⟩ hP hD hS hA [0, 1, 2, 3, 4, 5, 6, 7, 8] [] rfl (by decide) rfl (by decide) (by decide) [0, 1, 2, 3, 4, 5, 6, 7, 8] (by decide) (fun _ => rfl) 10 rfl rfl hl.1 rfl rfl (Nat.le_of_ble_eq_true rfl) ⟨Nat.zero_le _, Nat.zero_le _⟩ dX11_acts_91 (fun r_111 u_112 H locs hf hP hD hS => ?_)
              refine lv_aload_n hx hb dX11_acts_94 rfl (lv_at hl 1 rfl) ?_
              refine va_get (D := (dC, dI)) (ci := 10) (v := .int u_112.2.2.2.2.2.2.2.2.2.2.2.1) (C := RX11) (T := TX11) (N := 17) hx hb hts inX11 hown hK hP 0 rfl rfl 11 (by decide) (hts _ q_fl_X11_172) (fun _ h9 => h9) rfl dX11_acts_95 ?_
              refine lv_icmp_ge (tgt := 105) hx hb dX11_acts_98 (by decide) (fun c_113 => ?_) (fun c_113 => ?_)
              · have hf := hf.1 c_113
                refine lv_iconst (v := 0) hx hb dX11_acts_105 (by decide) ?_
                refine lv_istore_n (lv' := [(3, .int (0 : Int32)), (1, .int x_110), (0, .ref (a 0)), (2, .int y2)]) hx hb dX11_acts_106 rfl hl (by decide) rfl (fun ls hl => ?_)
                refine lv_iload_n hx hb dX11_acts_107 rfl (lv_at hl 0 rfl) ?_
                refine lv_if_eq (tgt := 48) hx hb dX11_acts_108 (by decide) (fun c_114 => ?_) (fun c_114 => ?_)
                · have hf := hf.1 c_114
                  obtain ⟨k_115, hk_115, hf⟩ := hf
                  exact (ih k_115 hk_115) _ _ _ u_112 _ _ ls hf hP hD hS (lv_sub hl [2, 1, 3, 0] rfl)
                · have hf := hf.2 c_114
                  refine lv_aload_n hx hb dX11_acts_111 rfl (lv_at hl 2 rfl) ?_
                  refine va_get (D := (dC, dI)) (ci := 10) (v := .int u_112.2.2.2.2.2.2.2.2.2.2.2.2.2.1) (C := RX11) (T := TX11) (N := 17) hx hb hts inX11 hown hK hP 0 rfl rfl 13 (by decide) (hts _ q_fl_X11_29) (fun _ h9 => h9) rfl dX11_acts_112 ?_
                  refine lv_iconst (v := (-1)) hx hb dX11_acts_115 (by decide) ?_
                  refine lv_icmp_ne (tgt := 48) hx hb dX11_acts_116 (by decide) (fun c_116 => ?_) (fun c_116 => ?_)
                  · have hf := hf.1 c_116
                    obtain ⟨k_117, hk_117, hf⟩ := hf
                    exact (ih k_117 hk_117) _ _ _ u_112 _ _ ls hf hP hD hS (lv_sub hl [2, 1, 3, 0] rfl)
                  · have hf := hf.2 c_116
                    refine lv_aload_n hx hb dX11_acts_119 rfl (lv_at hl 2 rfl) ?_
                    refine va_get (D := (dC, dI)) (ci := 10) (v := .ref (a 6)) (C := RX11) (T := TX11) (N := 17) hx hb hts inX11 hown hK hP 0 rfl rfl 9 (by decide) (hts _ q_fl_X11_26) (fun _ h9 => h9) rfl dX11_acts_120 ?_
                    refine lv_aload_n hx hb dX11_acts_123 rfl (lv_at hl 2 rfl) ?_
                    refine va_get (D := (dC, dI)) (ci := 10) (v := .int u_112.2.2.2.2.2.2.2.2.2.2.2.2.1) (C := RX11) (T := TX11) (N := 17) hx hb hts inX11 hown hK hP 0 rfl rfl 12 (by decide) (hts _ q_fl_X11_169) (fun _ h9 => h9) rfl dX11_acts_124 ?_
                    obtain ⟨hg, hf⟩ := hf
                    refine va_iald hx hb hK hP 6 0 rfl rfl hg dX11_acts_127 ?_
                    refine lv_bipush (v := 59) hx hb dX11_acts_128 (by decide) ?_
                    refine lv_icmp_eq (tgt := 141) hx hb dX11_acts_130 (by decide) (fun c_118 => ?_) (fun c_118 => ?_)
                    · have hf := hf.1 c_118
                      refine lv_aload_n hx hb dX11_acts_141 rfl (lv_at hl 2 rfl) ?_
                      refine lv_dup hx hb dX11_acts_142 rfl ?_
                      refine va_get (D := (dC, dI)) (ci := 10) (v := .int u_112.2.2.2.2.2.2.2.2.2.2.2.2.1) (C := RX11) (T := TX11) (N := 17) hx hb hts inX11 hown hK hP 0 rfl rfl 12 (by decide) (hts _ q_fl_X11_169) (fun _ h9 => h9) rfl dX11_acts_143 ?_
                      refine lv_iconst (v := 1) hx hb dX11_acts_146 (by decide) ?_
                      refine lv_iadd hx hb dX11_acts_147 ?_
                      refine lv_topi (fun x_119 ex_119 => ?_)
                      have hf := hf x_119 ex_119
                      refine z_put (w' := cl_X11 cI cJ a (u_112.1, u_112.2.1, u_112.2.2.1, u_112.2.2.2.1, u_112.2.2.2.2.1, u_112.2.2.2.2.2.1, u_112.2.2.2.2.2.2.1, u_112.2.2.2.2.2.2.2.1, u_112.2.2.2.2.2.2.2.2.1, u_112.2.2.2.2.2.2.2.2.2.1, u_112.2.2.2.2.2.2.2.2.2.2.1, u_112.2.2.2.2.2.2.2.2.2.2.2.1, x_119, u_112.2.2.2.2.2.2.2.2.2.2.2.2.2)) (ci := 10) (v := .int x_119) (ty := .int) (Cn := RX11) (T := TX11) (N := 17) X inX11 tyX11 tyX11_ok nmX11 hP hD hS 0 rfl rfl 12 (by decide) (hts _ q_fl_X11_169) (fun _ h9 => h9) rfl (tyX11_ok 12 (by decide)) rfl rfl (Nat.le_of_ble_eq_true rfl) rfl dX11_acts_148 (fun H locs hP hD hS => ?_)
                      refine lv_goto (tgt := 48) hx hb dX11_acts_151 (by decide) ?_
                      obtain ⟨k_120, hk_120, hf⟩ := hf
                      exact (ih k_120 hk_120) _ _ _ (u_112.1, u_112.2.1, u_112.2.2.1, u_112.2.2.2.1, u_112.2.2.2.2.1, u_112.2.2.2.2.2.1, u_112.2.2.2.2.2.2.1, u_112.2.2.2.2.2.2.2.1, u_112.2.2.2.2.2.2.2.2.1, u_112.2.2.2.2.2.2.2.2.2.1, u_112.2.2.2.2.2.2.2.2.2.2.1, u_112.2.2.2.2.2.2.2.2.2.2.2.1, x_119, u_112.2.2.2.2.2.2.2.2.2.2.2.2.2) _ _ ls hf hP hD hS (lv_sub hl [2, 1, 3, 0] rfl)
                    · have hf := hf.2 c_118
                      refine lv_aload_n hx hb dX11_acts_133 rfl (lv_at hl 2 rfl) ?_
                      refine lv_aload_n hx hb dX11_acts_134 rfl (lv_at hl 2 rfl) ?_
                      refine va_get (D := (dC, dI)) (ci := 10) (v := .int u_112.2.2.2.2.2.2.2.2.2.2.2.2.1) (C := RX11) (T := TX11) (N := 17) hx hb hts inX11 hown hK hP 0 rfl rfl 12 (by decide) (hts _ q_fl_X11_169) (fun _ h9 => h9) rfl dX11_acts_135 ?_
                      refine z_mVv (Wn := (fun u_122 => cl_X11 cI cJ a u_122)) (As := [.int u_112.2.2.2.2.2.2.2.2.2.2.2.2.1]) (rest := []) (wr := []) X (c_X11_wrong l dC dI cI cJ cS a u_112 u_112.2.2.2.2.2.2.2.2.2.2.2.2.1 _ hf _) zc_X11_wrong q_ml_X11_187 ⟨rfl, rfl⟩ ⟨Nat.le_of_ble_eq_true rfl, Nat.le_of_ble_eq_true rfl⟩ hP hD hS hA [0, 1, 2, 3, 4, 5, 6, 7, 8] [] rfl (by decide) rfl (by decide) (by decide) [0, 1, 2, 3, 4, 5, 6, 7, 8] (by decide) (fun _ => rfl) 10 rfl rfl hl.1 rfl rfl (Nat.le_of_ble_eq_true rfl) ⟨Nat.zero_le _, Nat.zero_le _⟩ dX11_acts_138 (fun u_122 H locs hf hP hD hS => ?_)
                      refine lv_aload_n hx hb dX11_acts_141 rfl (lv_at hl 2 rfl) ?_
                      refine lv_dup hx hb dX11_acts_142 rfl ?_
                      refine va_get (D := (dC, dI)) (ci := 10) (v := .int u_122.2.2.2.2.2.2.2.2.2.2.2.2.1) (C := RX11) (T := TX11) (N := 17) hx hb hts inX11 hown hK hP 0 rfl rfl 12 (by decide) (hts _ q_fl_X11_169) (fun _ h9 => h9) rfl dX11_acts_143 ?_
                      refine lv_iconst (v := 1) hx hb dX11_acts_146 (by decide) ?_
                      refine lv_iadd hx hb dX11_acts_147 ?_
                      refine lv_topi (fun x_123 ex_123 => ?_)
                      have hf := hf x_123 ex_123
                      refine z_put (w' := cl_X11 cI cJ a (u_122.1, u_122.2.1, u_122.2.2.1, u_122.2.2.2.1, u_122.2.2.2.2.1, u_122.2.2.2.2.2.1, u_122.2.2.2.2.2.2.1, u_122.2.2.2.2.2.2.2.1, u_122.2.2.2.2.2.2.2.2.1, u_122.2.2.2.2.2.2.2.2.2.1, u_122.2.2.2.2.2.2.2.2.2.2.1, u_122.2.2.2.2.2.2.2.2.2.2.2.1, x_123, u_122.2.2.2.2.2.2.2.2.2.2.2.2.2)) (ci := 10) (v := .int x_123) (ty := .int) (Cn := RX11) (T := TX11) (N := 17) X inX11 tyX11 tyX11_ok nmX11 hP hD hS 0 rfl rfl 12 (by decide) (hts _ q_fl_X11_169) (fun _ h9 => h9) rfl (tyX11_ok 12 (by decide)) rfl rfl (Nat.le_of_ble_eq_true rfl) rfl dX11_acts_148 (fun H locs hP hD hS => ?_)
                      refine lv_goto (tgt := 48) hx hb dX11_acts_151 (by decide) ?_
                      obtain ⟨k_124, hk_124, hf⟩ := hf
                      exact (ih k_124 hk_124) _ _ _ (u_122.1, u_122.2.1, u_122.2.2.1, u_122.2.2.2.1, u_122.2.2.2.2.1, u_122.2.2.2.2.2.1, u_122.2.2.2.2.2.2.1, u_122.2.2.2.2.2.2.2.1, u_122.2.2.2.2.2.2.2.2.1, u_122.2.2.2.2.2.2.2.2.2.1, u_122.2.2.2.2.2.2.2.2.2.2.1, u_122.2.2.2.2.2.2.2.2.2.2.2.1, x_123, u_122.2.2.2.2.2.2.2.2.2.2.2.2.2) _ _ ls hf hP hD hS (lv_sub hl [2, 1, 3, 0] rfl)
              · have hf := hf.2 c_113
                refine lv_iconst (v := 1) hx hb dX11_acts_101 (by decide) ?_
                refine lv_goto (tgt := 106) hx hb dX11_acts_102 (by decide) ?_
                refine lv_istore_n (lv' := [(3, .int (1 : Int32)), (1, .int x_110), (0, .ref (a 0)), (2, .int y2)]) hx hb dX11_acts_106 rfl hl (by decide) rfl (fun ls hl => ?_)
                refine lv_iload_n hx hb dX11_acts_107 rfl (lv_at hl 0 rfl) ?_
                refine lv_if_eq (tgt := 48) hx hb dX11_acts_108 (by decide) (fun c_125 => ?_) (fun c_125 => ?_)
                · have hf := hf.1 c_125
                  obtain ⟨k_126, hk_126, hf⟩ := hf
                  exact (ih k_126 hk_126) _ _ _ u_112 _ _ ls hf hP hD hS (lv_sub hl [2, 1, 3, 0] rfl)
                · have hf := hf.2 c_125
                  refine lv_aload_n hx hb dX11_acts_111 rfl (lv_at hl 2 rfl) ?_
                  refine va_get (D := (dC, dI)) (ci := 10) (v := .int u_112.2.2.2.2.2.2.2.2.2.2.2.2.2.1) (C := RX11) (T := TX11) (N := 17) hx hb hts inX11 hown hK hP 0 rfl rfl 13 (by decide) (hts _ q_fl_X11_29) (fun _ h9 => h9) rfl dX11_acts_112 ?_
                  refine lv_iconst (v := (-1)) hx hb dX11_acts_115 (by decide) ?_
                  refine lv_icmp_ne (tgt := 48) hx hb dX11_acts_116 (by decide) (fun c_127 => ?_) (fun c_127 => ?_)
                  · have hf := hf.1 c_127
                    obtain ⟨k_128, hk_128, hf⟩ := hf
                    exact (ih k_128 hk_128) _ _ _ u_112 _ _ ls hf hP hD hS (lv_sub hl [2, 1, 3, 0] rfl)
                  · have hf := hf.2 c_127
                    refine lv_aload_n hx hb dX11_acts_119 rfl (lv_at hl 2 rfl) ?_
                    refine va_get (D := (dC, dI)) (ci := 10) (v := .ref (a 6)) (C := RX11) (T := TX11) (N := 17) hx hb hts inX11 hown hK hP 0 rfl rfl 9 (by decide) (hts _ q_fl_X11_26) (fun _ h9 => h9) rfl dX11_acts_120 ?_
                    refine lv_aload_n hx hb dX11_acts_123 rfl (lv_at hl 2 rfl) ?_
                    refine va_get (D := (dC, dI)) (ci := 10) (v := .int u_112.2.2.2.2.2.2.2.2.2.2.2.2.1) (C := RX11) (T := TX11) (N := 17) hx hb hts inX11 hown hK hP 0 rfl rfl 12 (by decide) (hts _ q_fl_X11_169) (fun _ h9 => h9) rfl dX11_acts_124 ?_
                    obtain ⟨hg, hf⟩ := hf
                    refine va_iald hx hb hK hP 6 0 rfl rfl hg dX11_acts_127 ?_
                    refine lv_bipush (v := 59) hx hb dX11_acts_128 (by decide) ?_
                    refine lv_icmp_eq (tgt := 141) hx hb dX11_acts_130 (by decide) (fun c_129 => ?_) (fun c_129 => ?_)
                    · have hf := hf.1 c_129
                      refine lv_aload_n hx hb dX11_acts_141 rfl (lv_at hl 2 rfl) ?_
                      refine lv_dup hx hb dX11_acts_142 rfl ?_
                      refine va_get (D := (dC, dI)) (ci := 10) (v := .int u_112.2.2.2.2.2.2.2.2.2.2.2.2.1) (C := RX11) (T := TX11) (N := 17) hx hb hts inX11 hown hK hP 0 rfl rfl 12 (by decide) (hts _ q_fl_X11_169) (fun _ h9 => h9) rfl dX11_acts_143 ?_
                      refine lv_iconst (v := 1) hx hb dX11_acts_146 (by decide) ?_
                      refine lv_iadd hx hb dX11_acts_147 ?_
                      refine lv_topi (fun x_130 ex_130 => ?_)
                      have hf := hf x_130 ex_130
                      refine z_put (w' := cl_X11 cI cJ a (u_112.1, u_112.2.1, u_112.2.2.1, u_112.2.2.2.1, u_112.2.2.2.2.1, u_112.2.2.2.2.2.1, u_112.2.2.2.2.2.2.1, u_112.2.2.2.2.2.2.2.1, u_112.2.2.2.2.2.2.2.2.1, u_112.2.2.2.2.2.2.2.2.2.1, u_112.2.2.2.2.2.2.2.2.2.2.1, u_112.2.2.2.2.2.2.2.2.2.2.2.1, x_130, u_112.2.2.2.2.2.2.2.2.2.2.2.2.2)) (ci := 10) (v := .int x_130) (ty := .int) (Cn := RX11) (T := TX11) (N := 17) X inX11 tyX11 tyX11_ok nmX11 hP hD hS 0 rfl rfl 12 (by decide) (hts _ q_fl_X11_169) (fun _ h9 => h9) rfl (tyX11_ok 12 (by decide)) rfl rfl (Nat.le_of_ble_eq_true rfl) rfl dX11_acts_148 (fun H locs hP hD hS => ?_)
                      refine lv_goto (tgt := 48) hx hb dX11_acts_151 (by decide) ?_
                      obtain ⟨k_131, hk_131, hf⟩ := hf
                      exact (ih k_131 hk_131) _ _ _ (u_112.1, u_112.2.1, u_112.2.2.1, u_112.2.2.2.1, u_112.2.2.2.2.1, u_112.2.2.2.2.2.1, u_112.2.2.2.2.2.2.1, u_112.2.2.2.2.2.2.2.1, u_112.2.2.2.2.2.2.2.2.1, u_112.2.2.2.2.2.2.2.2.2.1, u_112.2.2.2.2.2.2.2.2.2.2.1, u_112.2.2.2.2.2.2.2.2.2.2.2.1, x_130, u_112.2.2.2.2.2.2.2.2.2.2.2.2.2) _ _ ls hf hP hD hS (lv_sub hl [2, 1, 3, 0] rfl)
                    · have hf := hf.2 c_129
                      refine lv_aload_n hx hb dX11_acts_133 rfl (lv_at hl 2 rfl) ?_
                      refine lv_aload_n hx hb dX11_acts_134 rfl (lv_at hl 2 rfl) ?_
                      refine va_get (D := (dC, dI)) (ci := 10) (v := .int u_112.2.2.2.2.2.2.2.2.2.2.2.2.1) (C := RX11) (T := TX11) (N := 17) hx hb hts inX11 hown hK hP 0 rfl rfl 12 (by decide) (hts _ q_fl_X11_169) (fun _ h9 => h9) rfl dX11_acts_135 ?_
                      refine z_mVv (Wn := (fun u_133 => cl_X11 cI cJ a u_133)) (As := [.int u_112.2.2.2.2.2.2.2.2.2.2.2.2.1]) (rest := []) (wr := []) X (c_X11_wrong l dC dI cI cJ cS a u_112 u_112.2.2.2.2.2.2.2.2.2.2.2.2.1 _ hf _) zc_X11_wrong q_ml_X11_187 ⟨rfl, rfl⟩ ⟨Nat.le_of_ble_eq_true rfl, Nat.le_of_ble_eq_true rfl⟩ hP hD hS hA [0, 1, 2, 3, 4, 5, 6, 7, 8] [] rfl (by decide) rfl (by decide) (by decide) [0, 1, 2, 3, 4, 5, 6, 7, 8] (by decide) (fun _ => rfl) 10 rfl rfl hl.1 rfl rfl (Nat.le_of_ble_eq_true rfl) ⟨Nat.zero_le _, Nat.zero_le _⟩ dX11_acts_138 (fun u_133 H locs hf hP hD hS => ?_)
                      refine lv_aload_n hx hb dX11_acts_141 rfl (lv_at hl 2 rfl) ?_
                      refine lv_dup hx hb dX11_acts_142 rfl ?_
                      refine va_get (D := (dC, dI)) (ci := 10) (v := .int u_133.2.2.2.2.2.2.2.2.2.2.2.2.1) (C := RX11) (T := TX11) (N := 17) hx hb hts inX11 hown hK hP 0 rfl rfl 12 (by decide) (hts _ q_fl_X11_169) (fun _ h9 => h9) rfl dX11_acts_143 ?_
                      refine lv_iconst (v := 1) hx hb dX11_acts_146 (by decide) ?_
                      refine lv_iadd hx hb dX11_acts_147 ?_
                      refine lv_topi (fun x_134 ex_134 => ?_)
                      have hf := hf x_134 ex_134
                      refine z_put (w' := cl_X11 cI cJ a (u_133.1, u_133.2.1, u_133.2.2.1, u_133.2.2.2.1, u_133.2.2.2.2.1, u_133.2.2.2.2.2.1, u_133.2.2.2.2.2.2.1, u_133.2.2.2.2.2.2.2.1, u_133.2.2.2.2.2.2.2.2.1, u_133.2.2.2.2.2.2.2.2.2.1, u_133.2.2.2.2.2.2.2.2.2.2.1, u_133.2.2.2.2.2.2.2.2.2.2.2.1, x_134, u_133.2.2.2.2.2.2.2.2.2.2.2.2.2)) (ci := 10) (v := .int x_134) (ty := .int) (Cn := RX11) (T := TX11) (N := 17) X inX11 tyX11 tyX11_ok nmX11 hP hD hS 0 rfl rfl 12 (by decide) (hts _ q_fl_X11_169) (fun _ h9 => h9) rfl (tyX11_ok 12 (by decide)) rfl rfl (Nat.le_of_ble_eq_true rfl) rfl dX11_acts_148 (fun H locs hP hD hS => ?_)
                      refine lv_goto (tgt := 48) hx hb dX11_acts_151 (by decide) ?_
                      obtain ⟨k_135, hk_135, hf⟩ := hf
                      exact (ih k_135 hk_135) _ _ _ (u_133.1, u_133.2.1, u_133.2.2.1, u_133.2.2.2.1, u_133.2.2.2.2.1, u_133.2.2.2.2.2.1, u_133.2.2.2.2.2.2.1, u_133.2.2.2.2.2.2.2.1, u_133.2.2.2.2.2.2.2.2.1, u_133.2.2.2.2.2.2.2.2.2.1, u_133.2.2.2.2.2.2.2.2.2.2.1, u_133.2.2.2.2.2.2.2.2.2.2.2.1, x_134, u_133.2.2.2.2.2.2.2.2.2.2.2.2.2) _ _ ls hf hP hD hS (lv_sub hl [2, 1, 3, 0] rfl)
            · have hf := hf.2 c_109
              refine lv_aload_n hx hb dX11_acts_82 rfl (lv_at hl 0 rfl) ?_
              refine z_mViF (Wn := (fun u_137 => cl_X11 cI cJ a u_137)) (As := []) (rest := []) (wr := []) X fro_Fz hF (c_X11_act l dC dI cI cJ cS a u_108  _ hf _) zc_X11_act q_ml_X11_251 ⟨rfl, rfl⟩ ⟨Nat.le_of_ble_eq_true rfl, Nat.le_of_ble_eq_true rfl⟩ hP hD hS hA [0, 1, 2, 3, 4, 5, 6, 7, 8] [] rfl (by decide) rfl (by decide) (by decide) [0, 1, 2, 3, 4, 5, 6, 7, 8] (by decide) (fun _ => rfl) 10 rfl rfl hl.1 rfl rfl (Nat.le_of_ble_eq_true rfl) ⟨Nat.zero_le _, Nat.zero_le _⟩ dX11_acts_83 (fun r_136 u_137 H locs hf hP hD hS => ?_)
              refine lv_istore_n (lv' := [(2, .int r_136), (0, .ref (a 0)), (1, .int y1), (3, .int y3)]) hx hb dX11_acts_86 rfl hl (by decide) rfl (fun ls hl => ?_)
              obtain ⟨x_138, ex_138⟩ : ∃ y : Int32, y = y1 + (1 : Int32) := ⟨_, rfl⟩
              have hf := hf x_138 ex_138
              refine lv_iinc (v := x_138) (lv' := [(1, .int x_138), (2, .int r_136), (0, .ref (a 0)), (3, .int y3)]) hx hb dX11_acts_87 hl (k := 2) rfl (by rw [ex_138]; rfl) (by decide) rfl (fun ls hl => ?_)
              refine lv_aload_n hx hb dX11_acts_90 rfl (lv_at hl 2 rfl) ?_
              refine z_mVi (Wn := (fun u_140 => cl_X11 cI cJ a u_140)) (As := []) (rest := []) (wr := []) X (c_X11_here l dC dI cI cJ cS a u_137  _ hf _) zc_X11_here q_ml_X11_175 ⟨rfl, rfl⟩ ⟨Nat.le_of_ble_eq_true rfl, Nat.le_of_ble_eq_true rfl⟩ hP hD hS hA [0, 1, 2, 3, 4, 5, 6, 7, 8] [] rfl (by decide) rfl (by decide) (by decide) [0, 1, 2, 3, 4, 5, 6, 7, 8] (by decide) (fun _ => rfl) 10 rfl rfl hl.1 rfl rfl (Nat.le_of_ble_eq_true rfl) ⟨Nat.zero_le _, Nat.zero_le _⟩ dX11_acts_91 (fun r_139 u_140 H locs hf hP hD hS => ?_)
              refine lv_aload_n hx hb dX11_acts_94 rfl (lv_at hl 2 rfl) ?_
              refine va_get (D := (dC, dI)) (ci := 10) (v := .int u_140.2.2.2.2.2.2.2.2.2.2.2.1) (C := RX11) (T := TX11) (N := 17) hx hb hts inX11 hown hK hP 0 rfl rfl 11 (by decide) (hts _ q_fl_X11_172) (fun _ h9 => h9) rfl dX11_acts_95 ?_
              refine lv_icmp_ge (tgt := 105) hx hb dX11_acts_98 (by decide) (fun c_141 => ?_) (fun c_141 => ?_)
              · have hf := hf.1 c_141
                refine lv_iconst (v := 0) hx hb dX11_acts_105 (by decide) ?_
                refine lv_istore_n (lv' := [(3, .int (0 : Int32)), (1, .int x_138), (2, .int r_136), (0, .ref (a 0))]) hx hb dX11_acts_106 rfl hl (by decide) rfl (fun ls hl => ?_)
                refine lv_iload_n hx hb dX11_acts_107 rfl (lv_at hl 0 rfl) ?_
                refine lv_if_eq (tgt := 48) hx hb dX11_acts_108 (by decide) (fun c_142 => ?_) (fun c_142 => ?_)
                · have hf := hf.1 c_142
                  obtain ⟨k_143, hk_143, hf⟩ := hf
                  exact (ih k_143 hk_143) _ _ _ u_140 _ _ ls hf hP hD hS (lv_sub hl [3, 1, 2, 0] rfl)
                · have hf := hf.2 c_142
                  refine lv_aload_n hx hb dX11_acts_111 rfl (lv_at hl 3 rfl) ?_
                  refine va_get (D := (dC, dI)) (ci := 10) (v := .int u_140.2.2.2.2.2.2.2.2.2.2.2.2.2.1) (C := RX11) (T := TX11) (N := 17) hx hb hts inX11 hown hK hP 0 rfl rfl 13 (by decide) (hts _ q_fl_X11_29) (fun _ h9 => h9) rfl dX11_acts_112 ?_
                  refine lv_iconst (v := (-1)) hx hb dX11_acts_115 (by decide) ?_
                  refine lv_icmp_ne (tgt := 48) hx hb dX11_acts_116 (by decide) (fun c_144 => ?_) (fun c_144 => ?_)
                  · have hf := hf.1 c_144
                    obtain ⟨k_145, hk_145, hf⟩ := hf
                    exact (ih k_145 hk_145) _ _ _ u_140 _ _ ls hf hP hD hS (lv_sub hl [3, 1, 2, 0] rfl)
                  · have hf := hf.2 c_144
                    refine lv_aload_n hx hb dX11_acts_119 rfl (lv_at hl 3 rfl) ?_
                    refine va_get (D := (dC, dI)) (ci := 10) (v := .ref (a 6)) (C := RX11) (T := TX11) (N := 17) hx hb hts inX11 hown hK hP 0 rfl rfl 9 (by decide) (hts _ q_fl_X11_26) (fun _ h9 => h9) rfl dX11_acts_120 ?_
                    refine lv_aload_n hx hb dX11_acts_123 rfl (lv_at hl 3 rfl) ?_
                    refine va_get (D := (dC, dI)) (ci := 10) (v := .int u_140.2.2.2.2.2.2.2.2.2.2.2.2.1) (C := RX11) (T := TX11) (N := 17) hx hb hts inX11 hown hK hP 0 rfl rfl 12 (by decide) (hts _ q_fl_X11_169) (fun _ h9 => h9) rfl dX11_acts_124 ?_
                    obtain ⟨hg, hf⟩ := hf
                    refine va_iald hx hb hK hP 6 0 rfl rfl hg dX11_acts_127 ?_
                    refine lv_bipush (v := 59) hx hb dX11_acts_128 (by decide) ?_
                    refine lv_icmp_eq (tgt := 141) hx hb dX11_acts_130 (by decide) (fun c_146 => ?_) (fun c_146 => ?_)
                    · have hf := hf.1 c_146
                      refine lv_aload_n hx hb dX11_acts_141 rfl (lv_at hl 3 rfl) ?_
                      refine lv_dup hx hb dX11_acts_142 rfl ?_
                      refine va_get (D := (dC, dI)) (ci := 10) (v := .int u_140.2.2.2.2.2.2.2.2.2.2.2.2.1) (C := RX11) (T := TX11) (N := 17) hx hb hts inX11 hown hK hP 0 rfl rfl 12 (by decide) (hts _ q_fl_X11_169) (fun _ h9 => h9) rfl dX11_acts_143 ?_
                      refine lv_iconst (v := 1) hx hb dX11_acts_146 (by decide) ?_
                      refine lv_iadd hx hb dX11_acts_147 ?_
                      refine lv_topi (fun x_147 ex_147 => ?_)
                      have hf := hf x_147 ex_147
                      refine z_put (w' := cl_X11 cI cJ a (u_140.1, u_140.2.1, u_140.2.2.1, u_140.2.2.2.1, u_140.2.2.2.2.1, u_140.2.2.2.2.2.1, u_140.2.2.2.2.2.2.1, u_140.2.2.2.2.2.2.2.1, u_140.2.2.2.2.2.2.2.2.1, u_140.2.2.2.2.2.2.2.2.2.1, u_140.2.2.2.2.2.2.2.2.2.2.1, u_140.2.2.2.2.2.2.2.2.2.2.2.1, x_147, u_140.2.2.2.2.2.2.2.2.2.2.2.2.2)) (ci := 10) (v := .int x_147) (ty := .int) (Cn := RX11) (T := TX11) (N := 17) X inX11 tyX11 tyX11_ok nmX11 hP hD hS 0 rfl rfl 12 (by decide) (hts _ q_fl_X11_169) (fun _ h9 => h9) rfl (tyX11_ok 12 (by decide)) rfl rfl (Nat.le_of_ble_eq_true rfl) rfl dX11_acts_148 (fun H locs hP hD hS => ?_)
                      refine lv_goto (tgt := 48) hx hb dX11_acts_151 (by decide) ?_
                      obtain ⟨k_148, hk_148, hf⟩ := hf
                      exact (ih k_148 hk_148) _ _ _ (u_140.1, u_140.2.1, u_140.2.2.1, u_140.2.2.2.1, u_140.2.2.2.2.1, u_140.2.2.2.2.2.1, u_140.2.2.2.2.2.2.1, u_140.2.2.2.2.2.2.2.1, u_140.2.2.2.2.2.2.2.2.1, u_140.2.2.2.2.2.2.2.2.2.1, u_140.2.2.2.2.2.2.2.2.2.2.1, u_140.2.2.2.2.2.2.2.2.2.2.2.1, x_147, u_140.2.2.2.2.2.2.2.2.2.2.2.2.2) _ _ ls hf hP hD hS (lv_sub hl [3, 1, 2, 0] rfl)
                    · have hf := hf.2 c_146
                      refine lv_aload_n hx hb dX11_acts_133 rfl (lv_at hl 3 rfl) ?_
                      refine lv_aload_n hx hb dX11_acts_134 rfl (lv_at hl 3 rfl) ?_
                      refine va_get (D := (dC, dI)) (ci := 10) (v := .int u_140.2.2.2.2.2.2.2.2.2.2.2.2.1) (C := RX11) (T := TX11) (N := 17) hx hb hts inX11 hown hK hP 0 rfl rfl 12 (by decide) (hts _ q_fl_X11_169) (fun _ h9 => h9) rfl dX11_acts_135 ?_
                      refine z_mVv (Wn := (fun u_150 => cl_X11 cI cJ a u_150)) (As := [.int u_140.2.2.2.2.2.2.2.2.2.2.2.2.1]) (rest := []) (wr := []) X (c_X11_wrong l dC dI cI cJ cS a u_140 u_140.2.2.2.2.2.2.2.2.2.2.2.2.1 _ hf _) zc_X11_wrong q_ml_X11_187 ⟨rfl, rfl⟩ ⟨Nat.le_of_ble_eq_true rfl, Nat.le_of_ble_eq_true rfl⟩ hP hD hS hA [0, 1, 2, 3, 4, 5, 6, 7, 8] [] rfl (by decide) rfl (by decide) (by decide) [0, 1, 2, 3, 4, 5, 6, 7, 8] (by decide) (fun _ => rfl) 10 rfl rfl hl.1 rfl rfl (Nat.le_of_ble_eq_true rfl) ⟨Nat.zero_le _, Nat.zero_le _⟩ dX11_acts_138 (fun u_150 H locs hf hP hD hS => ?_)
                      refine lv_aload_n hx hb dX11_acts_141 rfl (lv_at hl 3 rfl) ?_
                      refine lv_dup hx hb dX11_acts_142 rfl ?_
                      refine va_get (D := (dC, dI)) (ci := 10) (v := .int u_150.2.2.2.2.2.2.2.2.2.2.2.2.1) (C := RX11) (T := TX11) (N := 17) hx hb hts inX11 hown hK hP 0 rfl rfl 12 (by decide) (hts _ q_fl_X11_169) (fun _ h9 => h9) rfl dX11_acts_143 ?_
                      refine lv_iconst (v := 1) hx hb dX11_acts_146 (by decide) ?_
                      refine lv_iadd hx hb dX11_acts_147 ?_
                      refine lv_topi (fun x_151 ex_151 => ?_)
                      have hf := hf x_151 ex_151
                      refine z_put (w' := cl_X11 cI cJ a (u_150.1, u_150.2.1, u_150.2.2.1, u_150.2.2.2.1, u_150.2.2.2.2.1, u_150.2.2.2.2.2.1, u_150.2.2.2.2.2.2.1, u_150.2.2.2.2.2.2.2.1, u_150.2.2.2.2.2.2.2.2.1, u_150.2.2.2.2.2.2.2.2.2.1, u_150.2.2.2.2.2.2.2.2.2.2.1, u_150.2.2.2.2.2.2.2.2.2.2.2.1, x_151, u_150.2.2.2.2.2.2.2.2.2.2.2.2.2)) (ci := 10) (v := .int x_151) (ty := .int) (Cn := RX11) (T := TX11) (N := 17) X inX11 tyX11 tyX11_ok nmX11 hP hD hS 0 rfl rfl 12 (by decide) (hts _ q_fl_X11_169) (fun _ h9 => h9) rfl (tyX11_ok 12 (by decide)) rfl rfl (Nat.le_of_ble_eq_true rfl) rfl dX11_acts_148 (fun H locs hP hD hS => ?_)
                      refine lv_goto (tgt := 48) hx hb dX11_acts_151 (by decide) ?_
                      obtain ⟨k_152, hk_152, hf⟩ := hf
                      exact (ih k_152 hk_152) _ _ _ (u_150.1, u_150.2.1, u_150.2.2.1, u_150.2.2.2.1, u_150.2.2.2.2.1, u_150.2.2.2.2.2.1, u_150.2.2.2.2.2.2.1, u_150.2.2.2.2.2.2.2.1, u_150.2.2.2.2.2.2.2.2.1, u_150.2.2.2.2.2.2.2.2.2.1, u_150.2.2.2.2.2.2.2.2.2.2.1, u_150.2.2.2.2.2.2.2.2.2.2.2.1, x_151, u_150.2.2.2.2.2.2.2.2.2.2.2.2.2) _ _ ls hf hP hD hS (lv_sub hl [3, 1, 2, 0] rfl)
              · have hf := hf.2 c_141
                refine lv_iconst (v := 1) hx hb dX11_acts_101 (by decide) ?_
                refine lv_goto (tgt := 106) hx hb dX11_acts_102 (by decide) ?_
                refine lv_istore_n (lv' := [(3, .int (1 : Int32)), (1, .int x_138), (2, .int r_136), (0, .ref (a 0))]) hx hb dX11_acts_106 rfl hl (by decide) rfl (fun ls hl => ?_)
                refine lv_iload_n hx hb dX11_acts_107 rfl (lv_at hl 0 rfl) ?_
                refine lv_if_eq (tgt := 48) hx hb dX11_acts_108 (by decide) (fun c_153 => ?_) (fun c_153 => ?_)
                · have hf := hf.1 c_153
                  obtain ⟨k_154, hk_154, hf⟩ := hf
                  exact (ih k_154 hk_154) _ _ _ u_140 _ _ ls hf hP hD hS (lv_sub hl [3, 1, 2, 0] rfl)
                · have hf := hf.2 c_153
                  refine lv_aload_n hx hb dX11_acts_111 rfl (lv_at hl 3 rfl) ?_
                  refine va_get (D := (dC, dI)) (ci := 10) (v := .int u_140.2.2.2.2.2.2.2.2.2.2.2.2.2.1) (C := RX11) (T := TX11) (N := 17) hx hb hts inX11 hown hK hP 0 rfl rfl 13 (by decide) (hts _ q_fl_X11_29) (fun _ h9 => h9) rfl dX11_acts_112 ?_
                  refine lv_iconst (v := (-1)) hx hb dX11_acts_115 (by decide) ?_
                  refine lv_icmp_ne (tgt := 48) hx hb dX11_acts_116 (by decide) (fun c_155 => ?_) (fun c_155 => ?_)
                  · have hf := hf.1 c_155
                    obtain ⟨k_156, hk_156, hf⟩ := hf
                    exact (ih k_156 hk_156) _ _ _ u_140 _ _ ls hf hP hD hS (lv_sub hl [3, 1, 2, 0] rfl)
                  · have hf := hf.2 c_155
                    refine lv_aload_n hx hb dX11_acts_119 rfl (lv_at hl 3 rfl) ?_
                    refine va_get (D := (dC, dI)) (ci := 10) (v := .ref (a 6)) (C := RX11) (T := TX11) (N := 17) hx hb hts inX11 hown hK hP 0 rfl rfl 9 (by decide) (hts _ q_fl_X11_26) (fun _ h9 => h9) rfl dX11_acts_120 ?_
                    refine lv_aload_n hx hb dX11_acts_123 rfl (lv_at hl 3 rfl) ?_
                    refine va_get (D := (dC, dI)) (ci := 10) (v := .int u_140.2.2.2.2.2.2.2.2.2.2.2.2.1) (C := RX11) (T := TX11) (N := 17) hx hb hts inX11 hown hK hP 0 rfl rfl 12 (by decide) (hts _ q_fl_X11_169) (fun _ h9 => h9) rfl dX11_acts_124 ?_
                    obtain ⟨hg, hf⟩ := hf
                    refine va_iald hx hb hK hP 6 0 rfl rfl hg dX11_acts_127 ?_
                    refine lv_bipush (v := 59) hx hb dX11_acts_128 (by decide) ?_
                    refine lv_icmp_eq (tgt := 141) hx hb dX11_acts_130 (by decide) (fun c_157 => ?_) (fun c_157 => ?_)
                    · have hf := hf.1 c_157
                      refine lv_aload_n hx hb dX11_acts_141 rfl (lv_at hl 3 rfl) ?_
                      refine lv_dup hx hb dX11_acts_142 rfl ?_
                      refine va_get (D := (dC, dI)) (ci := 10) (v := .int u_140.2.2.2.2.2.2.2.2.2.2.2.2.1) (C := RX11) (T := TX11) (N := 17) hx hb hts inX11 hown hK hP 0 rfl rfl 12 (by decide) (hts _ q_fl_X11_169) (fun _ h9 => h9) rfl dX11_acts_143 ?_
                      refine lv_iconst (v := 1) hx hb dX11_acts_146 (by decide) ?_
                      refine lv_iadd hx hb dX11_acts_147 ?_
                      refine lv_topi (fun x_158 ex_158 => ?_)
                      have hf := hf x_158 ex_158
                      refine z_put (w' := cl_X11 cI cJ a (u_140.1, u_140.2.1, u_140.2.2.1, u_140.2.2.2.1, u_140.2.2.2.2.1, u_140.2.2.2.2.2.1, u_140.2.2.2.2.2.2.1, u_140.2.2.2.2.2.2.2.1, u_140.2.2.2.2.2.2.2.2.1, u_140.2.2.2.2.2.2.2.2.2.1, u_140.2.2.2.2.2.2.2.2.2.2.1, u_140.2.2.2.2.2.2.2.2.2.2.2.1, x_158, u_140.2.2.2.2.2.2.2.2.2.2.2.2.2)) (ci := 10) (v := .int x_158) (ty := .int) (Cn := RX11) (T := TX11) (N := 17) X inX11 tyX11 tyX11_ok nmX11 hP hD hS 0 rfl rfl 12 (by decide) (hts _ q_fl_X11_169) (fun _ h9 => h9) rfl (tyX11_ok 12 (by decide)) rfl rfl (Nat.le_of_ble_eq_true rfl) rfl dX11_acts_148 (fun H locs hP hD hS => ?_)
                      refine lv_goto (tgt := 48) hx hb dX11_acts_151 (by decide) ?_
                      obtain ⟨k_159, hk_159, hf⟩ := hf
                      exact (ih k_159 hk_159) _ _ _ (u_140.1, u_140.2.1, u_140.2.2.1, u_140.2.2.2.1, u_140.2.2.2.2.1, u_140.2.2.2.2.2.1, u_140.2.2.2.2.2.2.1, u_140.2.2.2.2.2.2.2.1, u_140.2.2.2.2.2.2.2.2.1, u_140.2.2.2.2.2.2.2.2.2.1, u_140.2.2.2.2.2.2.2.2.2.2.1, u_140.2.2.2.2.2.2.2.2.2.2.2.1, x_158, u_140.2.2.2.2.2.2.2.2.2.2.2.2.2) _ _ ls hf hP hD hS (lv_sub hl [3, 1, 2, 0] rfl)
                    · have hf := hf.2 c_157
                      refine lv_aload_n hx hb dX11_acts_133 rfl (lv_at hl 3 rfl) ?_
                      refine lv_aload_n hx hb dX11_acts_134 rfl (lv_at hl 3 rfl) ?_
                      refine va_get (D := (dC, dI)) (ci := 10) (v := .int u_140.2.2.2.2.2.2.2.2.2.2.2.2.1) (C := RX11) (T := TX11) (N := 17) hx hb hts inX11 hown hK hP 0 rfl rfl 12 (by decide) (hts _ q_fl_X11_169) (fun _ h9 => h9) rfl dX11_acts_135 ?_
                      refine z_mVv (Wn := (fun u_161 => cl_X11 cI cJ a u_161)) (As := [.int u_140.2.2.2.2.2.2.2.2.2.2.2.2.1]) (rest := []) (wr := []) X (c_X11_wrong l dC dI cI cJ cS a u_140 u_140.2.2.2.2.2.2.2.2.2.2.2.2.1 _ hf _) zc_X11_wrong q_ml_X11_187 ⟨rfl, rfl⟩ ⟨Nat.le_of_ble_eq_true rfl, Nat.le_of_ble_eq_true rfl⟩ hP hD hS hA [0, 1, 2, 3, 4, 5, 6, 7, 8] [] rfl (by decide) rfl (by decide) (by decide) [0, 1, 2, 3, 4, 5, 6, 7, 8] (by decide) (fun _ => rfl) 10 rfl rfl hl.1 rfl rfl (Nat.le_of_ble_eq_true rfl) ⟨Nat.zero_le _, Nat.zero_le _⟩ dX11_acts_138 (fun u_161 H locs hf hP hD hS => ?_)
                      refine lv_aload_n hx hb dX11_acts_141 rfl (lv_at hl 3 rfl) ?_
                      refine lv_dup hx hb dX11_acts_142 rfl ?_
                      refine va_get (D := (dC, dI)) (ci := 10) (v := .int u_161.2.2.2.2.2.2.2.2.2.2.2.2.1) (C := RX11) (T := TX11) (N := 17) hx hb hts inX11 hown hK hP 0 rfl rfl 12 (by decide) (hts _ q_fl_X11_169) (fun _ h9 => h9) rfl dX11_acts_143 ?_
                      refine lv_iconst (v := 1) hx hb dX11_acts_146 (by decide) ?_
                      refine lv_iadd hx hb dX11_acts_147 ?_
                      refine lv_topi (fun x_162 ex_162 => ?_)
                      have hf := hf x_162 ex_162
                      refine z_put (w' := cl_X11 cI cJ a (u_161.1, u_161.2.1, u_161.2.2.1, u_161.2.2.2.1, u_161.2.2.2.2.1, u_161.2.2.2.2.2.1, u_161.2.2.2.2.2.2.1, u_161.2.2.2.2.2.2.2.1, u_161.2.2.2.2.2.2.2.2.1, u_161.2.2.2.2.2.2.2.2.2.1, u_161.2.2.2.2.2.2.2.2.2.2.1, u_161.2.2.2.2.2.2.2.2.2.2.2.1, x_162, u_161.2.2.2.2.2.2.2.2.2.2.2.2.2)) (ci := 10) (v := .int x_162) (ty := .int) (Cn := RX11) (T := TX11) (N := 17) X inX11 tyX11 tyX11_ok nmX11 hP hD hS 0 rfl rfl 12 (by decide) (hts _ q_fl_X11_169) (fun _ h9 => h9) rfl (tyX11_ok 12 (by decide)) rfl rfl (Nat.le_of_ble_eq_true rfl) rfl dX11_acts_148 (fun H locs hP hD hS => ?_)
                      refine lv_goto (tgt := 48) hx hb dX11_acts_151 (by decide) ?_
                      obtain ⟨k_163, hk_163, hf⟩ := hf
                      exact (ih k_163 hk_163) _ _ _ (u_161.1, u_161.2.1, u_161.2.2.1, u_161.2.2.2.1, u_161.2.2.2.2.1, u_161.2.2.2.2.2.1, u_161.2.2.2.2.2.2.1, u_161.2.2.2.2.2.2.2.1, u_161.2.2.2.2.2.2.2.2.1, u_161.2.2.2.2.2.2.2.2.2.1, u_161.2.2.2.2.2.2.2.2.2.2.1, u_161.2.2.2.2.2.2.2.2.2.2.2.1, x_162, u_161.2.2.2.2.2.2.2.2.2.2.2.2.2) _ _ ls hf hP hD hS (lv_sub hl [3, 1, 2, 0] rfl)
  unfold t_X11_acts_e at hf
  refine lv_aload_n hx hb dX11_acts_0 rfl (lv_at hl 0 rfl) ?_
  refine lv_iconst (v := (-1)) hx hb dX11_acts_1 (by decide) ?_
  refine z_put (w' := cl_X11 cI cJ a (u.1, u.2.1, u.2.2.1, u.2.2.2.1, u.2.2.2.2.1, u.2.2.2.2.2.1, u.2.2.2.2.2.2.1, u.2.2.2.2.2.2.2.1, u.2.2.2.2.2.2.2.2.1, u.2.2.2.2.2.2.2.2.2.1, u.2.2.2.2.2.2.2.2.2.2.1, u.2.2.2.2.2.2.2.2.2.2.2.1, u.2.2.2.2.2.2.2.2.2.2.2.2.1, (-1 : Int32), u.2.2.2.2.2.2.2.2.2.2.2.2.2.2)) (ci := 10) (v := .int (-1 : Int32)) (ty := .int) (Cn := RX11) (T := TX11) (N := 17) X inX11 tyX11 tyX11_ok nmX11 hP hD hS 0 rfl rfl 13 (by decide) (hts _ q_fl_X11_29) (fun _ h9 => h9) rfl (tyX11_ok 13 (by decide)) rfl rfl (Nat.le_of_ble_eq_true rfl) rfl dX11_acts_2 (fun H locs hP hD hS => ?_)
  refine lv_aload_n hx hb dX11_acts_5 rfl (lv_at hl 0 rfl) ?_
  refine lv_aload_n hx hb dX11_acts_6 rfl (lv_at hl 0 rfl) ?_
  refine va_get (D := (dC, dI)) (ci := 10) (v := .int u.2.2.2.2.2.2.2.2.2.2.1) (C := RX11) (T := TX11) (N := 17) hx hb hts inX11 hown hK hP 0 rfl rfl 10 (by decide) (hts _ q_fl_X11_162) (fun _ h9 => h9) rfl dX11_acts_7 ?_
  refine lv_topi (fun x_1 ex_1 => ?_)
  have hf := hf x_1 ex_1
  refine z_put (w' := cl_X11 cI cJ a (u.1, u.2.1, u.2.2.1, u.2.2.2.1, u.2.2.2.2.1, u.2.2.2.2.2.1, u.2.2.2.2.2.2.1, u.2.2.2.2.2.2.2.1, u.2.2.2.2.2.2.2.2.1, u.2.2.2.2.2.2.2.2.2.1, u.2.2.2.2.2.2.2.2.2.2.1, x_1, u.2.2.2.2.2.2.2.2.2.2.2.2.1, (-1 : Int32), u.2.2.2.2.2.2.2.2.2.2.2.2.2.2)) (ci := 10) (v := .int x_1) (ty := .int) (Cn := RX11) (T := TX11) (N := 17) X inX11 tyX11 tyX11_ok nmX11 hP hD hS 0 rfl rfl 11 (by decide) (hts _ q_fl_X11_172) (fun _ h9 => h9) rfl (tyX11_ok 11 (by decide)) rfl rfl (Nat.le_of_ble_eq_true rfl) rfl dX11_acts_10 (fun H locs hP hD hS => ?_)
  refine lv_aload_n hx hb dX11_acts_13 rfl (lv_at hl 0 rfl) ?_
  refine lv_iconst (v := 0) hx hb dX11_acts_14 (by decide) ?_
  refine z_put (w' := cl_X11 cI cJ a (u.1, u.2.1, u.2.2.1, u.2.2.2.1, u.2.2.2.2.1, u.2.2.2.2.2.1, u.2.2.2.2.2.2.1, u.2.2.2.2.2.2.2.1, u.2.2.2.2.2.2.2.2.1, u.2.2.2.2.2.2.2.2.2.1, (0 : Int32), x_1, u.2.2.2.2.2.2.2.2.2.2.2.2.1, (-1 : Int32), u.2.2.2.2.2.2.2.2.2.2.2.2.2.2)) (ci := 10) (v := .int (0 : Int32)) (ty := .int) (Cn := RX11) (T := TX11) (N := 17) X inX11 tyX11 tyX11_ok nmX11 hP hD hS 0 rfl rfl 10 (by decide) (hts _ q_fl_X11_162) (fun _ h9 => h9) rfl (tyX11_ok 10 (by decide)) rfl rfl (Nat.le_of_ble_eq_true rfl) rfl dX11_acts_15 (fun H locs hP hD hS => ?_)
  refine lv_aload_n hx hb dX11_acts_18 rfl (lv_at hl 0 rfl) ?_
  refine lv_iconst (v := 0) hx hb dX11_acts_19 (by decide) ?_
  refine z_put (w' := cl_X11 cI cJ a (u.1, u.2.1, u.2.2.1, u.2.2.2.1, u.2.2.2.2.1, u.2.2.2.2.2.1, u.2.2.2.2.2.2.1, u.2.2.2.2.2.2.2.1, u.2.2.2.2.2.2.2.2.1, u.2.2.2.2.2.2.2.2.2.1, (0 : Int32), x_1, (0 : Int32), (-1 : Int32), u.2.2.2.2.2.2.2.2.2.2.2.2.2.2)) (ci := 10) (v := .int (0 : Int32)) (ty := .int) (Cn := RX11) (T := TX11) (N := 17) X inX11 tyX11 tyX11_ok nmX11 hP hD hS 0 rfl rfl 12 (by decide) (hts _ q_fl_X11_169) (fun _ h9 => h9) rfl (tyX11_ok 12 (by decide)) rfl rfl (Nat.le_of_ble_eq_true rfl) rfl dX11_acts_20 (fun H locs hP hD hS => ?_)
  refine lv_aload_n hx hb dX11_acts_23 rfl (lv_at hl 0 rfl) ?_
  refine z_mVv (Wn := (fun u_3 => cl_X11 cI cJ a u_3)) (As := []) (rest := []) (wr := []) X (c_X11_putsAside l dC dI cI cJ cS a (u.1, u.2.1, u.2.2.1, u.2.2.2.1, u.2.2.2.2.1, u.2.2.2.2.2.1, u.2.2.2.2.2.2.1, u.2.2.2.2.2.2.2.1, u.2.2.2.2.2.2.2.2.1, u.2.2.2.2.2.2.2.2.2.1, (0 : Int32), x_1, (0 : Int32), (-1 : Int32), u.2.2.2.2.2.2.2.2.2.2.2.2.2.2)  _ hf _) zc_X11_putsAside q_ml_X11_248 ⟨rfl, rfl⟩ ⟨Nat.le_of_ble_eq_true rfl, Nat.le_of_ble_eq_true rfl⟩ hP hD hS hA [0, 1, 2, 3, 4, 5, 6, 7, 8] [] rfl (by decide) rfl (by decide) (by decide) [0, 1, 2, 3, 4, 5, 6, 7, 8] (by decide) (fun _ => rfl) 10 rfl rfl hl.1 rfl rfl (Nat.le_of_ble_eq_true rfl) ⟨Nat.zero_le _, Nat.zero_le _⟩ dX11_acts_24 (fun u_3 H locs hf hP hD hS => ?_)
  refine lv_iconst (v := 0) hx hb dX11_acts_27 (by decide) ?_
  refine lv_istore_n (lv' := [(1, .int (0 : Int32)), (0, .ref (a 0))]) hx hb dX11_acts_28 rfl hl (by decide) rfl (fun ls hl => ?_)
  refine lv_iconst (v := 0) hx hb dX11_acts_29 (by decide) ?_
  refine lv_istore_n (lv' := [(2, .int (0 : Int32)), (1, .int (0 : Int32)), (0, .ref (a 0))]) hx hb dX11_acts_30 rfl hl (by decide) rfl (fun ls hl => ?_)
  refine lv_aload_n hx hb dX11_acts_31 rfl (lv_at hl 2 rfl) ?_
  refine z_mVi (Wn := (fun u_5 => cl_X11 cI cJ a u_5)) (As := []) (rest := []) (wr := []) X (c_X11_here l dC dI cI cJ cS a u_3  _ hf _) zc_X11_here q_ml_X11_175 ⟨rfl, rfl⟩ ⟨Nat.le_of_ble_eq_true rfl, Nat.le_of_ble_eq_true rfl⟩ hP hD hS hA [0, 1, 2, 3, 4, 5, 6, 7, 8] [] rfl (by decide) rfl (by decide) (by decide) [0, 1, 2, 3, 4, 5, 6, 7, 8] (by decide) (fun _ => rfl) 10 rfl rfl hl.1 rfl rfl (Nat.le_of_ble_eq_true rfl) ⟨Nat.zero_le _, Nat.zero_le _⟩ dX11_acts_32 (fun r_4 u_5 H locs hf hP hD hS => ?_)
  refine lv_aload_n hx hb dX11_acts_35 rfl (lv_at hl 2 rfl) ?_
  refine va_get (D := (dC, dI)) (ci := 10) (v := .int u_5.2.2.2.2.2.2.2.2.2.2.2.1) (C := RX11) (T := TX11) (N := 17) hx hb hts inX11 hown hK hP 0 rfl rfl 11 (by decide) (hts _ q_fl_X11_172) (fun _ h9 => h9) rfl dX11_acts_36 ?_
  refine lv_icmp_ge (tgt := 46) hx hb dX11_acts_39 (by decide) (fun c_6 => ?_) (fun c_6 => ?_)
  · have hf := hf.1 c_6
    refine lv_iconst (v := 0) hx hb dX11_acts_46 (by decide) ?_
    refine lv_istore_n (lv' := [(3, .int (0 : Int32)), (2, .int (0 : Int32)), (1, .int (0 : Int32)), (0, .ref (a 0))]) hx hb dX11_acts_47 rfl hl (by decide) rfl (fun ls hl => ?_)
    obtain ⟨k_7, hf⟩ := hf
    exact (LP k_7) _ _ _ u_5 _ _ ls hf hP hD hS (lv_sub hl [3, 2, 1, 0] rfl)
  · have hf := hf.2 c_6
    refine lv_iconst (v := 1) hx hb dX11_acts_42 (by decide) ?_
    refine lv_goto (tgt := 47) hx hb dX11_acts_43 (by decide) ?_
    refine lv_istore_n (lv' := [(3, .int (1 : Int32)), (2, .int (0 : Int32)), (1, .int (0 : Int32)), (0, .ref (a 0))]) hx hb dX11_acts_47 rfl hl (by decide) rfl (fun ls hl => ?_)
    obtain ⟨k_8, hf⟩ := hf
    exact (LP k_8) _ _ _ u_5 _ _ ls hf hP hD hS (lv_sub hl [3, 2, 1, 0] rfl)
abbrev mFa (z : zModel) : Int32 := z.2.2.2.2.2.2.2.2.2.2.2.2.2.1
abbrev mPo (z : zModel) : Int32 := z.2.2.2.2.2.2.2.2.2.2.2.2.1
abbrev mEn (z : zModel) : Int32 := z.2.2.2.2.2.2.2.2.2.2.2.1
theorem acT_wr {n' c' r : Int32} {w : zModel} {K : Int32 → Int32 → Int32 → zModel → Prop} (hf : ¬ mFa w = -1) (h : ∀ y, K n' c' y w) : acT n' c' r w K :=
  ⟨fun _ => ⟨fun _ => h _, fun _ => ⟨fun _ => h _, fun z => absurd z hf⟩⟩, fun _ => ⟨fun _ => h _, fun _ => ⟨fun _ => h _, fun z => absurd z hf⟩⟩⟩
theorem acT_go {n' c' r : Int32} {w : zModel} {K : Int32 → Int32 → Int32 → zModel → Prop} (hf : mFa w = -1) (h1 : mEn w ≤ r → K n' c' 0 w) (h2 : ¬ mEn w ≤ r → vp_in (mPo w) 400) (h3 : ¬ mEn w ≤ r → mTp w (mPo w).toNatClampNeg = 59 → K n' c' 1 (mAt w (mPo w + 1))) (h4 : ¬ mEn w ≤ r → ¬ mTp w (mPo w).toNatClampNeg = 59 → K n' c' 1 (mAt (mFt w (mPo w)) (mPo w + 1))) : acT n' c' r w K :=
  ⟨fun c => ⟨fun _ => h1 c, fun z => absurd rfl z⟩, fun c => ⟨fun z => absurd z (by decide), fun _ => ⟨fun z => absurd hf z, fun _ => ⟨h2 c, fun d x ex => by rw [ex]; exact h3 c d, fun d => ⟨fun z => absurd hf z, fun _ x ex => by rw [ex]; exact h4 c d⟩⟩⟩⟩⟩
theorem acE_ok {y1 : Int32} {z : zModel} {Q : Int32 → zModel → Prop} (hf : mFa z = -1) (h1 : y1 ≤ 0 → Q y1 ((0 : Int32), z.2.1, z.2.2.1, z.2.2.2.1, z.2.2.2.2.1, z.2.2.2.2.2.1, (0 : Int32), z.2.2.2.2.2.2.2.1, z.2.2.2.2.2.2.2.2.1, z.2.2.2.2.2.2.2.2.2)) (h2 : ¬ y1 ≤ 0 → Q y1 ((0 : Int32), z.2.1, z.2.2.1, z.2.2.2.1, z.2.2.2.2.1, z.2.2.2.2.2.1, (0 : Int32), z.2.2.2.2.2.2.2.1, (0 : Int32), z.2.2.2.2.2.2.2.2.2)) (y2 : Int32) : acE y1 y2 z Q :=
  ⟨fun q => absurd hf q, fun _ => ⟨fun q => absurd rfl q, fun _ => ⟨fun c y ey => by rw [ey]; exact h1 c, fun c => h2 c⟩⟩⟩
theorem acE_no {y1 y2 : Int32} {z : zModel} {Q : Int32 → zModel → Prop} (hf : ¬ mFa z = -1) (h1 : y2 ≤ 0 → ∀ f : Nat → Int32, (∀ j, j < 5497 → f j = z.2.2.1 j) → Q 0 ((1 : Int32), f, z.2.2)) (h2 : ¬ y2 ≤ 0 → ∀ f : Nat → Int32, (∀ j, j < 5497 → f j = z.2.2.1 j) → Q 0 ((1 : Int32), f, z.2.2.1, z.2.2.2.1, z.2.2.2.2.1, z.2.2.2.2.2.1, z.2.2.2.2.2.2.1, z.2.2.2.2.2.2.2.1, y2, z.2.2.2.2.2.2.2.2.2)) : acE y1 y2 z Q :=
  ⟨fun _ => ⟨fun _ => ⟨fun d y ey f hf' => by rw [ey]; exact h1 d f hf', fun d f hf' => h2 d f hf'⟩, fun q => absurd q (by decide)⟩, fun q => absurd q hf⟩
theorem acts48 {y1 y2 y3 : Int32} {z : zModel} {K : Int32 → Int32 → Int32 → zModel → Prop} {Q : Int32 → zModel → Prop} (hE : y3 = 0 ∨ ¬ mFa z = -1 → acE y1 y2 z Q)
    (hA : ¬ y3 = 0 → mFa z = -1 → ¬ y1 = 14 → s_X11_act z (fun r u => ∀ x : Int32, x = y1 + 1 → s_X11_here u (fun r2 u2 => acT x r r2 u2 K)))
    (hW : ¬ y3 = 0 → mFa z = -1 → y1 = 14 → s_X11_here z (fun r u => s_X11_wrong u r (fun u' => (¬ mFa u' = -1 → ∀ x : Int32, x = y1 + 1 → s_X11_here u' (fun r2 u2 => acT x y2 r2 u2 K)) ∧ (mFa u' = -1 → s_X11_act u' (fun r u => ∀ x : Int32, x = y1 + 1 → s_X11_here u (fun r2 u2 => acT x r r2 u2 K)))))) : t_X11_acts_48 y1 y2 y3 z K Q :=
  ⟨fun c => hE (Or.inl c), fun c => ⟨fun d => hE (Or.inr d), fun d => ⟨fun e => ⟨fun q => absurd d q, fun _ => hA c d e⟩, fun e => hW c d e⟩⟩⟩
/-- where one stands when an ACT is read -/
def txA (t : Nat → Int32) (N n p : Nat) : Nat := if n = 0 then pSk t N p else pSk t N p + 1
theorem txA_sk (t : Nat → Int32) (N n p : Nat) : pSk t N (txA t N n p) = txX t N n p := by
  unfold txA txX
  split
  · exact pSk_idem t N p
  · rfl
theorem mA_at (u : zModel) (m : Nat → Int32) (a b : Nat) (x : Int32) : mAt (mA u m a x) (nI b) = mA u m b x := rfl
theorem mA_ft (u : zModel) (m : Nat → Int32) (a b : Nat) (x y : Int32) : mAt (mFt (mA u m a x) y) (nI b) = mFt (mA u m b x) y := rfl
theorem mA_2 (u : zModel) (m m' : Nat → Int32) (a b : Nat) (x y : Int32) : mA (mA u m a x) m' b y = mA u m' b y := rfl
/-- the state from which a text is done -/
def acW (u : zModel) (N : Nat) (f : Nat → Int32) : zModel := (u.1, u.2.1, f, u.2.2.2.1, u.2.2.2.2.1, u.2.2.2.2.2.1, u.2.2.2.2.2.2.1, u.2.2.2.2.2.2.2.1, u.2.2.2.2.2.2.2.2.1, u.2.2.2.2.2.2.2.2.2.1, (0 : Int32), nI N, (0 : Int32), (-1 : Int32), u.2.2.2.2.2.2.2.2.2.2.2.2.2.2)
/-- what holds at the head -/
def acI (u : zModel) (G : zG) (B N k : Nat) (y1 y2 y3 : Int32) (z : zModel) : Prop := ∃ f : Nat → Int32, (∀ j, j < 5497 → f j = u.2.1 j) ∧
    ((∃ (n p : Nat) (v : zState) (m' : Nat → Int32) (x : Int32), n ≤ 14 ∧ k = 20 - n ∧ y1 = nI n ∧ y2 = 0 ∧ y3 = 1 ∧ p ≤ N ∧ pSk (mTp u) N p < N ∧ (0 < n → mTp u (pSk (mTp u) N p) = 59) ∧ okB (B + 20 * n) v ∧ mRel v m' ∧ z = mA (acW u N f) m' (txA (mTp u) N n p) x ∧ txF (mTp u) N 16 0 0 (gNow G) = txF (mTp u) N (16 - n) n p v) ∨
     (∃ (n : Nat) (v : zState) (m' : Nat → Int32) (a : Nat) (x : Int32), n ≤ 16 ∧ k = 0 ∧ y1 = nI n ∧ y2 = 0 ∧ y3 = 0 ∧ mRel v m' ∧ z = mA (acW u N f) m' a x ∧ txF (mTp u) N 16 0 0 (gNow G) = (-1, 0, n, v)) ∨
     (∃ (w n : Nat) (v : zState) (m' : Nat → Int32) (a : Nat) (x : Int32), k = 0 ∧ ¬ y2 < 0 ∧ w ≤ 400 ∧ z = mFt (mA (acW u N f) m' a x) (nI w) ∧ txF (mTp u) N 16 0 0 (gNow G) = (nI w, y2, n, v)))
theorem acW_tx (u : zModel) {N a : Nat} (f m : Nat → Int32) (x : Int32) (hN : N ≤ 400) (ha : a ≤ N) : mTx (mA (acW u N f) m a x) N a := ⟨hN, ha, rfl, rfl⟩
theorem acW_tf (u : zModel) {N a : Nat} (f m : Nat → Int32) (x y : Int32) (hN : N ≤ 400) (ha : a ≤ N) : mTx (mFt (mA (acW u N f) m a x) y) N a := ⟨hN, ha, rfl, rfl⟩
theorem acW_tp (u : zModel) (N a : Nat) (f m : Nat → Int32) (x : Int32) : mTp (mA (acW u N f) m a x) = mTp u := rfl
theorem acW_tq (u : zModel) (N a : Nat) (f m : Nat → Int32) (x y : Int32) : mTp (mFt (mA (acW u N f) m a x) y) = mTp u := rfl
theorem acW_fa (u : zModel) (N a : Nat) (f m : Nat → Int32) (x : Int32) : mFa (mA (acW u N f) m a x) = -1 := rfl
theorem acW_en (u : zModel) (N a : Nat) (f m : Nat → Int32) (x : Int32) : mEn (mA (acW u N f) m a x) = nI N := rfl
theorem acW_po (u : zModel) (N a : Nat) (f m : Nat → Int32) (x : Int32) : mPo (mA (acW u N f) m a x) = nI a := rfl
theorem acW_fq (u : zModel) (N a : Nat) (f m : Nat → Int32) (x y : Int32) : mFa (mFt (mA (acW u N f) m a x) y) = y := rfl
/-- the end of a text that is right -/
theorem acE_B {u : zModel} {G : zG} {N n a : Nat} {f m' : Nat → Int32} {v : zState} {x : Int32} {Q : Int32 → zModel → Prop} (hm : mG G u) (hn : n ≤ 16) (hr : mRel v m') (hQ : ∀ u' : zModel, mG (gText G v n) u' → u'.1 = 0 → Q (nI n) u') : acE (nI n) 0 (mA (acW u N f) m' a x) Q := by
  obtain ⟨g1, g2, g3, ⟨g4, g5⟩, ⟨g6, g7⟩, g8, g9⟩ := hm
  refine acE_ok rfl (fun c => hQ _ ?_ rfl) (fun c => hQ _ ?_ rfl) 0
  · have hn0 : n = 0 := by
      have := (nI_leI (a := n) (b := 0) (by omega) (by decide)).mp c
      omega
    refine ⟨hr, g2, g3, ⟨rfl, fun i hi => absurd hi (Nat.not_lt_zero i)⟩, ⟨rfl, fun j hj => absurd hj (Nat.not_lt_zero j)⟩, rfl, ?_⟩
    show u.2.2.2.2.2.2.2.2.1 = if n = 0 then gWy G else 0
    rw [if_pos hn0]; exact g9
  · have hn0 : ¬ n = 0 := fun q => c (by rw [q]; decide)
    refine ⟨hr, g2, g3, ⟨rfl, fun i hi => absurd hi (Nat.not_lt_zero i)⟩, ⟨rfl, fun j hj => absurd hj (Nat.not_lt_zero j)⟩, rfl, ?_⟩
    show (0 : Int32) = if n = 0 then gWy G else 0
    rw [if_neg hn0]
/-- the end of one that is wrong -/
theorem acE_C {u : zModel} {G : zG} {B N w a : Nat} {f m' : Nat → Int32} {x y1 c : Int32} {Q : Int32 → zModel → Prop} (hG : okG B G) (hm : mG G u) (hfe : ∀ j, j < 5497 → f j = u.2.1 j) (hc : ¬ c < 0) (hw : w ≤ 400) (hQ : ∀ u' : zModel, mG (gWrong G (nI w) c) u' → u'.1 = 1 → Q 0 u') : acE y1 c (mFt (mA (acW u N f) m' a x) (nI w)) Q := by
  obtain ⟨g1, g2, g3, ⟨g4, g5⟩, ⟨g6, g7⟩, g8, g9⟩ := hm
  have hrf : ∀ f' : Nat → Int32, (∀ j, j < 5497 → f' j = f j) → mRel (gNow G) f' := fun f' h => hG.1.same g1 (fun j hj => (h j hj).trans (hfe j hj))
  refine acE_no (n_neg (n := w) (by omega)) (fun d f' hf' => hQ _ ?_ rfl) (fun d f' hf' => hQ _ ?_ rfl)
  · refine ⟨hrf f' hf', g2, g3, ⟨g4, g5⟩, ⟨rfl, fun j hj => absurd hj (Nat.not_lt_zero j)⟩, rfl, ?_⟩
    show u.2.2.2.2.2.2.2.2.1 = if c = 0 then gWy G else c
    by_cases c0 : c = 0
    · rw [if_pos c0]; exact g9
    · exact absurd d (i0_of c0 hc)
  · refine ⟨hrf f' hf', g2, g3, ⟨g4, g5⟩, ⟨rfl, fun j hj => absurd hj (Nat.not_lt_zero j)⟩, rfl, ?_⟩
    show c = if c = 0 then gWy G else c
    rw [if_neg (fun q => d (by rw [q]; decide))]
def acK (u : zModel) (G : zG) (B N n : Nat) : Int32 → Int32 → Int32 → zModel → Prop := fun q0 q1 q2 q3 => ∃ k : Nat, k < n ∧ acI u G B N k q0 q1 q2 q3
/-- behind a wrong one -/
theorem ac_wr {u : zModel} {G : zG} {B N k w n9 a9 : Nat} {f m9 : Nat → Int32} {c n' x9 : Int32} {v9 : zState} (hk : 0 < k) (hN : N ≤ 400) (hfe : ∀ j, j < 5497 → f j = u.2.1 j) (h1 : a9 ≤ N) (h2 : ¬ c < 0) (h3 : w ≤ 400) (h4 : txF (mTp u) N 16 0 0 (gNow G) = (nI w, c, n9, v9)) : s_X11_here (mFt (mA (acW u N f) m9 a9 x9) (nI w)) (fun r w1 => acT n' c r w1 (acK u G B N k)) := by
  refine ⟨N, a9, acW_tf u f m9 x9 (nI w) hN h1, ?_⟩
  rw [mA_ft]
  exact acT_wr (n_neg (n := w) (by omega)) (fun y => ⟨0, hk, f, hfe, Or.inr (Or.inr ⟨w, n9, v9, m9, _, x9, rfl, h2, h3, rfl, h4⟩)⟩)
/-- behind an ACT that was done -/
theorem ac_go {u : zModel} {G : zG} {B N n e fm : Nat} {f m2 : Nat → Int32} {x2 y : Int32} {v2 : zState} (hn : n < 14) (hN : N ≤ 400) (hfe : ∀ j, j < 5497 → f j = u.2.1 j) (he : e ≤ N) (hok : okB (B + 20 * n + 20) v2) (hm2 : mRel v2 m2) (ey : y = nI n + 1) (ef : fm + 1 + n = 15) (et : txF (mTp u) N 16 0 0 (gNow G) = txF (mTp u) N (fm + 1) (n + 1) e v2) : s_X11_here (mA (acW u N f) m2 e x2) (fun r w1 => acT y 0 r w1 (acK u G B N (20 - n))) := by
  refine ⟨N, e, acW_tx u f m2 x2 hN he, ?_⟩
  rw [mA_at, acW_tp]
  have hq2 := pSk_le (mTp u) he
  have et2 := et.trans (txF_s (mTp u) N fm (n + 1) e v2)
  refine acT_go rfl (fun c => ?_) (fun c => ?_) (fun c d => ?_) (fun c d => ?_)
  · rw [acW_en] at c
    have := (nI_leI (by omega) (by omega)).mp c
    rw [if_pos (show ¬ pSk (mTp u) N e < N by omega)] at et2
    exact ⟨0, by omega, f, hfe, Or.inr (Or.inl ⟨n + 1, v2, m2, _, x2, by omega, rfl, by rw [ey, nI_1], rfl, rfl, hm2, rfl, et2⟩)⟩
  · rw [acW_en] at c
    have : ¬ N ≤ pSk (mTp u) N e := fun z => c (nI_le z (by omega))
    rw [acW_po]
    exact vp_in_nI (by omega) (by decide)
  · rw [acW_en] at c
    have hlt2 : pSk (mTp u) N e < N := by
      have : ¬ N ≤ pSk (mTp u) N e := fun z => c (nI_le z (by omega))
      omega
    rw [acW_po, acW_tp, nI_clamp (by omega)] at d
    rw [acW_po, nI_1, mA_at]
    have eA : pSk (mTp u) N e + 1 = txA (mTp u) N (n + 1) e := (if_neg (by omega)).symm
    rw [eA]
    exact ⟨20 - (n + 1), by omega, f, hfe, Or.inl ⟨n + 1, e, v2, m2, x2, by omega, rfl, by rw [ey, nI_1], rfl, rfl, he, hlt2, fun _ => d, by rw [show B + 20 * (n + 1) = B + 20 * n + 20 by omega]; exact hok, hm2, rfl, by rw [et, show 16 - (n + 1) = fm + 1 by omega]⟩⟩
  · rw [acW_en] at c
    have hlt2 : pSk (mTp u) N e < N := by
      have : ¬ N ≤ pSk (mTp u) N e := fun z => c (nI_le z (by omega))
      omega
    rw [acW_po, acW_tp, nI_clamp (by omega)] at d
    rw [if_neg (fun z => z hlt2), if_pos ⟨Nat.succ_pos n, d⟩] at et2
    rw [acW_po, nI_1, mA_ft]
    exact ⟨0, by omega, f, hfe, Or.inr (Or.inr ⟨pSk (mTp u) N e, n + 1, v2, m2, _, x2, rfl, by decide, by omega, rfl, et2⟩)⟩
def s_X11_acts (u : zModel) (Q : Int32 → zModel → Prop) : Prop := ∃ (B : Nat) (G : zG), okG B G ∧ B + 280 ≤ 400000 ∧ mG G u ∧ ∀ u' : zModel, mG (fActs G).2.2 u' → u'.1 = (fActs G).1 → Q (fActs G).2.1 u'
theorem ac_A {u : zModel} {G : zG} {B N n p : Nat} {f m' : Nat → Int32} {x : Int32} {v : zState} {Q : Int32 → zModel → Prop} (hB : B + 280 ≤ 400000) (hN : N ≤ 400) (hfe : ∀ j, j < 5497 → f j = u.2.1 j) (hn : n ≤ 14) (hp : p ≤ N) (hlt : pSk (mTp u) N p < N) (hsep : 0 < n → mTp u (pSk (mTp u) N p) = 59) (hv : okB (B + 20 * n) v) (hr : mRel v m') (et : txF (mTp u) N 16 0 0 (gNow G) = txF (mTp u) N (16 - n) n p v) : t_X11_acts_48 (nI n) 0 1 (mA (acW u N f) m' (txA (mTp u) N n p) x) (acK u G B N (20 - n)) Q := by
  have hX := txX_le (mTp u) (n := n) hlt
  have hA : txA (mTp u) N n p ≤ N := by
    unfold txA
    split <;> omega
  have hsk := txA_sk (mTp u) N n p
  obtain ⟨fl, efl⟩ : ∃ fl, 16 - n = fl + 1 := ⟨15 - n, by omega⟩
  rw [efl] at et
  have et := et.trans (txF_s (mTp u) N fl n p v)
  rw [if_neg (fun z => z hlt), if_neg (fun z => z.2 (hsep z.1))] at et
  generalize txA (mTp u) N n p = a at hA hsk ⊢
  generalize txX (mTp u) N n p = X at hX hsk et
  refine acts48 (fun c => ?_) (fun _ _ c14 => ?_) (fun _ _ c14 => ?_)
  · exact (c.elim (fun q => absurd q (by decide)) (fun q => q (acW_fa u N a f m' x))).elim
  · have hn14 : ¬ 14 ≤ n := fun q => c14 (by rw [show n = 14 by omega]; rfl)
    rw [if_neg hn14] at et
    refine ⟨B + 20 * n, v, N, a, hv, by omega, hr, acW_tx u f m' x hN hA, acW_fa u N a f m' x, ?_, ?_⟩
    · rw [acW_tp, hsk]
      refine fun ha => ⟨fun h0 m2 x2 hm2 y ey => ?_, fun h0 m2 a2 x2 ha2 y ey => ?_⟩
      · rw [if_neg (by omega), if_pos h0] at et
        rw [mA_2]
        obtain ⟨fm, efm⟩ : ∃ fm, fl = fm + 1 := ⟨14 - n, by omega⟩
        rw [efm] at et
        exact ac_go (by omega) hN hfe (nEnd_le (mTp u) (wdE_le (mTp u) hX) _) (okB_doT hv (by omega) ha h0) hm2 ey (by omega) et
      · rw [if_neg (by omega), if_neg h0] at et
        rw [mA_2]
        exact ac_wr (by omega) hN hfe ha2 (doA_pos _ _ _ _ _ _) (by omega) et
    · rw [acW_tp, hsk]
      intro ha m2 a2 x2 ha2 y ey
      rw [if_pos ha] at et
      have := aWr_le (mTp u) hX
      rw [mA_2]
      exact ac_wr (by omega) hN hfe ha2 (by decide) (by omega) et
  · have hn14 : n = 14 := (nI_eq (by omega) (by decide)).mp (show nI n = nI 14 from c14)
    rw [if_pos (show 14 ≤ n by omega)] at et
    refine ⟨N, a, acW_tx u f m' x hN hA, ?_⟩
    rw [mA_at, acW_tp, hsk]
    refine ⟨fun z => absurd (acW_fa u N X f m' x) z, fun _ => ?_⟩
    show (¬ mFa (mFt (mA (acW u N f) m' X x) (nI X)) = -1 → ∀ y : Int32, y = nI n + 1 → s_X11_here (mFt (mA (acW u N f) m' X x) (nI X)) (fun r2 u2 => acT y 0 r2 u2 (acK u G B N (20 - n)))) ∧ (mFa (mFt (mA (acW u N f) m' X x) (nI X)) = -1 → s_X11_act (mFt (mA (acW u N f) m' X x) (nI X)) (fun r u' => ∀ y : Int32, y = nI n + 1 → s_X11_here u' (fun r2 u2 => acT y r r2 u2 (acK u G B N (20 - n)))))
    refine ⟨fun _ y ey => ac_wr (by omega) hN hfe hX (by decide) (by omega) et, fun z => ?_⟩
    rw [acW_fq] at z
    exact absurd z (n_neg (by omega))
theorem st_X11_acts {u : zModel} {Q : Int32 → zModel → Prop} (h : s_X11_acts u Q) : v_X11_acts u Q := by
  obtain ⟨B, G, hG, hB, hm, hQ⟩ := h
  have g1 := hm.1
  have g6 := hm.2.2.2.2.1.1
  have g7 := hm.2.2.2.2.1.2
  have hN : gTpN G ≤ 400 := hG.2.2.2
  generalize eN : gTpN G = N at g6 g7 hN
  have etx : txt G = txF (mTp u) N 16 0 0 (gNow G) := by
    unfold txt
    rw [eN]
    exact (txF_c g7 16 0 0 (gNow G) (by omega)).symm
  unfold fActs at hQ
  rw [etx] at hQ
  refine ⟨acI u G B N, ?_, ?_⟩
  · rintro k y1 y2 y3 z ⟨f, hfe, ⟨n, p, v, m', x, hn, rfl, rfl, rfl, rfl, hp, hlt, hsep, hv, hr, rfl, et⟩ | ⟨n, v, m', a, x, hn, rfl, rfl, rfl, rfl, hr, rfl, et⟩ | ⟨w, n, v, m', a, x, rfl, hc, hw, rfl, et⟩⟩
    · exact ac_A hB hN hfe hn hp hlt hsep hv hr et
    · rw [et] at hQ
      have hQ : ∀ u' : zModel, mG (gText G v n) u' → u'.1 = 0 → Q (nI n) u' := hQ
      exact acts48 (fun _ => acE_B hm hn hr hQ) (fun q => absurd rfl q) (fun q => absurd rfl q)
    · rw [et, if_neg (n_neg (n := w) (by omega))] at hQ
      have hQ : ∀ u' : zModel, mG (gWrong G (nI w) y2) u' → u'.1 = 1 → Q 0 u' := hQ
      exact acts48 (fun _ => acE_C hG hm hfe hc hw hQ) (fun _ q => absurd q (by rw [acW_fq]; exact n_neg (by omega))) (fun _ q => absurd q (by rw [acW_fq]; exact n_neg (by omega)))
  · intro x1 ex1 f hf
    have hf : ∀ j, j < 5497 → f j = u.2.1 j := hf
    have ex1 : x1 = nI N := ex1.trans g6
    subst ex1
    have hq := pSk_le (mTp u) (Nat.zero_le N)
    refine ⟨N, 0, ⟨hN, Nat.zero_le _, rfl, rfl⟩, ?_⟩
    show (nI N ≤ nI (pSk (mTp u) N 0) → ∃ k : Nat, acI u G B N k (0 : Int32) (0 : Int32) (0 : Int32) (mA (acW u N f) u.2.1 (pSk (mTp u) N 0) (mLs u))) ∧ (¬ nI N ≤ nI (pSk (mTp u) N 0) → ∃ k : Nat, acI u G B N k (0 : Int32) (0 : Int32) (1 : Int32) (mA (acW u N f) u.2.1 (pSk (mTp u) N 0) (mLs u)))
    refine ⟨fun c => ?_, fun c => ?_⟩
    · have := (nI_leI (by omega) (by omega)).mp c
      refine ⟨0, f, hf, Or.inr (Or.inl ⟨0, gNow G, u.2.1, _, mLs u, by omega, rfl, rfl, rfl, rfl, g1, rfl, ?_⟩)⟩
      rw [txF_s, if_pos (show ¬ pSk (mTp u) N 0 < N by omega)]
    · have hlt : pSk (mTp u) N 0 < N := by
        have : ¬ N ≤ pSk (mTp u) N 0 := fun z => c (nI_le z (by omega))
        omega
      exact ⟨20 - 0, f, hf, Or.inl ⟨0, 0, gNow G, u.2.1, mLs u, by omega, rfl, rfl, rfl, rfl, Nat.zero_le _, hlt, fun q => absurd q (Nat.lt_irrefl 0), hG.1, g1, rfl, rfl⟩⟩
theorem c_X11_acts (l : Launch) (dC : Nat → ClassId) (dI : Nat → Nat → Nat) (cI cJ cS : ClassId) (a : Nat → Nat) (u : zModel) (Q : Int32 → zModel → Prop) (hf : s_X11_acts u Q) : ∀ sz : Nat, Met l yX11_acts (Cond.code yX11_acts cX11_acts 4 (some .int) :: zT) rm_X11_acts (zPmF zFz dC dI cI cJ cS (cl_X11 cI cJ a u) [.ref (a 0)] sz) (va_Qi Q (zB dC dI cI cJ cS (va_A (cl_X11 cI cJ a u) sz) (fun z => cl_X11 cI cJ a z)) (va_A (cl_X11 cI cJ a u) sz)) 0 0 (va_A (cl_X11 cI cJ a u) sz) := by
  obtain ⟨I48, h48, hf⟩ := st_X11_acts hf
  exact L_X11_acts l dC dI cI cJ cS a u Q I48 h48 hf
