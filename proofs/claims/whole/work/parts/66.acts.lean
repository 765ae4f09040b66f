def acE (y1 y2 : Int32) (z : zModel) (Q : Int32 → zModel → Prop) : Prop := ((¬ z.2.2.2.2.2.2.2.2.2.2.2.2.2.1 = (-1 : Int32) → ((¬ (1 : Int32) = 0 → ((y2 ≤ 0 → ∀ x_13 : Int32, x_13 = z.2.2.2.2.2.2.2.2.1 → s_X11_putsBack ((1 : Int32), z.2.1, z.2.2.1, z.2.2.2.1, z.2.2.2.2.1, z.2.2.2.2.2.1, z.2.2.2.2.2.2.1, z.2.2.2.2.2.2.2.1, x_13, z.2.2.2.2.2.2.2.2.2) (fun (u_15 : zModel) => Q (0 : Int32) u_15)) ∧ (¬ y2 ≤ 0 → s_X11_putsBack ((1 : Int32), z.2.1, z.2.2.1, z.2.2.2.1, z.2.2.2.2.1, z.2.2.2.2.2.1, z.2.2.2.2.2.2.1, z.2.2.2.2.2.2.2.1, y2, z.2.2.2.2.2.2.2.2.2) (fun (u_17 : zModel) => Q (0 : Int32) u_17)))) ∧ ((1 : Int32) = 0 → ((y1 ≤ 0 → ∀ x_19 : Int32, x_19 = z.2.2.2.2.2.2.2.2.1 → Q y1 ((1 : Int32), z.2.1, z.2.2.1, z.2.2.2.1, z.2.2.2.2.1, z.2.2.2.2.2.1, (0 : Int32), z.2.2.2.2.2.2.2.1, x_19, z.2.2.2.2.2.2.2.2.2)) ∧ (¬ y1 ≤ 0 → Q y1 ((1 : Int32), z.2.1, z.2.2.1, z.2.2.2.1, z.2.2.2.2.1, z.2.2.2.2.2.1, (0 : Int32), z.2.2.2.2.2.2.2.1, (0 : Int32), z.2.2.2.2.2.2.2.2.2)))))) ∧ (z.2.2.2.2.2.2.2.2.2.2.2.2.2.1 = (-1 : Int32) → ((¬ (0 : Int32) = 0 → ((y2 ≤ 0 → ∀ x_22 : Int32, x_22 = z.2.2.2.2.2.2.2.2.1 → s_X11_putsBack ((0 : Int32), z.2.1, z.2.2.1, z.2.2.2.1, z.2.2.2.2.1, z.2.2.2.2.2.1, z.2.2.2.2.2.2.1, z.2.2.2.2.2.2.2.1, x_22, z.2.2.2.2.2.2.2.2.2) (fun (u_24 : zModel) => Q (0 : Int32) u_24)) ∧ (¬ y2 ≤ 0 → s_X11_putsBack ((0 : Int32), z.2.1, z.2.2.1, z.2.2.2.1, z.2.2.2.2.1, z.2.2.2.2.2.1, z.2.2.2.2.2.2.1, z.2.2.2.2.2.2.2.1, y2, z.2.2.2.2.2.2.2.2.2) (fun (u_26 : zModel) => Q (0 : Int32) u_26)))) ∧ ((0 : Int32) = 0 → ((y1 ≤ 0 → ∀ x_28 : Int32, x_28 = z.2.2.2.2.2.2.2.2.1 → Q y1 ((0 : Int32), z.2.1, z.2.2.1, z.2.2.2.1, z.2.2.2.2.1, z.2.2.2.2.2.1, (0 : Int32), z.2.2.2.2.2.2.2.1, x_28, z.2.2.2.2.2.2.2.2.2)) ∧ (¬ y1 ≤ 0 → Q y1 ((0 : Int32), z.2.1, z.2.2.1, z.2.2.2.1, z.2.2.2.2.1, z.2.2.2.2.2.1, (0 : Int32), z.2.2.2.2.2.2.2.1, (0 : Int32), z.2.2.2.2.2.2.2.2.2)))))))
def acT (n' c' r : Int32) (w : zModel) (K48 : Int32 → Int32 → Int32 → zModel → Prop) : Prop := ((w.2.2.2.2.2.2.2.2.2.2.2.1 ≤ r → (((0 : Int32) = 0 → K48 n' c' (0 : Int32) w) ∧ (¬ (0 : Int32) = 0 → ((¬ w.2.2.2.2.2.2.2.2.2.2.2.2.2.1 = (-1 : Int32) → K48 n' c' (0 : Int32) w) ∧ (w.2.2.2.2.2.2.2.2.2.2.2.2.2.1 = (-1 : Int32) → vp_in w.2.2.2.2.2.2.2.2.2.2.2.2.1 400 ∧ (((w.2.2.2.2.2.2.2.2.2.1 w.2.2.2.2.2.2.2.2.2.2.2.2.1.toNatClampNeg) = (59 : Int32) → ∀ x_88 : Int32, x_88 = (w.2.2.2.2.2.2.2.2.2.2.2.2.1 + (1 : Int32)) → K48 n' c' (0 : Int32) (w.1, w.2.1, w.2.2.1, w.2.2.2.1, w.2.2.2.2.1, w.2.2.2.2.2.1, w.2.2.2.2.2.2.1, w.2.2.2.2.2.2.2.1, w.2.2.2.2.2.2.2.2.1, w.2.2.2.2.2.2.2.2.2.1, w.2.2.2.2.2.2.2.2.2.2.1, w.2.2.2.2.2.2.2.2.2.2.2.1, x_88, w.2.2.2.2.2.2.2.2.2.2.2.2.2)) ∧ (¬ (w.2.2.2.2.2.2.2.2.2.1 w.2.2.2.2.2.2.2.2.2.2.2.2.1.toNatClampNeg) = (59 : Int32) → s_X11_wrong w w.2.2.2.2.2.2.2.2.2.2.2.2.1 (fun (u_91 : zModel) => ∀ x_92 : Int32, x_92 = (u_91.2.2.2.2.2.2.2.2.2.2.2.2.1 + (1 : Int32)) → K48 n' c' (0 : Int32) (u_91.1, u_91.2.1, u_91.2.2.1, u_91.2.2.2.1, u_91.2.2.2.2.1, u_91.2.2.2.2.2.1, u_91.2.2.2.2.2.2.1, u_91.2.2.2.2.2.2.2.1, u_91.2.2.2.2.2.2.2.2.1, u_91.2.2.2.2.2.2.2.2.2.1, u_91.2.2.2.2.2.2.2.2.2.2.1, u_91.2.2.2.2.2.2.2.2.2.2.2.1, x_92, u_91.2.2.2.2.2.2.2.2.2.2.2.2.2))))))))) ∧ (¬ w.2.2.2.2.2.2.2.2.2.2.2.1 ≤ r → (((1 : Int32) = 0 → K48 n' c' (1 : Int32) w) ∧ (¬ (1 : Int32) = 0 → ((¬ w.2.2.2.2.2.2.2.2.2.2.2.2.2.1 = (-1 : Int32) → K48 n' c' (1 : Int32) w) ∧ (w.2.2.2.2.2.2.2.2.2.2.2.2.2.1 = (-1 : Int32) → vp_in w.2.2.2.2.2.2.2.2.2.2.2.2.1 400 ∧ (((w.2.2.2.2.2.2.2.2.2.1 w.2.2.2.2.2.2.2.2.2.2.2.2.1.toNatClampNeg) = (59 : Int32) → ∀ x_99 : Int32, x_99 = (w.2.2.2.2.2.2.2.2.2.2.2.2.1 + (1 : Int32)) → K48 n' c' (1 : Int32) (w.1, w.2.1, w.2.2.1, w.2.2.2.1, w.2.2.2.2.1, w.2.2.2.2.2.1, w.2.2.2.2.2.2.1, w.2.2.2.2.2.2.2.1, w.2.2.2.2.2.2.2.2.1, w.2.2.2.2.2.2.2.2.2.1, w.2.2.2.2.2.2.2.2.2.2.1, w.2.2.2.2.2.2.2.2.2.2.2.1, x_99, w.2.2.2.2.2.2.2.2.2.2.2.2.2)) ∧ (¬ (w.2.2.2.2.2.2.2.2.2.1 w.2.2.2.2.2.2.2.2.2.2.2.2.1.toNatClampNeg) = (59 : Int32) → s_X11_wrong w w.2.2.2.2.2.2.2.2.2.2.2.2.1 (fun (u_102 : zModel) => ∀ x_103 : Int32, x_103 = (u_102.2.2.2.2.2.2.2.2.2.2.2.2.1 + (1 : Int32)) → K48 n' c' (1 : Int32) (u_102.1, u_102.2.1, u_102.2.2.1, u_102.2.2.2.1, u_102.2.2.2.2.1, u_102.2.2.2.2.2.1, u_102.2.2.2.2.2.2.1, u_102.2.2.2.2.2.2.2.1, u_102.2.2.2.2.2.2.2.2.1, u_102.2.2.2.2.2.2.2.2.2.1, u_102.2.2.2.2.2.2.2.2.2.2.1, u_102.2.2.2.2.2.2.2.2.2.2.2.1, x_103, u_102.2.2.2.2.2.2.2.2.2.2.2.2.2))))))))))

def t_X11_acts_e (u : zModel) (K48 : Int32 → Int32 → Int32 → zModel → Prop) (Q : Int32 → zModel → Prop) : Prop := ∀ x_1 : Int32, x_1 = u.2.2.2.2.2.2.2.2.2.2.1 → s_X11_putsAside (u.1, u.2.1, u.2.2.1, u.2.2.2.1, u.2.2.2.2.1, u.2.2.2.2.2.1, u.2.2.2.2.2.2.1, u.2.2.2.2.2.2.2.1, u.2.2.2.2.2.2.2.2.1, u.2.2.2.2.2.2.2.2.2.1, (0 : Int32), x_1, (0 : Int32), (-1 : Int32), u.2.2.2.2.2.2.2.2.2.2.2.2.2.2) (fun (u_3 : zModel) => s_X11_here u_3 (fun (r_4 : Int32) (u_5 : zModel) => ((u_5.2.2.2.2.2.2.2.2.2.2.2.1 ≤ r_4 → K48 (0 : Int32) (0 : Int32) (0 : Int32) u_5) ∧ (¬ u_5.2.2.2.2.2.2.2.2.2.2.2.1 ≤ r_4 → K48 (0 : Int32) (0 : Int32) (1 : Int32) u_5))))
def t_X11_acts_48 (y1 : Int32) (y2 : Int32) (y3 : Int32) (z : zModel) (K48 : Int32 → Int32 → Int32 → zModel → Prop) (Q : Int32 → zModel → Prop) : Prop := ((y3 = 0 → ((¬ z.2.2.2.2.2.2.2.2.2.2.2.2.2.1 = (-1 : Int32) → ((¬ (1 : Int32) = 0 → ((y2 ≤ 0 → ∀ x_13 : Int32, x_13 = z.2.2.2.2.2.2.2.2.1 → s_X11_putsBack ((1 : Int32), z.2.1, z.2.2.1, z.2.2.2.1, z.2.2.2.2.1, z.2.2.2.2.2.1, z.2.2.2.2.2.2.1, z.2.2.2.2.2.2.2.1, x_13, z.2.2.2.2.2.2.2.2.2) (fun (u_15 : zModel) => Q (0 : Int32) u_15)) ∧ (¬ y2 ≤ 0 → s_X11_putsBack ((1 : Int32), z.2.1, z.2.2.1, z.2.2.2.1, z.2.2.2.2.1, z.2.2.2.2.2.1, z.2.2.2.2.2.2.1, z.2.2.2.2.2.2.2.1, y2, z.2.2.2.2.2.2.2.2.2) (fun (u_17 : zModel) => Q (0 : Int32) u_17)))) ∧ ((1 : Int32) = 0 → ((y1 ≤ 0 → ∀ x_19 : Int32, x_19 = z.2.2.2.2.2.2.2.2.1 → Q y1 ((1 : Int32), z.2.1, z.2.2.1, z.2.2.2.1, z.2.2.2.2.1, z.2.2.2.2.2.1, (0 : Int32), z.2.2.2.2.2.2.2.1, x_19, z.2.2.2.2.2.2.2.2.2)) ∧ (¬ y1 ≤ 0 → Q y1 ((1 : Int32), z.2.1, z.2.2.1, z.2.2.2.1, z.2.2.2.2.1, z.2.2.2.2.2.1, (0 : Int32), z.2.2.2.2.2.2.2.1, (0 : Int32), z.2.2.2.2.2.2.2.2.2)))))) ∧ (z.2.2.2.2.2.2.2.2.2.2.2.2.2.1 = (-1 : Int32) → ((¬ (0 : Int32) = 0 → ((y2 ≤ 0 → ∀ x_22 : Int32, x_22 = z.2.2.2.2.2.2.2.2.1 → s_X11_putsBack ((0 : Int32), z.2.1, z.2.2.1, z.2.2.2.1, z.2.2.2.2.1, z.2.2.2.2.2.1, z.2.2.2.2.2.2.1, z.2.2.2.2.2.2.2.1, x_22, z.2.2.2.2.2.2.2.2.2) (fun (u_24 : zModel) => Q (0 : Int32) u_24)) ∧ (¬ y2 ≤ 0 → s_X11_putsBack ((0 : Int32), z.2.1, z.2.2.1, z.2.2.2.1, z.2.2.2.2.1, z.2.2.2.2.2.1, z.2.2.2.2.2.2.1, z.2.2.2.2.2.2.2.1, y2, z.2.2.2.2.2.2.2.2.2) (fun (u_26 : zModel) => Q (0 : Int32) u_26)))) ∧ ((0 : Int32) = 0 → ((y1 ≤ 0 → ∀ x_28 : Int32, x_28 = z.2.2.2.2.2.2.2.2.1 → Q y1 ((0 : Int32), z.2.1, z.2.2.1, z.2.2.2.1, z.2.2.2.2.1, z.2.2.2.2.2.1, (0 : Int32), z.2.2.2.2.2.2.2.1, x_28, z.2.2.2.2.2.2.2.2.2)) ∧ (¬ y1 ≤ 0 → Q y1 ((0 : Int32), z.2.1, z.2.2.1, z.2.2.2.1, z.2.2.2.2.1, z.2.2.2.2.2.1, (0 : Int32), z.2.2.2.2.2.2.2.1, (0 : Int32), z.2.2.2.2.2.2.2.2.2)))))))) ∧ (¬ y3 = 0 → ((¬ z.2.2.2.2.2.2.2.2.2.2.2.2.2.1 = (-1 : Int32) → ((¬ z.2.2.2.2.2.2.2.2.2.2.2.2.2.1 = (-1 : Int32) → ((¬ (1 : Int32) = 0 → ((y2 ≤ 0 → ∀ x_33 : Int32, x_33 = z.2.2.2.2.2.2.2.2.1 → s_X11_putsBack ((1 : Int32), z.2.1, z.2.2.1, z.2.2.2.1, z.2.2.2.2.1, z.2.2.2.2.2.1, z.2.2.2.2.2.2.1, z.2.2.2.2.2.2.2.1, x_33, z.2.2.2.2.2.2.2.2.2) (fun (u_35 : zModel) => Q (0 : Int32) u_35)) ∧ (¬ y2 ≤ 0 → s_X11_putsBack ((1 : Int32), z.2.1, z.2.2.1, z.2.2.2.1, z.2.2.2.2.1, z.2.2.2.2.2.1, z.2.2.2.2.2.2.1, z.2.2.2.2.2.2.2.1, y2, z.2.2.2.2.2.2.2.2.2) (fun (u_37 : zModel) => Q (0 : Int32) u_37)))) ∧ ((1 : Int32) = 0 → ((y1 ≤ 0 → ∀ x_39 : Int32, x_39 = z.2.2.2.2.2.2.2.2.1 → Q y1 ((1 : Int32), z.2.1, z.2.2.1, z.2.2.2.1, z.2.2.2.2.1, z.2.2.2.2.2.1, (0 : Int32), z.2.2.2.2.2.2.2.1, x_39, z.2.2.2.2.2.2.2.2.2)) ∧ (¬ y1 ≤ 0 → Q y1 ((1 : Int32), z.2.1, z.2.2.1, z.2.2.2.1, z.2.2.2.2.1, z.2.2.2.2.2.1, (0 : Int32), z.2.2.2.2.2.2.2.1, (0 : Int32), z.2.2.2.2.2.2.2.2.2)))))) ∧ (z.2.2.2.2.2.2.2.2.2.2.2.2.2.1 = (-1 : Int32) → ((¬ (0 : Int32) = 0 → ((y2 ≤ 0 → ∀ x_42 : Int32, x_42 = z.2.2.2.2.2.2.2.2.1 → s_X11_putsBack ((0 : Int32), z.2.1, z.2.2.1, z.2.2.2.1, z.2.2.2.2.1, z.2.2.2.2.2.1, z.2.2.2.2.2.2.1, z.2.2.2.2.2.2.2.1, x_42, z.2.2.2.2.2.2.2.2.2) (fun (u_44 : zModel) => Q (0 : Int32) u_44)) ∧ (¬ y2 ≤ 0 → s_X11_putsBack ((0 : Int32), z.2.1, z.2.2.1, z.2.2.2.1, z.2.2.2.2.1, z.2.2.2.2.2.1, z.2.2.2.2.2.2.1, z.2.2.2.2.2.2.2.1, y2, z.2.2.2.2.2.2.2.2.2) (fun (u_46 : zModel) => Q (0 : Int32) u_46)))) ∧ ((0 : Int32) = 0 → ((y1 ≤ 0 → ∀ x_48 : Int32, x_48 = z.2.2.2.2.2.2.2.2.1 → Q y1 ((0 : Int32), z.2.1, z.2.2.1, z.2.2.2.1, z.2.2.2.2.1, z.2.2.2.2.2.1, (0 : Int32), z.2.2.2.2.2.2.2.1, x_48, z.2.2.2.2.2.2.2.2.2)) ∧ (¬ y1 ≤ 0 → Q y1 ((0 : Int32), z.2.1, z.2.2.1, z.2.2.2.1, z.2.2.2.2.1, z.2.2.2.2.2.1, (0 : Int32), z.2.2.2.2.2.2.2.1, (0 : Int32), z.2.2.2.2.2.2.2.2.2)))))))) ∧ (z.2.2.2.2.2.2.2.2.2.2.2.2.2.1 = (-1 : Int32) → ((¬ y1 = (14 : Int32) → ((¬ z.2.2.2.2.2.2.2.2.2.2.2.2.2.1 = (-1 : Int32) → ∀ x_51 : Int32, x_51 = y1 + (1 : Int32) → s_X11_here z (fun (r_52 : Int32) (u_53 : zModel) => ((u_53.2.2.2.2.2.2.2.2.2.2.2.1 ≤ r_52 → (((0 : Int32) = 0 → K48 x_51 y2 (0 : Int32) u_53) ∧ (¬ (0 : Int32) = 0 → ((¬ u_53.2.2.2.2.2.2.2.2.2.2.2.2.2.1 = (-1 : Int32) → K48 x_51 y2 (0 : Int32) u_53) ∧ (u_53.2.2.2.2.2.2.2.2.2.2.2.2.2.1 = (-1 : Int32) → vp_in u_53.2.2.2.2.2.2.2.2.2.2.2.2.1 400 ∧ (((u_53.2.2.2.2.2.2.2.2.2.1 u_53.2.2.2.2.2.2.2.2.2.2.2.2.1.toNatClampNeg) = (59 : Int32) → ∀ x_60 : Int32, x_60 = (u_53.2.2.2.2.2.2.2.2.2.2.2.2.1 + (1 : Int32)) → K48 x_51 y2 (0 : Int32) (u_53.1, u_53.2.1, u_53.2.2.1, u_53.2.2.2.1, u_53.2.2.2.2.1, u_53.2.2.2.2.2.1, u_53.2.2.2.2.2.2.1, u_53.2.2.2.2.2.2.2.1, u_53.2.2.2.2.2.2.2.2.1, u_53.2.2.2.2.2.2.2.2.2.1, u_53.2.2.2.2.2.2.2.2.2.2.1, u_53.2.2.2.2.2.2.2.2.2.2.2.1, x_60, u_53.2.2.2.2.2.2.2.2.2.2.2.2.2)) ∧ (¬ (u_53.2.2.2.2.2.2.2.2.2.1 u_53.2.2.2.2.2.2.2.2.2.2.2.2.1.toNatClampNeg) = (59 : Int32) → s_X11_wrong u_53 u_53.2.2.2.2.2.2.2.2.2.2.2.2.1 (fun (u_63 : zModel) => ∀ x_64 : Int32, x_64 = (u_63.2.2.2.2.2.2.2.2.2.2.2.2.1 + (1 : Int32)) → K48 x_51 y2 (0 : Int32) (u_63.1, u_63.2.1, u_63.2.2.1, u_63.2.2.2.1, u_63.2.2.2.2.1, u_63.2.2.2.2.2.1, u_63.2.2.2.2.2.2.1, u_63.2.2.2.2.2.2.2.1, u_63.2.2.2.2.2.2.2.2.1, u_63.2.2.2.2.2.2.2.2.2.1, u_63.2.2.2.2.2.2.2.2.2.2.1, u_63.2.2.2.2.2.2.2.2.2.2.2.1, x_64, u_63.2.2.2.2.2.2.2.2.2.2.2.2.2))))))))) ∧ (¬ u_53.2.2.2.2.2.2.2.2.2.2.2.1 ≤ r_52 → (((1 : Int32) = 0 → K48 x_51 y2 (1 : Int32) u_53) ∧ (¬ (1 : Int32) = 0 → ((¬ u_53.2.2.2.2.2.2.2.2.2.2.2.2.2.1 = (-1 : Int32) → K48 x_51 y2 (1 : Int32) u_53) ∧ (u_53.2.2.2.2.2.2.2.2.2.2.2.2.2.1 = (-1 : Int32) → vp_in u_53.2.2.2.2.2.2.2.2.2.2.2.2.1 400 ∧ (((u_53.2.2.2.2.2.2.2.2.2.1 u_53.2.2.2.2.2.2.2.2.2.2.2.2.1.toNatClampNeg) = (59 : Int32) → ∀ x_71 : Int32, x_71 = (u_53.2.2.2.2.2.2.2.2.2.2.2.2.1 + (1 : Int32)) → K48 x_51 y2 (1 : Int32) (u_53.1, u_53.2.1, u_53.2.2.1, u_53.2.2.2.1, u_53.2.2.2.2.1, u_53.2.2.2.2.2.1, u_53.2.2.2.2.2.2.1, u_53.2.2.2.2.2.2.2.1, u_53.2.2.2.2.2.2.2.2.1, u_53.2.2.2.2.2.2.2.2.2.1, u_53.2.2.2.2.2.2.2.2.2.2.1, u_53.2.2.2.2.2.2.2.2.2.2.2.1, x_71, u_53.2.2.2.2.2.2.2.2.2.2.2.2.2)) ∧ (¬ (u_53.2.2.2.2.2.2.2.2.2.1 u_53.2.2.2.2.2.2.2.2.2.2.2.2.1.toNatClampNeg) = (59 : Int32) → s_X11_wrong u_53 u_53.2.2.2.2.2.2.2.2.2.2.2.2.1 (fun (u_74 : zModel) => ∀ x_75 : Int32, x_75 = (u_74.2.2.2.2.2.2.2.2.2.2.2.2.1 + (1 : Int32)) → K48 x_51 y2 (1 : Int32) (u_74.1, u_74.2.1, u_74.2.2.1, u_74.2.2.2.1, u_74.2.2.2.2.1, u_74.2.2.2.2.2.1, u_74.2.2.2.2.2.2.1, u_74.2.2.2.2.2.2.2.1, u_74.2.2.2.2.2.2.2.2.1, u_74.2.2.2.2.2.2.2.2.2.1, u_74.2.2.2.2.2.2.2.2.2.2.1, u_74.2.2.2.2.2.2.2.2.2.2.2.1, x_75, u_74.2.2.2.2.2.2.2.2.2.2.2.2.2)))))))))))) ∧ (z.2.2.2.2.2.2.2.2.2.2.2.2.2.1 = (-1 : Int32) → s_X11_act z (fun (r_77 : Int32) (u_78 : zModel) => ∀ x_79 : Int32, x_79 = y1 + (1 : Int32) → s_X11_here u_78 (fun (r_80 : Int32) (u_81 : zModel) => ((u_81.2.2.2.2.2.2.2.2.2.2.2.1 ≤ r_80 → (((0 : Int32) = 0 → K48 x_79 r_77 (0 : Int32) u_81) ∧ (¬ (0 : Int32) = 0 → ((¬ u_81.2.2.2.2.2.2.2.2.2.2.2.2.2.1 = (-1 : Int32) → K48 x_79 r_77 (0 : Int32) u_81) ∧ (u_81.2.2.2.2.2.2.2.2.2.2.2.2.2.1 = (-1 : Int32) → vp_in u_81.2.2.2.2.2.2.2.2.2.2.2.2.1 400 ∧ (((u_81.2.2.2.2.2.2.2.2.2.1 u_81.2.2.2.2.2.2.2.2.2.2.2.2.1.toNatClampNeg) = (59 : Int32) → ∀ x_88 : Int32, x_88 = (u_81.2.2.2.2.2.2.2.2.2.2.2.2.1 + (1 : Int32)) → K48 x_79 r_77 (0 : Int32) (u_81.1, u_81.2.1, u_81.2.2.1, u_81.2.2.2.1, u_81.2.2.2.2.1, u_81.2.2.2.2.2.1, u_81.2.2.2.2.2.2.1, u_81.2.2.2.2.2.2.2.1, u_81.2.2.2.2.2.2.2.2.1, u_81.2.2.2.2.2.2.2.2.2.1, u_81.2.2.2.2.2.2.2.2.2.2.1, u_81.2.2.2.2.2.2.2.2.2.2.2.1, x_88, u_81.2.2.2.2.2.2.2.2.2.2.2.2.2)) ∧ (¬ (u_81.2.2.2.2.2.2.2.2.2.1 u_81.2.2.2.2.2.2.2.2.2.2.2.2.1.toNatClampNeg) = (59 : Int32) → s_X11_wrong u_81 u_81.2.2.2.2.2.2.2.2.2.2.2.2.1 (fun (u_91 : zModel) => ∀ x_92 : Int32, x_92 = (u_91.2.2.2.2.2.2.2.2.2.2.2.2.1 + (1 : Int32)) → K48 x_79 r_77 (0 : Int32) (u_91.1, u_91.2.1, u_91.2.2.1, u_91.2.2.2.1, u_91.2.2.2.2.1, u_91.2.2.2.2.2.1, u_91.2.2.2.2.2.2.1, u_91.2.2.2.2.2.2.2.1, u_91.2.2.2.2.2.2.2.2.1, u_91.2.2.2.2.2.2.2.2.2.1, u_91.2.2.2.2.2.2.2.2.2.2.1, u_91.2.2.2.2.2.2.2.2.2.2.2.1, x_92, u_91.2.2.2.2.2.2.2.2.2.2.2.2.2))))))))) ∧ (¬ u_81.2.2.2.2.2.2.2.2.2.2.2.1 ≤ r_80 → (((1 : Int32) = 0 → K48 x_79 r_77 (1 : Int32) u_81) ∧ (¬ (1 : Int32) = 0 → ((¬ u_81.2.2.2.2.2.2.2.2.2.2.2.2.2.1 = (-1 : Int32) → K48 x_79 r_77 (1 : Int32) u_81) ∧ (u_81.2.2.2.2.2.2.2.2.2.2.2.2.2.1 = (-1 : Int32) → vp_in u_81.2.2.2.2.2.2.2.2.2.2.2.2.1 400 ∧ (((u_81.2.2.2.2.2.2.2.2.2.1 u_81.2.2.2.2.2.2.2.2.2.2.2.2.1.toNatClampNeg) = (59 : Int32) → ∀ x_99 : Int32, x_99 = (u_81.2.2.2.2.2.2.2.2.2.2.2.2.1 + (1 : Int32)) → K48 x_79 r_77 (1 : Int32) (u_81.1, u_81.2.1, u_81.2.2.1, u_81.2.2.2.1, u_81.2.2.2.2.1, u_81.2.2.2.2.2.1, u_81.2.2.2.2.2.2.1, u_81.2.2.2.2.2.2.2.1, u_81.2.2.2.2.2.2.2.2.1, u_81.2.2.2.2.2.2.2.2.2.1, u_81.2.2.2.2.2.2.2.2.2.2.1, u_81.2.2.2.2.2.2.2.2.2.2.2.1, x_99, u_81.2.2.2.2.2.2.2.2.2.2.2.2.2)) ∧ (¬ (u_81.2.2.2.2.2.2.2.2.2.1 u_81.2.2.2.2.2.2.2.2.2.2.2.2.1.toNatClampNeg) = (59 : Int32) → s_X11_wrong u_81 u_81.2.2.2.2.2.2.2.2.2.2.2.2.1 (fun (u_102 : zModel) => ∀ x_103 : Int32, x_103 = (u_102.2.2.2.2.2.2.2.2.2.2.2.2.1 + (1 : Int32)) → K48 x_79 r_77 (1 : Int32) (u_102.1, u_102.2.1, u_102.2.2.1, u_102.2.2.2.1, u_102.2.2.2.2.1, u_102.2.2.2.2.2.1, u_102.2.2.2.2.2.2.1, u_102.2.2.2.2.2.2.2.1, u_102.2.2.2.2.2.2.2.2.1, u_102.2.2.2.2.2.2.2.2.2.1, u_102.2.2.2.2.2.2.2.2.2.2.1, u_102.2.2.2.2.2.2.2.2.2.2.2.1, x_103, u_102.2.2.2.2.2.2.2.2.2.2.2.2.2))))))))))))))) ∧ (y1 = (14 : Int32) → s_X11_here z (fun (r_105 : Int32) (u_106 : zModel) => s_X11_wrong u_106 r_105 (fun (u_108 : zModel) => ((¬ u_108.2.2.2.2.2.2.2.2.2.2.2.2.2.1 = (-1 : Int32) → ∀ x_110 : Int32, x_110 = y1 + (1 : Int32) → s_X11_here u_108 (fun (r_111 : Int32) (u_112 : zModel) => ((u_112.2.2.2.2.2.2.2.2.2.2.2.1 ≤ r_111 → (((0 : Int32) = 0 → K48 x_110 y2 (0 : Int32) u_112) ∧ (¬ (0 : Int32) = 0 → ((¬ u_112.2.2.2.2.2.2.2.2.2.2.2.2.2.1 = (-1 : Int32) → K48 x_110 y2 (0 : Int32) u_112) ∧ (u_112.2.2.2.2.2.2.2.2.2.2.2.2.2.1 = (-1 : Int32) → vp_in u_112.2.2.2.2.2.2.2.2.2.2.2.2.1 400 ∧ (((u_112.2.2.2.2.2.2.2.2.2.1 u_112.2.2.2.2.2.2.2.2.2.2.2.2.1.toNatClampNeg) = (59 : Int32) → ∀ x_119 : Int32, x_119 = (u_112.2.2.2.2.2.2.2.2.2.2.2.2.1 + (1 : Int32)) → K48 x_110 y2 (0 : Int32) (u_112.1, u_112.2.1, u_112.2.2.1, u_112.2.2.2.1, u_112.2.2.2.2.1, u_112.2.2.2.2.2.1, u_112.2.2.2.2.2.2.1, u_112.2.2.2.2.2.2.2.1, u_112.2.2.2.2.2.2.2.2.1, u_112.2.2.2.2.2.2.2.2.2.1, u_112.2.2.2.2.2.2.2.2.2.2.1, u_112.2.2.2.2.2.2.2.2.2.2.2.1, x_119, u_112.2.2.2.2.2.2.2.2.2.2.2.2.2)) ∧ (¬ (u_112.2.2.2.2.2.2.2.2.2.1 u_112.2.2.2.2.2.2.2.2.2.2.2.2.1.toNatClampNeg) = (59 : Int32) → s_X11_wrong u_112 u_112.2.2.2.2.2.2.2.2.2.2.2.2.1 (fun (u_122 : zModel) => ∀ x_123 : Int32, x_123 = (u_122.2.2.2.2.2.2.2.2.2.2.2.2.1 + (1 : Int32)) → K48 x_110 y2 (0 : Int32) (u_122.1, u_122.2.1, u_122.2.2.1, u_122.2.2.2.1, u_122.2.2.2.2.1, u_122.2.2.2.2.2.1, u_122.2.2.2.2.2.2.1, u_122.2.2.2.2.2.2.2.1, u_122.2.2.2.2.2.2.2.2.1, u_122.2.2.2.2.2.2.2.2.2.1, u_122.2.2.2.2.2.2.2.2.2.2.1, u_122.2.2.2.2.2.2.2.2.2.2.2.1, x_123, u_122.2.2.2.2.2.2.2.2.2.2.2.2.2))))))))) ∧ (¬ u_112.2.2.2.2.2.2.2.2.2.2.2.1 ≤ r_111 → (((1 : Int32) = 0 → K48 x_110 y2 (1 : Int32) u_112) ∧ (¬ (1 : Int32) = 0 → ((¬ u_112.2.2.2.2.2.2.2.2.2.2.2.2.2.1 = (-1 : Int32) → K48 x_110 y2 (1 : Int32) u_112) ∧ (u_112.2.2.2.2.2.2.2.2.2.2.2.2.2.1 = (-1 : Int32) → vp_in u_112.2.2.2.2.2.2.2.2.2.2.2.2.1 400 ∧ (((u_112.2.2.2.2.2.2.2.2.2.1 u_112.2.2.2.2.2.2.2.2.2.2.2.2.1.toNatClampNeg) = (59 : Int32) → ∀ x_130 : Int32, x_130 = (u_112.2.2.2.2.2.2.2.2.2.2.2.2.1 + (1 : Int32)) → K48 x_110 y2 (1 : Int32) (u_112.1, u_112.2.1, u_112.2.2.1, u_112.2.2.2.1, u_112.2.2.2.2.1, u_112.2.2.2.2.2.1, u_112.2.2.2.2.2.2.1, u_112.2.2.2.2.2.2.2.1, u_112.2.2.2.2.2.2.2.2.1, u_112.2.2.2.2.2.2.2.2.2.1, u_112.2.2.2.2.2.2.2.2.2.2.1, u_112.2.2.2.2.2.2.2.2.2.2.2.1, x_130, u_112.2.2.2.2.2.2.2.2.2.2.2.2.2)) ∧ (¬ (u_112.2.2.2.2.2.2.2.2.2.1 u_112.2.2.2.2.2.2.2.2.2.2.2.2.1.toNatClampNeg) = (59 : Int32) → s_X11_wrong u_112 u_112.2.2.2.2.2.2.2.2.2.2.2.2.1 (fun (u_133 : zModel) => ∀ x_134 : Int32, x_134 = (u_133.2.2.2.2.2.2.2.2.2.2.2.2.1 + (1 : Int32)) → K48 x_110 y2 (1 : Int32) (u_133.1, u_133.2.1, u_133.2.2.1, u_133.2.2.2.1, u_133.2.2.2.2.1, u_133.2.2.2.2.2.1, u_133.2.2.2.2.2.2.1, u_133.2.2.2.2.2.2.2.1, u_133.2.2.2.2.2.2.2.2.1, u_133.2.2.2.2.2.2.2.2.2.1, u_133.2.2.2.2.2.2.2.2.2.2.1, u_133.2.2.2.2.2.2.2.2.2.2.2.1, x_134, u_133.2.2.2.2.2.2.2.2.2.2.2.2.2)))))))))))) ∧ (u_108.2.2.2.2.2.2.2.2.2.2.2.2.2.1 = (-1 : Int32) → s_X11_act u_108 (fun (r_136 : Int32) (u_137 : zModel) => ∀ x_138 : Int32, x_138 = y1 + (1 : Int32) → s_X11_here u_137 (fun (r_139 : Int32) (u_140 : zModel) => ((u_140.2.2.2.2.2.2.2.2.2.2.2.1 ≤ r_139 → (((0 : Int32) = 0 → K48 x_138 r_136 (0 : Int32) u_140) ∧ (¬ (0 : Int32) = 0 → ((¬ u_140.2.2.2.2.2.2.2.2.2.2.2.2.2.1 = (-1 : Int32) → K48 x_138 r_136 (0 : Int32) u_140) ∧ (u_140.2.2.2.2.2.2.2.2.2.2.2.2.2.1 = (-1 : Int32) → vp_in u_140.2.2.2.2.2.2.2.2.2.2.2.2.1 400 ∧ (((u_140.2.2.2.2.2.2.2.2.2.1 u_140.2.2.2.2.2.2.2.2.2.2.2.2.1.toNatClampNeg) = (59 : Int32) → ∀ x_147 : Int32, x_147 = (u_140.2.2.2.2.2.2.2.2.2.2.2.2.1 + (1 : Int32)) → K48 x_138 r_136 (0 : Int32) (u_140.1, u_140.2.1, u_140.2.2.1, u_140.2.2.2.1, u_140.2.2.2.2.1, u_140.2.2.2.2.2.1, u_140.2.2.2.2.2.2.1, u_140.2.2.2.2.2.2.2.1, u_140.2.2.2.2.2.2.2.2.1, u_140.2.2.2.2.2.2.2.2.2.1, u_140.2.2.2.2.2.2.2.2.2.2.1, u_140.2.2.2.2.2.2.2.2.2.2.2.1, x_147, u_140.2.2.2.2.2.2.2.2.2.2.2.2.2)) ∧ (¬ (u_140.2.2.2.2.2.2.2.2.2.1 u_140.2.2.2.2.2.2.2.2.2.2.2.2.1.toNatClampNeg) = (59 : Int32) → s_X11_wrong u_140 u_140.2.2.2.2.2.2.2.2.2.2.2.2.1 (fun (u_150 : zModel) => ∀ x_151 : Int32, x_151 = (u_150.2.2.2.2.2.2.2.2.2.2.2.2.1 + (1 : Int32)) → K48 x_138 r_136 (0 : Int32) (u_150.1, u_150.2.1, u_150.2.2.1, u_150.2.2.2.1, u_150.2.2.2.2.1, u_150.2.2.2.2.2.1, u_150.2.2.2.2.2.2.1, u_150.2.2.2.2.2.2.2.1, u_150.2.2.2.2.2.2.2.2.1, u_150.2.2.2.2.2.2.2.2.2.1, u_150.2.2.2.2.2.2.2.2.2.2.1, u_150.2.2.2.2.2.2.2.2.2.2.2.1, x_151, u_150.2.2.2.2.2.2.2.2.2.2.2.2.2))))))))) ∧ (¬ u_140.2.2.2.2.2.2.2.2.2.2.2.1 ≤ r_139 → (((1 : Int32) = 0 → K48 x_138 r_136 (1 : Int32) u_140) ∧ (¬ (1 : Int32) = 0 → ((¬ u_140.2.2.2.2.2.2.2.2.2.2.2.2.2.1 = (-1 : Int32) → K48 x_138 r_136 (1 : Int32) u_140) ∧ (u_140.2.2.2.2.2.2.2.2.2.2.2.2.2.1 = (-1 : Int32) → vp_in u_140.2.2.2.2.2.2.2.2.2.2.2.2.1 400 ∧ (((u_140.2.2.2.2.2.2.2.2.2.1 u_140.2.2.2.2.2.2.2.2.2.2.2.2.1.toNatClampNeg) = (59 : Int32) → ∀ x_158 : Int32, x_158 = (u_140.2.2.2.2.2.2.2.2.2.2.2.2.1 + (1 : Int32)) → K48 x_138 r_136 (1 : Int32) (u_140.1, u_140.2.1, u_140.2.2.1, u_140.2.2.2.1, u_140.2.2.2.2.1, u_140.2.2.2.2.2.1, u_140.2.2.2.2.2.2.1, u_140.2.2.2.2.2.2.2.1, u_140.2.2.2.2.2.2.2.2.1, u_140.2.2.2.2.2.2.2.2.2.1, u_140.2.2.2.2.2.2.2.2.2.2.1, u_140.2.2.2.2.2.2.2.2.2.2.2.1, x_158, u_140.2.2.2.2.2.2.2.2.2.2.2.2.2)) ∧ (¬ (u_140.2.2.2.2.2.2.2.2.2.1 u_140.2.2.2.2.2.2.2.2.2.2.2.2.1.toNatClampNeg) = (59 : Int32) → s_X11_wrong u_140 u_140.2.2.2.2.2.2.2.2.2.2.2.2.1 (fun (u_161 : zModel) => ∀ x_162 : Int32, x_162 = (u_161.2.2.2.2.2.2.2.2.2.2.2.2.1 + (1 : Int32)) → K48 x_138 r_136 (1 : Int32) (u_161.1, u_161.2.1, u_161.2.2.1, u_161.2.2.2.1, u_161.2.2.2.2.1, u_161.2.2.2.2.2.1, u_161.2.2.2.2.2.2.1, u_161.2.2.2.2.2.2.2.1, u_161.2.2.2.2.2.2.2.2.1, u_161.2.2.2.2.2.2.2.2.2.1, u_161.2.2.2.2.2.2.2.2.2.2.1, u_161.2.2.2.2.2.2.2.2.2.2.2.1, x_162, u_161.2.2.2.2.2.2.2.2.2.2.2.2.2))))))))))))))))))))))
theorem zc_X11_acts : zCalV RX11 yX11_acts cX11_acts 4 (some .int) 0 := ⟨q_im_X11_acts, q_se_X11_acts, q_in_X11, q_cd_X11_acts, ⟨by decide, by decide, by decide +kernel⟩, rfl⟩
abbrev rm_X11_acts : Room := { frames := 10, cells := 0, slots := 0, locals := 224 }
def v_X11_acts (u : zModel) (Q : Int32 → zModel → Prop) : Prop := ∃ I48 : Nat → Int32 → Int32 → Int32 → zModel → Prop, (∀ (n : Nat) (y1 : Int32) (y2 : Int32) (y3 : Int32) (z : zModel), I48 n y1 y2 y3 z → t_X11_acts_48 y1 y2 y3 z (fun q0 q1 q2 q3 => ∃ k : Nat, k < n ∧ I48 k q0 q1 q2 q3) Q) ∧ t_X11_acts_e u (fun q0 q1 q2 q3 => ∃ k : Nat, I48 k q0 q1 q2 q3) Q
abbrev qFa (z : zModel) : Int32 := z.2.2.2.2.2.2.2.2.2.2.2.2.2.1
abbrev qPo (z : zModel) : Int32 := z.2.2.2.2.2.2.2.2.2.2.2.2.1
abbrev qEn (z : zModel) : Int32 := z.2.2.2.2.2.2.2.2.2.2.2.1
theorem acT_wr {n' c' r : Int32} {w : zModel} {K : Int32 → Int32 → Int32 → zModel → Prop} (hf : ¬ qFa w = -1) (h : ∀ y, K n' c' y w) : acT n' c' r w K :=
  ⟨fun _ => ⟨fun _ => h _, fun _ => ⟨fun _ => h _, fun z => absurd z hf⟩⟩, fun _ => ⟨fun _ => h _, fun _ => ⟨fun _ => h _, fun z => absurd z hf⟩⟩⟩
theorem acT_go {n' c' r : Int32} {w : zModel} {K : Int32 → Int32 → Int32 → zModel → Prop} (hf : qFa w = -1) (h1 : qEn w ≤ r → K n' c' 0 w) (h2 : ¬ qEn w ≤ r → vp_in (qPo w) 400) (h3 : ¬ qEn w ≤ r → mTp w (qPo w).toNatClampNeg = 59 → K n' c' 1 (mAt w (qPo w + 1))) (h4 : ¬ qEn w ≤ r → ¬ mTp w (qPo w).toNatClampNeg = 59 → K n' c' 1 (mAt (mFt w (qPo w)) (qPo w + 1))) : acT n' c' r w K :=
  ⟨fun c => ⟨fun _ => h1 c, fun z => absurd rfl z⟩, fun c => ⟨fun z => absurd z (by decide), fun _ => ⟨fun z => absurd hf z, fun _ => ⟨h2 c, fun d x ex => by rw [ex]; exact h3 c d, fun d => ⟨fun z => absurd hf z, fun _ x ex => by rw [ex]; exact h4 c d⟩⟩⟩⟩⟩
theorem acE_ok {y1 : Int32} {z : zModel} {Q : Int32 → zModel → Prop} (hf : qFa z = -1) (h1 : y1 ≤ 0 → Q y1 ((0 : Int32), z.2.1, z.2.2.1, z.2.2.2.1, z.2.2.2.2.1, z.2.2.2.2.2.1, (0 : Int32), z.2.2.2.2.2.2.2.1, z.2.2.2.2.2.2.2.2.1, z.2.2.2.2.2.2.2.2.2)) (h2 : ¬ y1 ≤ 0 → Q y1 ((0 : Int32), z.2.1, z.2.2.1, z.2.2.2.1, z.2.2.2.2.1, z.2.2.2.2.2.1, (0 : Int32), z.2.2.2.2.2.2.2.1, (0 : Int32), z.2.2.2.2.2.2.2.2.2)) (y2 : Int32) : acE y1 y2 z Q :=
  ⟨fun q => absurd hf q, fun _ => ⟨fun q => absurd rfl q, fun _ => ⟨fun c y ey => by rw [ey]; exact h1 c, fun c => h2 c⟩⟩⟩
theorem acE_no {y1 y2 : Int32} {z : zModel} {Q : Int32 → zModel → Prop} (hf : ¬ qFa z = -1) (h1 : y2 ≤ 0 → ∀ f : Nat → Int32, (∀ j, j < 5497 → f j = z.2.2.1 j) → Q 0 ((1 : Int32), f, z.2.2)) (h2 : ¬ y2 ≤ 0 → ∀ f : Nat → Int32, (∀ j, j < 5497 → f j = z.2.2.1 j) → Q 0 ((1 : Int32), f, z.2.2.1, z.2.2.2.1, z.2.2.2.2.1, z.2.2.2.2.2.1, z.2.2.2.2.2.2.1, z.2.2.2.2.2.2.2.1, y2, z.2.2.2.2.2.2.2.2.2)) : acE y1 y2 z Q :=
  ⟨fun _ => ⟨fun _ => ⟨fun d y ey f hf' => by rw [ey]; exact h1 d f hf', fun d f hf' => h2 d f hf'⟩, fun q => absurd q (by decide)⟩, fun q => absurd q hf⟩
theorem acts48 {y1 y2 y3 : Int32} {z : zModel} {K : Int32 → Int32 → Int32 → zModel → Prop} {Q : Int32 → zModel → Prop} (hE : y3 = 0 ∨ ¬ qFa z = -1 → acE y1 y2 z Q)
    (hA : ¬ y3 = 0 → qFa z = -1 → ¬ y1 = 14 → s_X11_act z (fun r u => ∀ x : Int32, x = y1 + 1 → s_X11_here u (fun r2 u2 => acT x r r2 u2 K)))
    (hW : ¬ y3 = 0 → qFa z = -1 → y1 = 14 → s_X11_here z (fun r u => s_X11_wrong u r (fun u' => (¬ qFa u' = -1 → ∀ x : Int32, x = y1 + 1 → s_X11_here u' (fun r2 u2 => acT x y2 r2 u2 K)) ∧ (qFa u' = -1 → s_X11_act u' (fun r u => ∀ x : Int32, x = y1 + 1 → s_X11_here u (fun r2 u2 => acT x r r2 u2 K)))))) : t_X11_acts_48 y1 y2 y3 z K Q :=
  ⟨fun c => hE (Or.inl c), fun c => ⟨fun d => hE (Or.inr d), fun d => ⟨fun e => ⟨fun q => absurd d q, fun _ => hA c d e⟩, fun e => hW c d e⟩⟩⟩
/-- where one stands when an ACT is read -/
def txA (t : Nat → Int32) (N n p : Nat) : Nat := if n = 0 then pSk t N p else pSk t N p + 1
theorem txA_sk (t : Nat → Int32) (N n p : Nat) : pSk t N (txA t N n p) = txX t N n p := by
  unfold txA txX
  split
  · exact pSk_idem t N p
  · rfl
theorem mA_at (u : zModel) (m : Nat → Int32) (a b : Nat) (x : Int32) : mAt (mA u m a x) (nI b) = mA u m b x := rfl
def mAp (u : zModel) (m' : Nat → Int32) (p x : Int32) : zModel := (u.1, m', u.2.2.1, u.2.2.2.1, u.2.2.2.2.1, u.2.2.2.2.2.1, u.2.2.2.2.2.2.1, u.2.2.2.2.2.2.2.1, u.2.2.2.2.2.2.2.2.1, u.2.2.2.2.2.2.2.2.2.1, u.2.2.2.2.2.2.2.2.2.2.1, u.2.2.2.2.2.2.2.2.2.2.2.1, p, u.2.2.2.2.2.2.2.2.2.2.2.2.2.1, u.2.2.2.2.2.2.2.2.2.2.2.2.2.2.1, u.2.2.2.2.2.2.2.2.2.2.2.2.2.2.2.1, x)
theorem mAp_ft (u : zModel) (m : Nat → Int32) (p q x y : Int32) : mAt (mFt (mAp u m p x) y) q = mFt (mAp u m q x) y := rfl
theorem mA_ft (u : zModel) (m : Nat → Int32) (a b : Nat) (x y : Int32) : mAt (mFt (mA u m a x) y) (nI b) = mFt (mA u m b x) y := mAp_ft u m (nI a) (nI b) x y
theorem mA_2 (u : zModel) (m m' : Nat → Int32) (a b : Nat) (x y : Int32) : mA (mA u m a x) m' b y = mA u m' b y := rfl
/-- the state from which a text is done -/
def acW (u : zModel) (N : Nat) (f : Nat → Int32) : zModel := (u.1, u.2.1, f, u.2.2.2.1, u.2.2.2.2.1, u.2.2.2.2.2.1, u.2.2.2.2.2.2.1, u.2.2.2.2.2.2.2.1, u.2.2.2.2.2.2.2.2.1, u.2.2.2.2.2.2.2.2.2.1, (0 : Int32), nI N, (0 : Int32), (-1 : Int32), u.2.2.2.2.2.2.2.2.2.2.2.2.2.2)
/-- what holds at the head -/
def acI (u : zModel) (G : zG) (B N k : Nat) (y1 y2 y3 : Int32) (z : zModel) : Prop := ∃ f : Nat → Int32, (∀ j, j < 5497 → f j = u.2.1 j) ∧
    ((∃ (n p : Nat) (v : zState) (m' : Nat → Int32) (x : Int32), n ≤ 14 ∧ k = 20 - n ∧ y1 = nI n ∧ y2 = 0 ∧ y3 = 1 ∧ p ≤ N ∧ pSk (mTp u) N p < N ∧ (0 < n → mTp u (pSk (mTp u) N p) = 59) ∧ okB (B + 20 * n) v ∧ mRel v m' ∧ z = mA (acW u N f) m' (txA (mTp u) N n p) x ∧ txF (mTp u) N 16 0 0 (gNow G) = txF (mTp u) N (16 - n) n p v) ∨
     (∃ (n : Nat) (v : zState) (m' : Nat → Int32) (a : Nat) (x : Int32), n ≤ 16 ∧ k = 0 ∧ y1 = nI n ∧ y2 = 0 ∧ y3 = 0 ∧ mRel v m' ∧ z = mA (acW u N f) m' a x ∧ txF (mTp u) N 16 0 0 (gNow G) = (-1, 0, n, v)) ∨
     (∃ (w n : Nat) (v : zState) (m' : Nat → Int32) (a : Nat) (x : Int32), k = 0 ∧ ¬ y2 < 0 ∧ w ≤ 400 ∧ z = mFt (mA (acW u N f) m' a x) (nI w) ∧ txF (mTp u) N 16 0 0 (gNow G) = (nI w, y2, n, v)))
theorem acW_tx (u : zModel) {N a : Nat} (f m : Nat → Int32) (x : Int32) (hN : N ≤ 400) (ha : a ≤ N) : mTx (mA (acW u N f) m a x) N a := ⟨hN, ha, rfl, rfl⟩
theorem acW_tf (u : zModel) {N a : Nat} (f m : Nat → Int32) (x y : Int32) (hN : N ≤ 400) (ha : a ≤ N) : mTx (mFt (mA (acW u N f) m a x) y) N a := ⟨hN, ha, rfl, rfl⟩
theorem acW_tp (u : zModel) (N a : Nat) (f m : Nat → Int32) (x : Int32) : mTp (mA (acW u N f) m a x) = mTp u := rfl
theorem acW_tq (u : zModel) (N a : Nat) (f m : Nat → Int32) (x y : Int32) : mTp (mFt (mA (acW u N f) m a x) y) = mTp u := rfl
theorem acW_fa (u : zModel) (N a : Nat) (f m : Nat → Int32) (x : Int32) : qFa (mA (acW u N f) m a x) = -1 := rfl
theorem acW_en (u : zModel) (N a : Nat) (f m : Nat → Int32) (x : Int32) : qEn (mA (acW u N f) m a x) = nI N := rfl
theorem acW_po (u : zModel) (N a : Nat) (f m : Nat → Int32) (x : Int32) : qPo (mA (acW u N f) m a x) = nI a := rfl
theorem acW_fq (u : zModel) (N a : Nat) (f m : Nat → Int32) (x y : Int32) : qFa (mFt (mA (acW u N f) m a x) y) = y := rfl
/-- the end of a text that is right -/
theorem acE_B {u : zModel} {G : zG} {N n a : Nat} {f m' : Nat → Int32} {v : zState} {x : Int32} {Q : Int32 → zModel → Prop} (hm : mG G u) (hn : n ≤ 16) (hr : mRel v m') (hQ : ∀ u' : zModel, mG (gText G v n) u' → u'.1 = 0 → Q (nI n) u') : acE (nI n) 0 (mA (acW u N f) m' a x) Q := by
  obtain ⟨g1, g2, g3, ⟨g4, g5⟩, ⟨g6, g7⟩, g8, g9⟩ := hm
  refine acE_ok rfl (fun c => hQ _ ?_ rfl) (fun c => hQ _ ?_ rfl) 0
  · have hn0 : n = 0 := by
      have := (nI_leI (a := n) (b := 0) (by omega) (by decide)).mp c
      omega
    refine ⟨hr, g2, g3, ⟨rfl, fun i hi => absurd hi (Nat.not_lt_zero i)⟩, ⟨rfl, fun j hj => absurd hj (Nat.not_lt_zero j)⟩, rfl, ?_⟩
    show u.2.2.2.2.2.2.2.2.1 = if n = 0 then gWy G else 0
    rw [if_pos hn0]; exact g9
  · have hn0 : ¬ n = 0 := fun q => c (by rw [q]; decide)
    refine ⟨hr, g2, g3, ⟨rfl, fun i hi => absurd hi (Nat.not_lt_zero i)⟩, ⟨rfl, fun j hj => absurd hj (Nat.not_lt_zero j)⟩, rfl, ?_⟩
    show (0 : Int32) = if n = 0 then gWy G else 0
    rw [if_neg hn0]
/-- the end of one that is wrong -/
theorem acE_C {u : zModel} {G : zG} {B N w a : Nat} {f m' : Nat → Int32} {x y1 c : Int32} {Q : Int32 → zModel → Prop} (hG : okG B G) (hm : mG G u) (hfe : ∀ j, j < 5497 → f j = u.2.1 j) (hc : ¬ c < 0) (hw : w ≤ 400) (hQ : ∀ u' : zModel, mG (gWrong G (nI w) c) u' → u'.1 = 1 → Q 0 u') : acE y1 c (mFt (mA (acW u N f) m' a x) (nI w)) Q := by
  obtain ⟨g1, g2, g3, ⟨g4, g5⟩, ⟨g6, g7⟩, g8, g9⟩ := hm
  have hrf : ∀ f' : Nat → Int32, (∀ j, j < 5497 → f' j = f j) → mRel (gNow G) f' := fun f' h => hG.1.same g1 (fun j hj => (h j hj).trans (hfe j hj))
  refine acE_no (n_neg (n := w) (by omega)) (fun d f' hf' => hQ _ ?_ rfl) (fun d f' hf' => hQ _ ?_ rfl)
  · refine ⟨hrf f' hf', g2, g3, ⟨g4, g5⟩, ⟨rfl, fun j hj => absurd hj (Nat.not_lt_zero j)⟩, rfl, ?_⟩
    show u.2.2.2.2.2.2.2.2.1 = if c = 0 then gWy G else c
    by_cases c0 : c = 0
    · rw [if_pos c0]; exact g9
    · exact absurd d (i0_of c0 hc)
  · refine ⟨hrf f' hf', g2, g3, ⟨g4, g5⟩, ⟨rfl, fun j hj => absurd hj (Nat.not_lt_zero j)⟩, rfl, ?_⟩
    show c = if c = 0 then gWy G else c
    rw [if_neg (fun q => d (by rw [q]; decide))]
def acK (u : zModel) (G : zG) (B N n : Nat) : Int32 → Int32 → Int32 → zModel → Prop := fun q0 q1 q2 q3 => ∃ k : Nat, k < n ∧ acI u G B N k q0 q1 q2 q3
/-- behind a wrong one -/
theorem ac_wr {u : zModel} {G : zG} {B N k w n9 a9 : Nat} {f m9 : Nat → Int32} {c n' x9 : Int32} {v9 : zState} (hk : 0 < k) (hN : N ≤ 400) (hfe : ∀ j, j < 5497 → f j = u.2.1 j) (h1 : a9 ≤ N) (h2 : ¬ c < 0) (h3 : w ≤ 400) (h4 : txF (mTp u) N 16 0 0 (gNow G) = (nI w, c, n9, v9)) : s_X11_here (mFt (mA (acW u N f) m9 a9 x9) (nI w)) (fun r w1 => acT n' c r w1 (acK u G B N k)) := by
  refine ⟨N, a9, acW_tf u f m9 x9 (nI w) hN h1, ?_⟩
  rw [mA_ft]
  exact acT_wr (n_neg (n := w) (by omega)) (fun y => ⟨0, hk, f, hfe, Or.inr (Or.inr ⟨w, n9, v9, m9, _, x9, rfl, h2, h3, rfl, h4⟩)⟩)
/-- behind an ACT that was done -/
theorem ac_go {u : zModel} {G : zG} {B N n e fm : Nat} {f m2 : Nat → Int32} {x2 y : Int32} {v2 : zState} (hn : n < 14) (hN : N ≤ 400) (hfe : ∀ j, j < 5497 → f j = u.2.1 j) (he : e ≤ N) (hok : okB (B + 20 * n + 20) v2) (hm2 : mRel v2 m2) (ey : y = nI n + 1) (ef : fm + 1 + n = 15) (et : txF (mTp u) N 16 0 0 (gNow G) = txF (mTp u) N (fm + 1) (n + 1) e v2) : s_X11_here (mA (acW u N f) m2 e x2) (fun r w1 => acT y 0 r w1 (acK u G B N (20 - n))) := by
  refine ⟨N, e, acW_tx u f m2 x2 hN he, ?_⟩
  rw [mA_at, acW_tp]
  have hq2 := pSk_le (mTp u) he
  have et2 := et.trans (txF_s (mTp u) N fm (n + 1) e v2)
  refine acT_go rfl (fun c => ?_) (fun c => ?_) (fun c d => ?_) (fun c d => ?_)
  · rw [acW_en] at c
    have := (nI_leI (by omega) (by omega)).mp c
    rw [if_pos (show ¬ pSk (mTp u) N e < N by omega)] at et2
    exact ⟨0, by omega, f, hfe, Or.inr (Or.inl ⟨n + 1, v2, m2, _, x2, by omega, rfl, by rw [ey, nI_1], rfl, rfl, hm2, rfl, et2⟩)⟩
  · rw [acW_en] at c
    have : ¬ N ≤ pSk (mTp u) N e := fun z => c (nI_le z (by omega))
    rw [acW_po]
    exact vp_in_nI (by omega) (by decide)
  · rw [acW_en] at c
    have hlt2 : pSk (mTp u) N e < N := by
      have : ¬ N ≤ pSk (mTp u) N e := fun z => c (nI_le z (by omega))
      omega
    rw [acW_po, acW_tp, nI_clamp (by omega)] at d
    rw [acW_po, nI_1, mA_at]
    have eA : pSk (mTp u) N e + 1 = txA (mTp u) N (n + 1) e := (if_neg (by omega)).symm
    rw [eA]
    exact ⟨20 - (n + 1), by omega, f, hfe, Or.inl ⟨n + 1, e, v2, m2, x2, by omega, rfl, by rw [ey, nI_1], rfl, rfl, he, hlt2, fun _ => d, by rw [show B + 20 * (n + 1) = B + 20 * n + 20 by omega]; exact hok, hm2, rfl, by rw [et, show 16 - (n + 1) = fm + 1 by omega]⟩⟩
  · rw [acW_en] at c
    have hlt2 : pSk (mTp u) N e < N := by
      have : ¬ N ≤ pSk (mTp u) N e := fun z => c (nI_le z (by omega))
      omega
    rw [acW_po, acW_tp, nI_clamp (by omega)] at d
    rw [if_neg (fun z => z hlt2), if_pos ⟨Nat.succ_pos n, d⟩] at et2
    rw [acW_po, nI_1, mA_ft]
    exact ⟨0, by omega, f, hfe, Or.inr (Or.inr ⟨pSk (mTp u) N e, n + 1, v2, m2, _, x2, rfl, by decide, by omega, rfl, et2⟩)⟩
def s_X11_acts (u : zModel) (Q : Int32 → zModel → Prop) : Prop := ∃ (B : Nat) (G : zG), okG B G ∧ B + 280 ≤ 400000 ∧ mG G u ∧ ∀ u' : zModel, mG (fActs G).2.2 u' → u'.1 = (fActs G).1 → Q (fActs G).2.1 u'
theorem ac_A {u : zModel} {G : zG} {B N n p : Nat} {f m' : Nat → Int32} {x : Int32} {v : zState} {Q : Int32 → zModel → Prop} (hB : B + 280 ≤ 400000) (hN : N ≤ 400) (hfe : ∀ j, j < 5497 → f j = u.2.1 j) (hn : n ≤ 14) (hp : p ≤ N) (hlt : pSk (mTp u) N p < N) (hsep : 0 < n → mTp u (pSk (mTp u) N p) = 59) (hv : okB (B + 20 * n) v) (hr : mRel v m') (et : txF (mTp u) N 16 0 0 (gNow G) = txF (mTp u) N (16 - n) n p v) : t_X11_acts_48 (nI n) 0 1 (mA (acW u N f) m' (txA (mTp u) N n p) x) (acK u G B N (20 - n)) Q := by
  have hX := txX_le (mTp u) (n := n) hlt
  have hA : txA (mTp u) N n p ≤ N := by
    unfold txA
    split <;> omega
  have hsk := txA_sk (mTp u) N n p
  obtain ⟨fl, efl⟩ : ∃ fl, 16 - n = fl + 1 := ⟨15 - n, by omega⟩
  rw [efl] at et
  have et := et.trans (txF_s (mTp u) N fl n p v)
  rw [if_neg (fun z => z hlt), if_neg (fun z => z.2 (hsep z.1))] at et
  generalize txA (mTp u) N n p = a at hA hsk ⊢
  generalize txX (mTp u) N n p = X at hX hsk et
  refine acts48 (fun c => ?_) (fun _ _ c14 => ?_) (fun _ _ c14 => ?_)
  · exact (c.elim (fun q => absurd q (by decide)) (fun q => q (acW_fa u N a f m' x))).elim
  · have hn14 : ¬ 14 ≤ n := fun q => c14 (by rw [show n = 14 by omega]; rfl)
    rw [if_neg hn14] at et
    refine ⟨B + 20 * n, v, N, a, hv, by omega, hr, acW_tx u f m' x hN hA, acW_fa u N a f m' x, ?_, ?_⟩
    · rw [acW_tp, hsk]
      refine fun ha => ⟨fun h0 m2 x2 hm2 y ey => ?_, fun h0 m2 a2 x2 ha2 y ey => ?_⟩
      · rw [if_neg (by omega), if_pos h0] at et
        rw [mA_2]
        obtain ⟨fm, efm⟩ : ∃ fm, fl = fm + 1 := ⟨14 - n, by omega⟩
        rw [efm] at et
        exact ac_go (by omega) hN hfe (nEnd_le (mTp u) (wdE_le (mTp u) hX) _) (okB_doT hv (by omega) ha h0) hm2 ey (by omega) et
      · rw [if_neg (by omega), if_neg h0] at et
        rw [mA_2]
        exact ac_wr (by omega) hN hfe ha2 (doA_pos _ _ _ _ _ _) (by omega) et
    · rw [acW_tp, hsk]
      intro ha m2 a2 x2 ha2 y ey
      rw [if_pos ha] at et
      have := aWr_le (mTp u) hX
      rw [mA_2]
      exact ac_wr (by omega) hN hfe ha2 (by decide) (by omega) et
  · have hn14 : n = 14 := (nI_eq (by omega) (by decide)).mp (show nI n = nI 14 from c14)
    rw [if_pos (show 14 ≤ n by omega)] at et
    refine ⟨N, a, acW_tx u f m' x hN hA, ?_⟩
    rw [mA_at, acW_tp, hsk]
    refine ⟨fun z => absurd (acW_fa u N X f m' x) z, fun _ => ?_⟩
    show (¬ qFa (mFt (mA (acW u N f) m' X x) (nI X)) = -1 → ∀ y : Int32, y = nI n + 1 → s_X11_here (mFt (mA (acW u N f) m' X x) (nI X)) (fun r2 u2 => acT y 0 r2 u2 (acK u G B N (20 - n)))) ∧ (qFa (mFt (mA (acW u N f) m' X x) (nI X)) = -1 → s_X11_act (mFt (mA (acW u N f) m' X x) (nI X)) (fun r u' => ∀ y : Int32, y = nI n + 1 → s_X11_here u' (fun r2 u2 => acT y r r2 u2 (acK u G B N (20 - n)))))
    refine ⟨fun _ y ey => ac_wr (by omega) hN hfe hX (by decide) (by omega) et, fun z => ?_⟩
    rw [acW_fq] at z
    exact absurd z (n_neg (by omega))
theorem st_X11_acts {u : zModel} {Q : Int32 → zModel → Prop} (h : s_X11_acts u Q) : v_X11_acts u Q := by
  obtain ⟨B, G, hG, hB, hm, hQ⟩ := h
  have g1 := hm.1
  have g6 := hm.2.2.2.2.1.1
  have g7 := hm.2.2.2.2.1.2
  have hN : gTpN G ≤ 400 := hG.2.2.2
  generalize eN : gTpN G = N at g6 g7 hN
  have etx : txt G = txF (mTp u) N 16 0 0 (gNow G) := by
    unfold txt
    rw [eN]
    exact (txF_c g7 16 0 0 (gNow G) (by omega)).symm
  unfold fActs at hQ
  rw [etx] at hQ
  refine ⟨acI u G B N, ?_, ?_⟩
  · rintro k y1 y2 y3 z ⟨f, hfe, ⟨n, p, v, m', x, hn, rfl, rfl, rfl, rfl, hp, hlt, hsep, hv, hr, rfl, et⟩ | ⟨n, v, m', a, x, hn, rfl, rfl, rfl, rfl, hr, rfl, et⟩ | ⟨w, n, v, m', a, x, rfl, hc, hw, rfl, et⟩⟩
    · exact ac_A hB hN hfe hn hp hlt hsep hv hr et
    · rw [et] at hQ
      have hQ : ∀ u' : zModel, mG (gText G v n) u' → u'.1 = 0 → Q (nI n) u' := hQ
      exact acts48 (fun _ => acE_B hm hn hr hQ) (fun q => absurd rfl q) (fun q => absurd rfl q)
    · rw [et, if_neg (n_neg (n := w) (by omega))] at hQ
      have hQ : ∀ u' : zModel, mG (gWrong G (nI w) y2) u' → u'.1 = 1 → Q 0 u' := hQ
      exact acts48 (fun _ => acE_C hG hm hfe hc hw hQ) (fun _ q => absurd q (by rw [acW_fq]; exact n_neg (by omega))) (fun _ q => absurd q (by rw [acW_fq]; exact n_neg (by omega)))
  · intro x1 ex1 f hf
    have hf : ∀ j, j < 5497 → f j = u.2.1 j := hf
    have ex1 : x1 = nI N := ex1.trans g6
    subst ex1
    have hq := pSk_le (mTp u) (Nat.zero_le N)
    refine ⟨N, 0, ⟨hN, Nat.zero_le _, rfl, rfl⟩, ?_⟩
    show (nI N ≤ nI (pSk (mTp u) N 0) → ∃ k : Nat, acI u G B N k (0 : Int32) (0 : Int32) (0 : Int32) (mA (acW u N f) u.2.1 (pSk (mTp u) N 0) (mLs u))) ∧ (¬ nI N ≤ nI (pSk (mTp u) N 0) → ∃ k : Nat, acI u G B N k (0 : Int32) (0 : Int32) (1 : Int32) (mA (acW u N f) u.2.1 (pSk (mTp u) N 0) (mLs u)))
    refine ⟨fun c => ?_, fun c => ?_⟩
    · have := (nI_leI (by omega) (by omega)).mp c
      refine ⟨0, f, hf, Or.inr (Or.inl ⟨0, gNow G, u.2.1, _, mLs u, by omega, rfl, rfl, rfl, rfl, g1, rfl, ?_⟩)⟩
      rw [txF_s, if_pos (show ¬ pSk (mTp u) N 0 < N by omega)]
    · have hlt : pSk (mTp u) N 0 < N := by
        have : ¬ N ≤ pSk (mTp u) N 0 := fun z => c (nI_le z (by omega))
        omega
      exact ⟨20 - 0, f, hf, Or.inl ⟨0, 0, gNow G, u.2.1, mLs u, by omega, rfl, rfl, rfl, rfl, Nat.zero_le _, hlt, fun q => absurd q (Nat.lt_irrefl 0), hG.1, g1, rfl, rfl⟩⟩
