def acX (y1 y2 : Int32) (t : zTape) (z : zCls) (Q : Int32 → zCls → Prop) (QX : String → zCls → Prop) : Prop := ((¬ y2 = 0 → ∀ x_8 : Int32, x_8 = t.2.2.2.2.2.1 → ((x_8 = (-1 : Int32) → s_X3_forget z.2.2.2.2.1 (fun (u_11 : zMem) => ((¬ y1 = 0 → Q y1 (z.1, z.2.1, z.2.2.1, z.2.2.2.1, u_11, (t.1, t.2.1, (0 : Int32), t.2.2.2.1, t.2.2.2.2.1, t.2.2.2.2.2.1, t.2.2.2.2.2.2), z.2.2.2.2.2.2.1, x_8, (0 : Int32))) ∧ (y1 = 0 → ∀ x_13 : Int32, x_13 = z.2.2.2.2.2.2.2.2 → Q y1 (z.1, z.2.1, z.2.2.1, z.2.2.2.1, u_11, (t.1, t.2.1, (0 : Int32), t.2.2.2.1, t.2.2.2.2.1, t.2.2.2.2.2.1, t.2.2.2.2.2.2), z.2.2.2.2.2.2.1, x_8, x_13))))) ∧ (¬ x_8 = (-1 : Int32) → s_X5_copyFrom z.1 z.2.1 (fun (u_15 : zState × zState) => ((¬ y2 = 0 → QX "java/lang/IllegalArgumentException" (u_15.1, u_15.2, z.2.2.1, z.2.2.2.1, z.2.2.2.2.1, (t.1, t.2.1, (0 : Int32), t.2.2.2.1, t.2.2.2.2.1, t.2.2.2.2.2.1, t.2.2.2.2.2.2), z.2.2.2.2.2.2.1, x_8, y2)) ∧ (y2 = 0 → ∀ x_17 : Int32, x_17 = z.2.2.2.2.2.2.2.2 → QX "java/lang/IllegalArgumentException" (u_15.1, u_15.2, z.2.2.1, z.2.2.2.1, z.2.2.2.2.1, (t.1, t.2.1, (0 : Int32), t.2.2.2.1, t.2.2.2.2.1, t.2.2.2.2.2.1, t.2.2.2.2.2.2), z.2.2.2.2.2.2.1, x_8, x_17))))))) ∧ (y2 = 0 → ∀ x_18 : Int32, x_18 = t.2.2.2.2.2.2 → ((x_18 = (-1 : Int32) → s_X3_forget z.2.2.2.2.1 (fun (u_21 : zMem) => ((¬ y1 = 0 → Q y1 (z.1, z.2.1, z.2.2.1, z.2.2.2.1, u_21, (t.1, t.2.1, (0 : Int32), t.2.2.2.1, t.2.2.2.2.1, t.2.2.2.2.2.1, t.2.2.2.2.2.2), z.2.2.2.2.2.2.1, x_18, (0 : Int32))) ∧ (y1 = 0 → ∀ x_23 : Int32, x_23 = z.2.2.2.2.2.2.2.2 → Q y1 (z.1, z.2.1, z.2.2.1, z.2.2.2.1, u_21, (t.1, t.2.1, (0 : Int32), t.2.2.2.1, t.2.2.2.2.1, t.2.2.2.2.2.1, t.2.2.2.2.2.2), z.2.2.2.2.2.2.1, x_18, x_23))))) ∧ (¬ x_18 = (-1 : Int32) → s_X5_copyFrom z.1 z.2.1 (fun (u_25 : zState × zState) => ((¬ y2 = 0 → QX "java/lang/IllegalArgumentException" (u_25.1, u_25.2, z.2.2.1, z.2.2.2.1, z.2.2.2.2.1, (t.1, t.2.1, (0 : Int32), t.2.2.2.1, t.2.2.2.2.1, t.2.2.2.2.2.1, t.2.2.2.2.2.2), z.2.2.2.2.2.2.1, x_18, y2)) ∧ (y2 = 0 → ∀ x_27 : Int32, x_27 = z.2.2.2.2.2.2.2.2 → QX "java/lang/IllegalArgumentException" (u_25.1, u_25.2, z.2.2.1, z.2.2.2.1, z.2.2.2.2.1, (t.1, t.2.1, (0 : Int32), t.2.2.2.1, t.2.2.2.2.1, t.2.2.2.2.2.1, t.2.2.2.2.2.2), z.2.2.2.2.2.2.1, x_18, x_27))))))))
def acN (y1 : Int32) (t : zTape) (z : zCls) (K22 : Int32 → Int32 → zCls → Prop) : Prop := s_X6_number t (0 : Int32) (fun r_74 : Int32 => s_X6_number t (1 : Int32) (fun r_75 : Int32 => s_X5_refusalOf z.1 t.2.2.2.2.1 r_74 r_75 (fun r_76 : Int32 => ((¬ r_76 = 0 → K22 y1 r_76 (z.1, z.2.1, z.2.2.1, z.2.2.2.1, z.2.2.2.2.1, t, z.2.2.2.2.2.2)) ∧ (r_76 = 0 → s_X6_number t (0 : Int32) (fun r_79 : Int32 => s_X6_number t (1 : Int32) (fun r_80 : Int32 => s_X6_number t (2 : Int32) (fun r_81 : Int32 => s_X6_number t (3 : Int32) (fun r_82 : Int32 => s_X5_perform z.1 t.2.2.2.2.1 r_79 r_80 r_81 r_82 (fun (r_83 : Int32) (u_84 : zState) => ∀ x_85 : Int32, x_85 = y1 + (1 : Int32) → K22 x_85 r_76 (u_84, z.2.1, z.2.2.1, z.2.2.2.1, z.2.2.2.2.1, t, z.2.2.2.2.2.2)))))))))))

def t_X10_acts_e (u : zCls) (K22 : Int32 → Int32 → zCls → Prop) (Q : Int32 → zCls → Prop) (QX : String → zCls → Prop) : Prop := s_X5_copyFrom u.2.1 u.1 (fun (u_2 : zState × zState) => s_X6_rewind u.2.2.2.2.2.1 (fun (u_4 : zTape) => K22 (0 : Int32) (0 : Int32) (u_2.2, u_2.1, u.2.2.1, u.2.2.2.1, u.2.2.2.2.1, u_4, u.2.2.2.2.2.2)))
def t_X10_acts_22 (y1 : Int32) (y2 : Int32) (z : zCls) (K22 : Int32 → Int32 → zCls → Prop) (Q : Int32 → zCls → Prop) (QX : String → zCls → Prop) : Prop := (((14 : Int32) < y1 → ((¬ y2 = 0 → ∀ x_8 : Int32, x_8 = z.2.2.2.2.2.1.2.2.2.2.2.1 → ((x_8 = (-1 : Int32) → s_X3_forget z.2.2.2.2.1 (fun (u_11 : zMem) => ((¬ y1 = 0 → Q y1 (z.1, z.2.1, z.2.2.1, z.2.2.2.1, u_11, (z.2.2.2.2.2.1.1, z.2.2.2.2.2.1.2.1, (0 : Int32), z.2.2.2.2.2.1.2.2.2.1, z.2.2.2.2.2.1.2.2.2.2.1, z.2.2.2.2.2.1.2.2.2.2.2.1, z.2.2.2.2.2.1.2.2.2.2.2.2), z.2.2.2.2.2.2.1, x_8, (0 : Int32))) ∧ (y1 = 0 → ∀ x_13 : Int32, x_13 = z.2.2.2.2.2.2.2.2 → Q y1 (z.1, z.2.1, z.2.2.1, z.2.2.2.1, u_11, (z.2.2.2.2.2.1.1, z.2.2.2.2.2.1.2.1, (0 : Int32), z.2.2.2.2.2.1.2.2.2.1, z.2.2.2.2.2.1.2.2.2.2.1, z.2.2.2.2.2.1.2.2.2.2.2.1, z.2.2.2.2.2.1.2.2.2.2.2.2), z.2.2.2.2.2.2.1, x_8, x_13))))) ∧ (¬ x_8 = (-1 : Int32) → s_X5_copyFrom z.1 z.2.1 (fun (u_15 : zState × zState) => ((¬ y2 = 0 → QX "java/lang/IllegalArgumentException" (u_15.1, u_15.2, z.2.2.1, z.2.2.2.1, z.2.2.2.2.1, (z.2.2.2.2.2.1.1, z.2.2.2.2.2.1.2.1, (0 : Int32), z.2.2.2.2.2.1.2.2.2.1, z.2.2.2.2.2.1.2.2.2.2.1, z.2.2.2.2.2.1.2.2.2.2.2.1, z.2.2.2.2.2.1.2.2.2.2.2.2), z.2.2.2.2.2.2.1, x_8, y2)) ∧ (y2 = 0 → ∀ x_17 : Int32, x_17 = z.2.2.2.2.2.2.2.2 → QX "java/lang/IllegalArgumentException" (u_15.1, u_15.2, z.2.2.1, z.2.2.2.1, z.2.2.2.2.1, (z.2.2.2.2.2.1.1, z.2.2.2.2.2.1.2.1, (0 : Int32), z.2.2.2.2.2.1.2.2.2.1, z.2.2.2.2.2.1.2.2.2.2.1, z.2.2.2.2.2.1.2.2.2.2.2.1, z.2.2.2.2.2.1.2.2.2.2.2.2), z.2.2.2.2.2.2.1, x_8, x_17))))))) ∧ (y2 = 0 → ∀ x_18 : Int32, x_18 = z.2.2.2.2.2.1.2.2.2.2.2.2 → ((x_18 = (-1 : Int32) → s_X3_forget z.2.2.2.2.1 (fun (u_21 : zMem) => ((¬ y1 = 0 → Q y1 (z.1, z.2.1, z.2.2.1, z.2.2.2.1, u_21, (z.2.2.2.2.2.1.1, z.2.2.2.2.2.1.2.1, (0 : Int32), z.2.2.2.2.2.1.2.2.2.1, z.2.2.2.2.2.1.2.2.2.2.1, z.2.2.2.2.2.1.2.2.2.2.2.1, z.2.2.2.2.2.1.2.2.2.2.2.2), z.2.2.2.2.2.2.1, x_18, (0 : Int32))) ∧ (y1 = 0 → ∀ x_23 : Int32, x_23 = z.2.2.2.2.2.2.2.2 → Q y1 (z.1, z.2.1, z.2.2.1, z.2.2.2.1, u_21, (z.2.2.2.2.2.1.1, z.2.2.2.2.2.1.2.1, (0 : Int32), z.2.2.2.2.2.1.2.2.2.1, z.2.2.2.2.2.1.2.2.2.2.1, z.2.2.2.2.2.1.2.2.2.2.2.1, z.2.2.2.2.2.1.2.2.2.2.2.2), z.2.2.2.2.2.2.1, x_18, x_23))))) ∧ (¬ x_18 = (-1 : Int32) → s_X5_copyFrom z.1 z.2.1 (fun (u_25 : zState × zState) => ((¬ y2 = 0 → QX "java/lang/IllegalArgumentException" (u_25.1, u_25.2, z.2.2.1, z.2.2.2.1, z.2.2.2.2.1, (z.2.2.2.2.2.1.1, z.2.2.2.2.2.1.2.1, (0 : Int32), z.2.2.2.2.2.1.2.2.2.1, z.2.2.2.2.2.1.2.2.2.2.1, z.2.2.2.2.2.1.2.2.2.2.2.1, z.2.2.2.2.2.1.2.2.2.2.2.2), z.2.2.2.2.2.2.1, x_18, y2)) ∧ (y2 = 0 → ∀ x_27 : Int32, x_27 = z.2.2.2.2.2.2.2.2 → QX "java/lang/IllegalArgumentException" (u_25.1, u_25.2, z.2.2.1, z.2.2.2.1, z.2.2.2.2.1, (z.2.2.2.2.2.1.1, z.2.2.2.2.2.1.2.1, (0 : Int32), z.2.2.2.2.2.1.2.2.2.1, z.2.2.2.2.2.1.2.2.2.2.1, z.2.2.2.2.2.1.2.2.2.2.2.1, z.2.2.2.2.2.1.2.2.2.2.2.2), z.2.2.2.2.2.2.1, x_18, x_27))))))))) ∧ (¬ (14 : Int32) < y1 → ((¬ y2 = 0 → ((¬ y2 = 0 → ∀ x_30 : Int32, x_30 = z.2.2.2.2.2.1.2.2.2.2.2.1 → ((x_30 = (-1 : Int32) → s_X3_forget z.2.2.2.2.1 (fun (u_33 : zMem) => ((¬ y1 = 0 → Q y1 (z.1, z.2.1, z.2.2.1, z.2.2.2.1, u_33, (z.2.2.2.2.2.1.1, z.2.2.2.2.2.1.2.1, (0 : Int32), z.2.2.2.2.2.1.2.2.2.1, z.2.2.2.2.2.1.2.2.2.2.1, z.2.2.2.2.2.1.2.2.2.2.2.1, z.2.2.2.2.2.1.2.2.2.2.2.2), z.2.2.2.2.2.2.1, x_30, (0 : Int32))) ∧ (y1 = 0 → ∀ x_35 : Int32, x_35 = z.2.2.2.2.2.2.2.2 → Q y1 (z.1, z.2.1, z.2.2.1, z.2.2.2.1, u_33, (z.2.2.2.2.2.1.1, z.2.2.2.2.2.1.2.1, (0 : Int32), z.2.2.2.2.2.1.2.2.2.1, z.2.2.2.2.2.1.2.2.2.2.1, z.2.2.2.2.2.1.2.2.2.2.2.1, z.2.2.2.2.2.1.2.2.2.2.2.2), z.2.2.2.2.2.2.1, x_30, x_35))))) ∧ (¬ x_30 = (-1 : Int32) → s_X5_copyFrom z.1 z.2.1 (fun (u_37 : zState × zState) => ((¬ y2 = 0 → QX "java/lang/IllegalArgumentException" (u_37.1, u_37.2, z.2.2.1, z.2.2.2.1, z.2.2.2.2.1, (z.2.2.2.2.2.1.1, z.2.2.2.2.2.1.2.1, (0 : Int32), z.2.2.2.2.2.1.2.2.2.1, z.2.2.2.2.2.1.2.2.2.2.1, z.2.2.2.2.2.1.2.2.2.2.2.1, z.2.2.2.2.2.1.2.2.2.2.2.2), z.2.2.2.2.2.2.1, x_30, y2)) ∧ (y2 = 0 → ∀ x_39 : Int32, x_39 = z.2.2.2.2.2.2.2.2 → QX "java/lang/IllegalArgumentException" (u_37.1, u_37.2, z.2.2.1, z.2.2.2.1, z.2.2.2.2.1, (z.2.2.2.2.2.1.1, z.2.2.2.2.2.1.2.1, (0 : Int32), z.2.2.2.2.2.1.2.2.2.1, z.2.2.2.2.2.1.2.2.2.2.1, z.2.2.2.2.2.1.2.2.2.2.2.1, z.2.2.2.2.2.1.2.2.2.2.2.2), z.2.2.2.2.2.2.1, x_30, x_39))))))) ∧ (y2 = 0 → ∀ x_40 : Int32, x_40 = z.2.2.2.2.2.1.2.2.2.2.2.2 → ((x_40 = (-1 : Int32) → s_X3_forget z.2.2.2.2.1 (fun (u_43 : zMem) => ((¬ y1 = 0 → Q y1 (z.1, z.2.1, z.2.2.1, z.2.2.2.1, u_43, (z.2.2.2.2.2.1.1, z.2.2.2.2.2.1.2.1, (0 : Int32), z.2.2.2.2.2.1.2.2.2.1, z.2.2.2.2.2.1.2.2.2.2.1, z.2.2.2.2.2.1.2.2.2.2.2.1, z.2.2.2.2.2.1.2.2.2.2.2.2), z.2.2.2.2.2.2.1, x_40, (0 : Int32))) ∧ (y1 = 0 → ∀ x_45 : Int32, x_45 = z.2.2.2.2.2.2.2.2 → Q y1 (z.1, z.2.1, z.2.2.1, z.2.2.2.1, u_43, (z.2.2.2.2.2.1.1, z.2.2.2.2.2.1.2.1, (0 : Int32), z.2.2.2.2.2.1.2.2.2.1, z.2.2.2.2.2.1.2.2.2.2.1, z.2.2.2.2.2.1.2.2.2.2.2.1, z.2.2.2.2.2.1.2.2.2.2.2.2), z.2.2.2.2.2.2.1, x_40, x_45))))) ∧ (¬ x_40 = (-1 : Int32) → s_X5_copyFrom z.1 z.2.1 (fun (u_47 : zState × zState) => ((¬ y2 = 0 → QX "java/lang/IllegalArgumentException" (u_47.1, u_47.2, z.2.2.1, z.2.2.2.1, z.2.2.2.2.1, (z.2.2.2.2.2.1.1, z.2.2.2.2.2.1.2.1, (0 : Int32), z.2.2.2.2.2.1.2.2.2.1, z.2.2.2.2.2.1.2.2.2.2.1, z.2.2.2.2.2.1.2.2.2.2.2.1, z.2.2.2.2.2.1.2.2.2.2.2.2), z.2.2.2.2.2.2.1, x_40, y2)) ∧ (y2 = 0 → ∀ x_49 : Int32, x_49 = z.2.2.2.2.2.2.2.2 → QX "java/lang/IllegalArgumentException" (u_47.1, u_47.2, z.2.2.1, z.2.2.2.1, z.2.2.2.2.1, (z.2.2.2.2.2.1.1, z.2.2.2.2.2.1.2.1, (0 : Int32), z.2.2.2.2.2.1.2.2.2.1, z.2.2.2.2.2.1.2.2.2.2.1, z.2.2.2.2.2.1.2.2.2.2.2.1, z.2.2.2.2.2.1.2.2.2.2.2.2), z.2.2.2.2.2.2.1, x_40, x_49))))))))) ∧ (y2 = 0 → s_X6_readAct z.2.2.2.2.2.1 y1 (fun (r_50 : Int32) (u_51 : zTape) => ((r_50 = 0 → ((¬ y2 = 0 → ∀ x_54 : Int32, x_54 = u_51.2.2.2.2.2.1 → ((x_54 = (-1 : Int32) → s_X3_forget z.2.2.2.2.1 (fun (u_57 : zMem) => ((¬ y1 = 0 → Q y1 (z.1, z.2.1, z.2.2.1, z.2.2.2.1, u_57, (u_51.1, u_51.2.1, (0 : Int32), u_51.2.2.2.1, u_51.2.2.2.2.1, u_51.2.2.2.2.2.1, u_51.2.2.2.2.2.2), z.2.2.2.2.2.2.1, x_54, (0 : Int32))) ∧ (y1 = 0 → ∀ x_59 : Int32, x_59 = z.2.2.2.2.2.2.2.2 → Q y1 (z.1, z.2.1, z.2.2.1, z.2.2.2.1, u_57, (u_51.1, u_51.2.1, (0 : Int32), u_51.2.2.2.1, u_51.2.2.2.2.1, u_51.2.2.2.2.2.1, u_51.2.2.2.2.2.2), z.2.2.2.2.2.2.1, x_54, x_59))))) ∧ (¬ x_54 = (-1 : Int32) → s_X5_copyFrom z.1 z.2.1 (fun (u_61 : zState × zState) => ((¬ y2 = 0 → QX "java/lang/IllegalArgumentException" (u_61.1, u_61.2, z.2.2.1, z.2.2.2.1, z.2.2.2.2.1, (u_51.1, u_51.2.1, (0 : Int32), u_51.2.2.2.1, u_51.2.2.2.2.1, u_51.2.2.2.2.2.1, u_51.2.2.2.2.2.2), z.2.2.2.2.2.2.1, x_54, y2)) ∧ (y2 = 0 → ∀ x_63 : Int32, x_63 = z.2.2.2.2.2.2.2.2 → QX "java/lang/IllegalArgumentException" (u_61.1, u_61.2, z.2.2.1, z.2.2.2.1, z.2.2.2.2.1, (u_51.1, u_51.2.1, (0 : Int32), u_51.2.2.2.1, u_51.2.2.2.2.1, u_51.2.2.2.2.2.1, u_51.2.2.2.2.2.2), z.2.2.2.2.2.2.1, x_54, x_63))))))) ∧ (y2 = 0 → ∀ x_64 : Int32, x_64 = u_51.2.2.2.2.2.2 → ((x_64 = (-1 : Int32) → s_X3_forget z.2.2.2.2.1 (fun (u_67 : zMem) => ((¬ y1 = 0 → Q y1 (z.1, z.2.1, z.2.2.1, z.2.2.2.1, u_67, (u_51.1, u_51.2.1, (0 : Int32), u_51.2.2.2.1, u_51.2.2.2.2.1, u_51.2.2.2.2.2.1, u_51.2.2.2.2.2.2), z.2.2.2.2.2.2.1, x_64, (0 : Int32))) ∧ (y1 = 0 → ∀ x_69 : Int32, x_69 = z.2.2.2.2.2.2.2.2 → Q y1 (z.1, z.2.1, z.2.2.1, z.2.2.2.1, u_67, (u_51.1, u_51.2.1, (0 : Int32), u_51.2.2.2.1, u_51.2.2.2.2.1, u_51.2.2.2.2.2.1, u_51.2.2.2.2.2.2), z.2.2.2.2.2.2.1, x_64, x_69))))) ∧ (¬ x_64 = (-1 : Int32) → s_X5_copyFrom z.1 z.2.1 (fun (u_71 : zState × zState) => ((¬ y2 = 0 → QX "java/lang/IllegalArgumentException" (u_71.1, u_71.2, z.2.2.1, z.2.2.2.1, z.2.2.2.2.1, (u_51.1, u_51.2.1, (0 : Int32), u_51.2.2.2.1, u_51.2.2.2.2.1, u_51.2.2.2.2.2.1, u_51.2.2.2.2.2.2), z.2.2.2.2.2.2.1, x_64, y2)) ∧ (y2 = 0 → ∀ x_73 : Int32, x_73 = z.2.2.2.2.2.2.2.2 → QX "java/lang/IllegalArgumentException" (u_71.1, u_71.2, z.2.2.1, z.2.2.2.1, z.2.2.2.2.1, (u_51.1, u_51.2.1, (0 : Int32), u_51.2.2.2.1, u_51.2.2.2.2.1, u_51.2.2.2.2.2.1, u_51.2.2.2.2.2.2), z.2.2.2.2.2.2.1, x_64, x_73))))))))) ∧ (¬ r_50 = 0 → s_X6_number u_51 (0 : Int32) (fun r_74 : Int32 => s_X6_number u_51 (1 : Int32) (fun r_75 : Int32 => s_X5_refusalOf z.1 u_51.2.2.2.2.1 r_74 r_75 (fun r_76 : Int32 => ((¬ r_76 = 0 → K22 y1 r_76 (z.1, z.2.1, z.2.2.1, z.2.2.2.1, z.2.2.2.2.1, u_51, z.2.2.2.2.2.2)) ∧ (r_76 = 0 → s_X6_number u_51 (0 : Int32) (fun r_79 : Int32 => s_X6_number u_51 (1 : Int32) (fun r_80 : Int32 => s_X6_number u_51 (2 : Int32) (fun r_81 : Int32 => s_X6_number u_51 (3 : Int32) (fun r_82 : Int32 => s_X5_perform z.1 u_51.2.2.2.2.1 r_79 r_80 r_81 r_82 (fun (r_83 : Int32) (u_84 : zState) => ∀ x_85 : Int32, x_85 = y1 + (1 : Int32) → K22 x_85 r_76 (u_84, z.2.1, z.2.2.1, z.2.2.2.1, z.2.2.2.2.1, u_51, z.2.2.2.2.2.2))))))))))))))))))
theorem zc_X10_acts : zCalV RX10 yX10_acts cX10_acts 3 (some .int) 0 := ⟨q_im_X10_acts, q_se_X10_acts, q_in_X10, q_cd_X10_acts, ⟨by decide, by decide, by decide +kernel⟩, rfl⟩
abbrev rm_X10_acts : Room := { frames := 8, cells := 1, slots := 6, locals := 190 }
def v_X10_acts (u : zCls) (Q : Int32 → zCls → Prop) (QX : String → zCls → Prop) : Prop := ∃ I22 : Nat → Int32 → Int32 → zCls → Prop, (∀ (n : Nat) (y1 : Int32) (y2 : Int32) (z : zCls), I22 n y1 y2 z → t_X10_acts_22 y1 y2 z (fun q0 q1 q2 => ∃ k : Nat, k < n ∧ I22 k q0 q1 q2) Q QX) ∧ t_X10_acts_e u (fun q0 q1 q2 => ∃ k : Nat, I22 k q0 q1 q2) Q QX
set_option maxHeartbeats 4000000 in
set_option maxRecDepth 100000 in
theorem L_X10_acts (l : Launch) (hlt : l.stackTraces = false) (dC : Nat → ClassId) (dI : Nat → Nat → Nat) (cI cJ cS : ClassId) (a : Nat → Nat) (u : zCls) (Q : Int32 → zCls → Prop) (QX : String → zCls → Prop) (I22 : Nat → Int32 → Int32 → zCls → Prop) (h22 : ∀ (n : Nat) (y1 : Int32) (y2 : Int32) (z : zCls), I22 n y1 y2 z → t_X10_acts_22 y1 y2 z (fun q0 q1 q2 => ∃ k : Nat, k < n ∧ I22 k q0 q1 q2) Q QX) (hf : t_X10_acts_e u (fun q0 q1 q2 => ∃ k : Nat, I22 k q0 q1 q2) Q QX) : ∀ sz : Nat, vx_Met l yX10_acts (Cond.code yX10_acts cX10_acts 3 (some .int) :: zT) rm_X10_acts (zPmF zFy dC dI cI cJ cS (cl_X10 cI cJ cS a u) [.ref (a 0)] sz) (va_Qi Q (zB dC dI cI cJ cS (va_A (cl_X10 cI cJ cS a u) sz) (fun z => cl_X10 cI cJ cS a z)) (va_A (cl_X10 cI cJ cS a u) sz)) (zXc QX dC dI cI cJ cS (va_A (cl_X10 cI cJ cS a u) sz) (fun z => cl_X10 cI cJ cS a z)) 1 6 (va_A (cl_X10 cI cJ cS a u) sz) := by
  intro sz
  refine z_enterX (Qc := fun A => va_Qi Q (zB dC dI cI cJ cS A (fun z => cl_X10 cI cJ cS a z)) A) (XC := fun A => zXc QX dC dI cI cJ cS A (fun z => cl_X10 cI cJ cS a z)) (cc := cX10_acts) (maxL := 3) (ret := (some .int)) (by decide) (Nat.le_of_ble_eq_true rfl) ?_
  intro p e s m below meth c ls A X htb hP hD hS hA hF hl
  obtain ⟨⟨hx, hb, hml, hown, hts⟩, hr, hlk, hK⟩ := id X
  have hl : lv_has ls 3 [(0, .ref (a 0))] := hl
  have LP : ∀ n : Nat, (∀ (y1 : Int32) (y2 : Int32) (z : zCls) (H : Heap) (locs : List Loc) (ls : Array Slot), I22 n y1 y2 z → va_P (dC, dI) vwCl (cl_X10 cI cJ cS a z) H → va_D A (cl_X10 cI cJ cS a z) → va_S A s.heap H locs → lv_has ls 3 [(0, .ref (a 0)), (1, .int y1), (2, .int y2)] → W p l e rm_X10_acts s m [.ref (a 0)].toArray below meth c H locs 0 0 (vx_MQ below (va_Qi Q (zB dC dI cI cJ cS A (fun z => cl_X10 cI cJ cS a z)) A) (zXc QX dC dI cI cJ cS A (fun z => cl_X10 cI cJ cS a z)) [.ref (a 0)].toArray s 1 6 A) (F0 m 22 ls [])) := by
    intro n
    induction n using Nat.strongRecOn with
    | _ n ih =>
      intro y1 y2 z H locs ls hI hP hD hS hl
      have hf := h22 n y1 y2 z hI
      unfold t_X10_acts_22 at hf
      refine lv_iload_n hx hb dX10_acts_22 rfl (lv_at hl 1 rfl) ?_
      refine lv_bipush (v := 14) hx hb dX10_acts_23 (by decide) ?_
      refine lv_icmp_gt (tgt := 131) hx hb dX10_acts_25 (by decide) (fun c_6 => ?_) (fun c_6 => ?_)
      · have hf := hf.1 c_6
        refine lv_aload_n hx hb dX10_acts_131 rfl (lv_at hl 0 rfl) ?_
        refine va_get (D := (dC, dI)) (ci := 9) (v := .ref (a 46)) (C := RX10) (T := TX10) (N := 9) hx hb hts inX10 hown hK hP 0 rfl rfl 5 (by decide) (hts _ q_fl_X10_32) (fun _ h9 => h9) rfl dX10_acts_132 ?_
        refine lv_iconst (v := 0) hx hb dX10_acts_135 (by decide) ?_
        refine z_put (w' := cl_X10 cI cJ cS a (z.1, z.2.1, z.2.2.1, z.2.2.2.1, z.2.2.2.2.1, (z.2.2.2.2.2.1.1, z.2.2.2.2.2.1.2.1, (0 : Int32), z.2.2.2.2.2.1.2.2.2.1, z.2.2.2.2.2.1.2.2.2.2.1, z.2.2.2.2.2.1.2.2.2.2.2.1, z.2.2.2.2.2.1.2.2.2.2.2.2), z.2.2.2.2.2.2)) (ci := 5) (v := .int (0 : Int32)) (ty := .int) (Cn := RX6) (T := TX6) (N := 7) X inX6 tyX6 tyX6_ok nmX6 hP hD hS 46 rfl rfl 2 (by decide) (hts _ q_fl_X10_52) (fun _ h9 => h9) rfl (tyX6_ok 2 (by decide)) rfl rfl (Nat.le_of_ble_eq_true rfl) rfl dX10_acts_136 (fun H locs hP hD hS => ?_)
        refine lv_aload_n hx hb dX10_acts_139 rfl (lv_at hl 0 rfl) ?_
        refine lv_iload_n hx hb dX10_acts_140 rfl (lv_at hl 2 rfl) ?_
        refine lv_if_ne (tgt := 154) hx hb dX10_acts_141 (by decide) (fun c_7 => ?_) (fun c_7 => ?_)
        · have hf := hf.1 c_7
          refine lv_aload_n hx hb dX10_acts_154 rfl (lv_at hl 0 rfl) ?_
          refine va_get (D := (dC, dI)) (ci := 9) (v := .ref (a 46)) (C := RX10) (T := TX10) (N := 9) hx hb hts inX10 hown hK hP 0 rfl rfl 5 (by decide) (hts _ q_fl_X10_32) (fun _ h9 => h9) rfl dX10_acts_155 ?_
          refine va_get (D := (dC, dI)) (ci := 5) (v := .int z.2.2.2.2.2.1.2.2.2.2.2.1) (C := RX6) (T := TX6) (N := 7) hx hb hts inX6 hown hK hP 46 rfl rfl 5 (by decide) (hts _ q_fl_X10_83) (fun _ h9 => h9) rfl dX10_acts_158 ?_
          refine lv_topi (fun x_8 ex_8 => ?_)
          have hf := hf x_8 ex_8
          refine z_put (w' := cl_X10 cI cJ cS a (z.1, z.2.1, z.2.2.1, z.2.2.2.1, z.2.2.2.2.1, (z.2.2.2.2.2.1.1, z.2.2.2.2.2.1.2.1, (0 : Int32), z.2.2.2.2.2.1.2.2.2.1, z.2.2.2.2.2.1.2.2.2.2.1, z.2.2.2.2.2.1.2.2.2.2.2.1, z.2.2.2.2.2.1.2.2.2.2.2.2), z.2.2.2.2.2.2.1, x_8, z.2.2.2.2.2.2.2.2)) (ci := 9) (v := .int x_8) (ty := .int) (Cn := RX10) (T := TX10) (N := 9) X inX10 tyX10 tyX10_ok nmX10 hP hD hS 0 rfl rfl 7 (by decide) (hts _ q_fl_X10_40) (fun _ h9 => h9) rfl (tyX10_ok 7 (by decide)) rfl rfl (Nat.le_of_ble_eq_true rfl) rfl dX10_acts_161 (fun H locs hP hD hS => ?_)
          refine lv_aload_n hx hb dX10_acts_164 rfl (lv_at hl 0 rfl) ?_
          refine va_get (D := (dC, dI)) (ci := 9) (v := .int x_8) (C := RX10) (T := TX10) (N := 9) hx hb hts inX10 hown hK hP 0 rfl rfl 7 (by decide) (hts _ q_fl_X10_40) (fun _ h9 => h9) rfl dX10_acts_165 ?_
          refine lv_iconst (v := (-1)) hx hb dX10_acts_168 (by decide) ?_
          refine lv_icmp_eq (tgt := 209) hx hb dX10_acts_169 (by decide) (fun c_9 => ?_) (fun c_9 => ?_)
          · have hf := hf.1 c_9
            refine lv_aload_n hx hb dX10_acts_209 rfl (lv_at hl 0 rfl) ?_
            refine va_get (D := (dC, dI)) (ci := 9) (v := .ref (a 50)) (C := RX10) (T := TX10) (N := 9) hx hb hts inX10 hown hK hP 0 rfl rfl 4 (by decide) (hts _ q_fl_X10_25) (fun _ h9 => h9) rfl dX10_acts_210 ?_
            refine z_pVv (Wn := (fun u_11 => cl_X10 cI cJ cS a (z.1, z.2.1, z.2.2.1, z.2.2.2.1, u_11, (z.2.2.2.2.2.1.1, z.2.2.2.2.2.1.2.1, (0 : Int32), z.2.2.2.2.2.1.2.2.2.1, z.2.2.2.2.2.1.2.2.2.2.1, z.2.2.2.2.2.1.2.2.2.2.2.1, z.2.2.2.2.2.1.2.2.2.2.2.2), z.2.2.2.2.2.2.1, x_8, z.2.2.2.2.2.2.2.2))) (As := []) (rest := []) (wr := rr_X10_m cI cJ cS a (z.1, z.2.1, z.2.2.1, z.2.2.2.1, z.2.2.2.2.1, (z.2.2.2.2.2.1.1, z.2.2.2.2.2.1.2.1, (0 : Int32), z.2.2.2.2.2.1.2.2.2.1, z.2.2.2.2.2.1.2.2.2.2.1, z.2.2.2.2.2.1.2.2.2.2.2.1, z.2.2.2.2.2.1.2.2.2.2.2.2), z.2.2.2.2.2.2.1, x_8, z.2.2.2.2.2.2.2.2)) X (c_X3_forget l dC dI cI cJ cS (fun i => a (50 + i)) z.2.2.2.2.1  _ hf _) zc_X3_forget q_ml_X10_96 ⟨rfl, rfl⟩ ⟨Nat.le_of_ble_eq_true rfl, Nat.le_of_ble_eq_true rfl⟩ hP hD hS hA (pm_X10_m cI cJ cS a (z.1, z.2.1, z.2.2.1, z.2.2.2.1, z.2.2.2.2.1, (z.2.2.2.2.2.1.1, z.2.2.2.2.2.1.2.1, (0 : Int32), z.2.2.2.2.2.1.2.2.2.1, z.2.2.2.2.2.1.2.2.2.2.1, z.2.2.2.2.2.1.2.2.2.2.2.1, z.2.2.2.2.2.1.2.2.2.2.2.2), z.2.2.2.2.2.2.1, x_8, z.2.2.2.2.2.2.2.2)) (fun u_11 => pm_X10_m cI cJ cS a (z.1, z.2.1, z.2.2.1, z.2.2.2.1, u_11, (z.2.2.2.2.2.1.1, z.2.2.2.2.2.1.2.1, (0 : Int32), z.2.2.2.2.2.1.2.2.2.1, z.2.2.2.2.2.1.2.2.2.2.1, z.2.2.2.2.2.1.2.2.2.2.2.1, z.2.2.2.2.2.1.2.2.2.2.2.2), z.2.2.2.2.2.2.1, x_8, z.2.2.2.2.2.2.2.2)) 2 rfl rfl hl.1 rfl rfl (Nat.le_of_ble_eq_true rfl) ⟨Nat.le_of_ble_eq_true rfl, Nat.le_of_ble_eq_true rfl⟩ dX10_acts_213 (fun u_11 H locs hf hP hD hS => ?_)
            refine lv_aload_n hx hb dX10_acts_216 rfl (lv_at hl 0 rfl) ?_
            refine lv_iload_n hx hb dX10_acts_217 rfl (lv_at hl 1 rfl) ?_
            refine lv_if_ne (tgt := 228) hx hb dX10_acts_218 (by decide) (fun c_12 => ?_) (fun c_12 => ?_)
            · have hf := hf.1 c_12
              refine lv_iconst (v := 0) hx hb dX10_acts_228 (by decide) ?_
              refine z_put (w' := cl_X10 cI cJ cS a (z.1, z.2.1, z.2.2.1, z.2.2.2.1, u_11, (z.2.2.2.2.2.1.1, z.2.2.2.2.2.1.2.1, (0 : Int32), z.2.2.2.2.2.1.2.2.2.1, z.2.2.2.2.2.1.2.2.2.2.1, z.2.2.2.2.2.1.2.2.2.2.2.1, z.2.2.2.2.2.1.2.2.2.2.2.2), z.2.2.2.2.2.2.1, x_8, (0 : Int32))) (ci := 9) (v := .int (0 : Int32)) (ty := .int) (Cn := RX10) (T := TX10) (N := 9) X inX10 tyX10 tyX10_ok nmX10 hP hD hS 0 rfl rfl 8 (by decide) (hts _ q_fl_X10_86) (fun _ h9 => h9) rfl (tyX10_ok 8 (by decide)) rfl rfl (Nat.le_of_ble_eq_true rfl) rfl dX10_acts_229 (fun H locs hP hD hS => ?_)
              refine lv_iload_n hx hb dX10_acts_232 rfl (lv_at hl 1 rfl) ?_
              exact vx_ret (W.widen (k := 1) (n := 6) (Nat.le_of_ble_eq_true rfl) (Nat.le_of_ble_eq_true rfl) (z_retMi (Wf := (fun z => cl_X10 cI cJ cS a z)) (u := (z.1, z.2.1, z.2.2.1, z.2.2.2.1, u_11, (z.2.2.2.2.2.1.1, z.2.2.2.2.2.1.2.1, (0 : Int32), z.2.2.2.2.2.1.2.2.2.1, z.2.2.2.2.2.1.2.2.2.2.1, z.2.2.2.2.2.1.2.2.2.2.2.1, z.2.2.2.2.2.1.2.2.2.2.2.2), z.2.2.2.2.2.2.1, x_8, (0 : Int32))) X hf hP hD hS dX10_acts_233))
            · have hf := hf.2 c_12
              refine lv_aload_n hx hb dX10_acts_221 rfl (lv_at hl 0 rfl) ?_
              refine va_get (D := (dC, dI)) (ci := 9) (v := .int z.2.2.2.2.2.2.2.2) (C := RX10) (T := TX10) (N := 9) hx hb hts inX10 hown hK hP 0 rfl rfl 8 (by decide) (hts _ q_fl_X10_86) (fun _ h9 => h9) rfl dX10_acts_222 ?_
              refine lv_goto (tgt := 229) hx hb dX10_acts_225 (by decide) ?_
              refine lv_topi (fun x_13 ex_13 => ?_)
              have hf := hf x_13 ex_13
              refine z_put (w' := cl_X10 cI cJ cS a (z.1, z.2.1, z.2.2.1, z.2.2.2.1, u_11, (z.2.2.2.2.2.1.1, z.2.2.2.2.2.1.2.1, (0 : Int32), z.2.2.2.2.2.1.2.2.2.1, z.2.2.2.2.2.1.2.2.2.2.1, z.2.2.2.2.2.1.2.2.2.2.2.1, z.2.2.2.2.2.1.2.2.2.2.2.2), z.2.2.2.2.2.2.1, x_8, x_13)) (ci := 9) (v := .int x_13) (ty := .int) (Cn := RX10) (T := TX10) (N := 9) X inX10 tyX10 tyX10_ok nmX10 hP hD hS 0 rfl rfl 8 (by decide) (hts _ q_fl_X10_86) (fun _ h9 => h9) rfl (tyX10_ok 8 (by decide)) rfl rfl (Nat.le_of_ble_eq_true rfl) rfl dX10_acts_229 (fun H locs hP hD hS => ?_)
              refine lv_iload_n hx hb dX10_acts_232 rfl (lv_at hl 1 rfl) ?_
              exact vx_ret (W.widen (k := 1) (n := 6) (Nat.le_of_ble_eq_true rfl) (Nat.le_of_ble_eq_true rfl) (z_retMi (Wf := (fun z => cl_X10 cI cJ cS a z)) (u := (z.1, z.2.1, z.2.2.1, z.2.2.2.1, u_11, (z.2.2.2.2.2.1.1, z.2.2.2.2.2.1.2.1, (0 : Int32), z.2.2.2.2.2.1.2.2.2.1, z.2.2.2.2.2.1.2.2.2.2.1, z.2.2.2.2.2.1.2.2.2.2.2.1, z.2.2.2.2.2.1.2.2.2.2.2.2), z.2.2.2.2.2.2.1, x_8, x_13)) X hf hP hD hS dX10_acts_233))
          · have hf := hf.2 c_9
            refine lv_aload_n hx hb dX10_acts_172 rfl (lv_at hl 0 rfl) ?_
            refine va_get (D := (dC, dI)) (ci := 9) (v := .ref (a 1)) (C := RX10) (T := TX10) (N := 9) hx hb hts inX10 hown hK hP 0 rfl rfl 0 (by decide) (hts _ q_fl_X10_10) (fun _ h9 => h9) rfl dX10_acts_173 ?_
            refine lv_aload_n hx hb dX10_acts_176 rfl (lv_at hl 0 rfl) ?_
            refine va_get (D := (dC, dI)) (ci := 9) (v := .ref (a 16)) (C := RX10) (T := TX10) (N := 9) hx hb hts inX10 hown hK hP 0 rfl rfl 1 (by decide) (hts _ q_fl_X10_16) (fun _ h9 => h9) rfl dX10_acts_177 ?_
            refine z_pVv (Wn := (fun u_15 => cl_X10 cI cJ cS a (u_15.1, u_15.2, z.2.2.1, z.2.2.2.1, z.2.2.2.2.1, (z.2.2.2.2.2.1.1, z.2.2.2.2.2.1.2.1, (0 : Int32), z.2.2.2.2.2.1.2.2.2.1, z.2.2.2.2.2.1.2.2.2.2.1, z.2.2.2.2.2.1.2.2.2.2.2.1, z.2.2.2.2.2.1.2.2.2.2.2.2), z.2.2.2.2.2.2.1, x_8, z.2.2.2.2.2.2.2.2))) (As := [.ref (a 16)]) (rest := []) (wr := rr_X10_np cI cJ cS a (z.1, z.2.1, z.2.2.1, z.2.2.2.1, z.2.2.2.2.1, (z.2.2.2.2.2.1.1, z.2.2.2.2.2.1.2.1, (0 : Int32), z.2.2.2.2.2.1.2.2.2.1, z.2.2.2.2.2.1.2.2.2.2.1, z.2.2.2.2.2.1.2.2.2.2.2.1, z.2.2.2.2.2.1.2.2.2.2.2.2), z.2.2.2.2.2.2.1, x_8, z.2.2.2.2.2.2.2.2)) X (c_X5_copyFrom l dC dI cI cJ cS (fun i => a (1 + i)) (fun i => a (16 + i)) z.1 z.2.1  _ hf _) zc_X5_copyFrom q_ml_X10_55 ⟨rfl, rfl⟩ ⟨Nat.le_of_ble_eq_true rfl, Nat.le_of_ble_eq_true rfl⟩ hP hD hS hA (pm_X10_np cI cJ cS a (z.1, z.2.1, z.2.2.1, z.2.2.2.1, z.2.2.2.2.1, (z.2.2.2.2.2.1.1, z.2.2.2.2.2.1.2.1, (0 : Int32), z.2.2.2.2.2.1.2.2.2.1, z.2.2.2.2.2.1.2.2.2.2.1, z.2.2.2.2.2.1.2.2.2.2.2.1, z.2.2.2.2.2.1.2.2.2.2.2.2), z.2.2.2.2.2.2.1, x_8, z.2.2.2.2.2.2.2.2)) (fun u_15 => pm_X10_np cI cJ cS a (u_15.1, u_15.2, z.2.2.1, z.2.2.2.1, z.2.2.2.2.1, (z.2.2.2.2.2.1.1, z.2.2.2.2.2.1.2.1, (0 : Int32), z.2.2.2.2.2.1.2.2.2.1, z.2.2.2.2.2.1.2.2.2.2.1, z.2.2.2.2.2.1.2.2.2.2.2.1, z.2.2.2.2.2.1.2.2.2.2.2.2), z.2.2.2.2.2.2.1, x_8, z.2.2.2.2.2.2.2.2)) 4 rfl rfl hl.1 rfl rfl (Nat.le_of_ble_eq_true rfl) ⟨Nat.le_of_ble_eq_true rfl, Nat.le_of_ble_eq_true rfl⟩ dX10_acts_180 (fun u_15 H locs hf hP hD hS => ?_)
            refine lv_aload_n hx hb dX10_acts_183 rfl (lv_at hl 0 rfl) ?_
            refine lv_iload_n hx hb dX10_acts_184 rfl (lv_at hl 2 rfl) ?_
            refine lv_if_ne (tgt := 195) hx hb dX10_acts_185 (by decide) (fun c_16 => ?_) (fun c_16 => ?_)
            · have hf := hf.1 c_16
              refine lv_iload_n hx hb dX10_acts_195 rfl (lv_at hl 2 rfl) ?_
              refine z_put (w' := cl_X10 cI cJ cS a (u_15.1, u_15.2, z.2.2.1, z.2.2.2.1, z.2.2.2.2.1, (z.2.2.2.2.2.1.1, z.2.2.2.2.2.1.2.1, (0 : Int32), z.2.2.2.2.2.1.2.2.2.1, z.2.2.2.2.2.1.2.2.2.2.1, z.2.2.2.2.2.1.2.2.2.2.2.1, z.2.2.2.2.2.1.2.2.2.2.2.2), z.2.2.2.2.2.2.1, x_8, y2)) (ci := 9) (v := .int y2) (ty := .int) (Cn := RX10) (T := TX10) (N := 9) X inX10 tyX10 tyX10_ok nmX10 hP hD hS 0 rfl rfl 8 (by decide) (hts _ q_fl_X10_86) (fun _ h9 => h9) rfl (tyX10_ok 8 (by decide)) rfl rfl (Nat.le_of_ble_eq_true rfl) rfl dX10_acts_196 (fun H locs hP hD hS => ?_)
              exact z_thrS (Wf := (fun z => cl_X10 cI cJ cS a z)) (u := (u_15.1, u_15.2, z.2.2.1, z.2.2.2.1, z.2.2.2.2.1, (z.2.2.2.2.2.1.1, z.2.2.2.2.2.1.2.1, (0 : Int32), z.2.2.2.2.2.1.2.2.2.1, z.2.2.2.2.2.1.2.2.2.2.1, z.2.2.2.2.2.1.2.2.2.2.2.1, z.2.2.2.2.2.1.2.2.2.2.2.2), z.2.2.2.2.2.2.1, x_8, y2)) 0 (by decide) 0 X hlt hF.2.2.2 htb hf hP hD hS hl.1 dX10_acts_199 dX10_acts_202 dX10_acts_203 dX10_acts_205 dX10_acts_208 ⟨Nat.le_of_ble_eq_true rfl, Nat.le_of_ble_eq_true rfl⟩ ⟨Nat.le_of_ble_eq_true rfl, Nat.le_of_ble_eq_true rfl⟩ ⟨Nat.le_of_ble_eq_true rfl, Nat.le_of_ble_eq_true rfl⟩
            · have hf := hf.2 c_16
              refine lv_aload_n hx hb dX10_acts_188 rfl (lv_at hl 0 rfl) ?_
              refine va_get (D := (dC, dI)) (ci := 9) (v := .int z.2.2.2.2.2.2.2.2) (C := RX10) (T := TX10) (N := 9) hx hb hts inX10 hown hK hP 0 rfl rfl 8 (by decide) (hts _ q_fl_X10_86) (fun _ h9 => h9) rfl dX10_acts_189 ?_
              refine lv_goto (tgt := 196) hx hb dX10_acts_192 (by decide) ?_
              refine lv_topi (fun x_17 ex_17 => ?_)
              have hf := hf x_17 ex_17
              refine z_put (w' := cl_X10 cI cJ cS a (u_15.1, u_15.2, z.2.2.1, z.2.2.2.1, z.2.2.2.2.1, (z.2.2.2.2.2.1.1, z.2.2.2.2.2.1.2.1, (0 : Int32), z.2.2.2.2.2.1.2.2.2.1, z.2.2.2.2.2.1.2.2.2.2.1, z.2.2.2.2.2.1.2.2.2.2.2.1, z.2.2.2.2.2.1.2.2.2.2.2.2), z.2.2.2.2.2.2.1, x_8, x_17)) (ci := 9) (v := .int x_17) (ty := .int) (Cn := RX10) (T := TX10) (N := 9) X inX10 tyX10 tyX10_ok nmX10 hP hD hS 0 rfl rfl 8 (by decide) (hts _ q_fl_X10_86) (fun _ h9 => h9) rfl (tyX10_ok 8 (by decide)) rfl rfl (Nat.le_of_ble_eq_true rfl) rfl dX10_acts_196 (fun H locs hP hD hS => ?_)
              exact z_thrS (Wf := (fun z => cl_X10 cI cJ cS a z)) (u := (u_15.1, u_15.2, z.2.2.1, z.2.2.2.1, z.2.2.2.2.1, (z.2.2.2.2.2.1.1, z.2.2.2.2.2.1.2.1, (0 : Int32), z.2.2.2.2.2.1.2.2.2.1, z.2.2.2.2.2.1.2.2.2.2.1, z.2.2.2.2.2.1.2.2.2.2.2.1, z.2.2.2.2.2.1.2.2.2.2.2.2), z.2.2.2.2.2.2.1, x_8, x_17)) 0 (by decide) 0 X hlt hF.2.2.2 htb hf hP hD hS hl.1 dX10_acts_199 dX10_acts_202 dX10_acts_203 dX10_acts_205 dX10_acts_208 ⟨Nat.le_of_ble_eq_true rfl, Nat.le_of_ble_eq_true rfl⟩ ⟨Nat.le_of_ble_eq_true rfl, Nat.le_of_ble_eq_true rfl⟩ ⟨Nat.le_of_ble_eq_true rfl, Nat.le_of_ble_eq_true rfl⟩
        · have hf := hf.2 c_7
          refine lv_aload_n hx hb dX10_acts_144 rfl (lv_at hl 0 rfl) ?_
          refine va_get (D := (dC, dI)) (ci := 9) (v := .ref (a 46)) (C := RX10) (T := TX10) (N := 9) hx hb hts inX10 hown hK hP 0 rfl rfl 5 (by decide) (hts _ q_fl_X10_32) (fun _ h9 => h9) rfl dX10_acts_145 ?_
          refine va_get (D := (dC, dI)) (ci := 5) (v := .int z.2.2.2.2.2.1.2.2.2.2.2.2) (C := RX6) (T := TX6) (N := 7) hx hb hts inX6 hown hK hP 46 rfl rfl 6 (by decide) (hts _ q_fl_X10_80) (fun _ h9 => h9) rfl dX10_acts_148 ?_
          refine lv_goto (tgt := 161) hx hb dX10_acts_151 (by decide) ?_
          refine lv_topi (fun x_18 ex_18 => ?_)
          have hf := hf x_18 ex_18
          refine z_put (w' := cl_X10 cI cJ cS a (z.1, z.2.1, z.2.2.1, z.2.2.2.1, z.2.2.2.2.1, (z.2.2.2.2.2.1.1, z.2.2.2.2.2.1.2.1, (0 : Int32), z.2.2.2.2.2.1.2.2.2.1, z.2.2.2.2.2.1.2.2.2.2.1, z.2.2.2.2.2.1.2.2.2.2.2.1, z.2.2.2.2.2.1.2.2.2.2.2.2), z.2.2.2.2.2.2.1, x_18, z.2.2.2.2.2.2.2.2)) (ci := 9) (v := .int x_18) (ty := .int) (Cn := RX10) (T := TX10) (N := 9) X inX10 tyX10 tyX10_ok nmX10 hP hD hS 0 rfl rfl 7 (by decide) (hts _ q_fl_X10_40) (fun _ h9 => h9) rfl (tyX10_ok 7 (by decide)) rfl rfl (Nat.le_of_ble_eq_true rfl) rfl dX10_acts_161 (fun H locs hP hD hS => ?_)
          refine lv_aload_n hx hb dX10_acts_164 rfl (lv_at hl 0 rfl) ?_
          refine va_get (D := (dC, dI)) (ci := 9) (v := .int x_18) (C := RX10) (T := TX10) (N := 9) hx hb hts inX10 hown hK hP 0 rfl rfl 7 (by decide) (hts _ q_fl_X10_40) (fun _ h9 => h9) rfl dX10_acts_165 ?_
          refine lv_iconst (v := (-1)) hx hb dX10_acts_168 (by decide) ?_
          refine lv_icmp_eq (tgt := 209) hx hb dX10_acts_169 (by decide) (fun c_19 => ?_) (fun c_19 => ?_)
          · have hf := hf.1 c_19
            refine lv_aload_n hx hb dX10_acts_209 rfl (lv_at hl 0 rfl) ?_
            refine va_get (D := (dC, dI)) (ci := 9) (v := .ref (a 50)) (C := RX10) (T := TX10) (N := 9) hx hb hts inX10 hown hK hP 0 rfl rfl 4 (by decide) (hts _ q_fl_X10_25) (fun _ h9 => h9) rfl dX10_acts_210 ?_
            refine z_pVv (Wn := (fun u_21 => cl_X10 cI cJ cS a (z.1, z.2.1, z.2.2.1, z.2.2.2.1, u_21, (z.2.2.2.2.2.1.1, z.2.2.2.2.2.1.2.1, (0 : Int32), z.2.2.2.2.2.1.2.2.2.1, z.2.2.2.2.2.1.2.2.2.2.1, z.2.2.2.2.2.1.2.2.2.2.2.1, z.2.2.2.2.2.1.2.2.2.2.2.2), z.2.2.2.2.2.2.1, x_18, z.2.2.2.2.2.2.2.2))) (As := []) (rest := []) (wr := rr_X10_m cI cJ cS a (z.1, z.2.1, z.2.2.1, z.2.2.2.1, z.2.2.2.2.1, (z.2.2.2.2.2.1.1, z.2.2.2.2.2.1.2.1, (0 : Int32), z.2.2.2.2.2.1.2.2.2.1, z.2.2.2.2.2.1.2.2.2.2.1, z.2.2.2.2.2.1.2.2.2.2.2.1, z.2.2.2.2.2.1.2.2.2.2.2.2), z.2.2.2.2.2.2.1, x_18, z.2.2.2.2.2.2.2.2)) X (c_X3_forget l dC dI cI cJ cS (fun i => a (50 + i)) z.2.2.2.2.1  _ hf _) zc_X3_forget q_ml_X10_96 ⟨rfl, rfl⟩ ⟨Nat.le_of_ble_eq_true rfl, Nat.le_of_ble_eq_true rfl⟩ hP hD hS hA (pm_X10_m cI cJ cS a (z.1, z.2.1, z.2.2.1, z.2.2.2.1, z.2.2.2.2.1, (z.2.2.2.2.2.1.1, z.2.2.2.2.2.1.2.1, (0 : Int32), z.2.2.2.2.2.1.2.2.2.1, z.2.2.2.2.2.1.2.2.2.2.1, z.2.2.2.2.2.1.2.2.2.2.2.1, z.2.2.2.2.2.1.2.2.2.2.2.2), z.2.2.2.2.2.2.1, x_18, z.2.2.2.2.2.2.2.2)) (fun u_21 => pm_X10_m cI cJ cS a (z.1, z.2.1, z.2.2.1, z.2.2.2.1, u_21, (z.2.2.2.2.2.1.1, z.2.2.2.2.2.1.2.1, (0 : Int32), z.2.2.2.2.2.1.2.2.2.1, z.2.2.2.2.2.1.2.2.2.2.1, z.2.2.2.2.2.1.2.2.2.2.2.1, z.2.2.2.2.2.1.2.2.2.2.2.2), z.2.2.2.2.2.2.1, x_18, z.2.2.2.2.2.2.2.2)) 2 rfl rfl hl.1 rfl rfl (Nat.le_of_ble_eq_true rfl) ⟨Nat.le_of_ble_eq_true rfl, Nat.le_of_ble_eq_true rfl⟩ dX10_acts_213 (fun u_21 H locs hf hP hD hS => ?_)
            refine lv_aload_n hx hb dX10_acts_216 rfl (lv_at hl 0 rfl) ?_
            refine lv_iload_n hx hb dX10_acts_217 rfl (lv_at hl 1 rfl) ?_
            refine lv_if_ne (tgt := 228) hx hb dX10_acts_218 (by decide) (fun c_22 => ?_) (fun c_22 => ?_)
            · have hf := hf.1 c_22
              refine lv_iconst (v := 0) hx hb dX10_acts_228 (by decide) ?_
              refine z_put (w' := cl_X10 cI cJ cS a (z.1, z.2.1, z.2.2.1, z.2.2.2.1, u_21, (z.2.2.2.2.2.1.1, z.2.2.2.2.2.1.2.1, (0 : Int32), z.2.2.2.2.2.1.2.2.2.1, z.2.2.2.2.2.1.2.2.2.2.1, z.2.2.2.2.2.1.2.2.2.2.2.1, z.2.2.2.2.2.1.2.2.2.2.2.2), z.2.2.2.2.2.2.1, x_18, (0 : Int32))) (ci := 9) (v := .int (0 : Int32)) (ty := .int) (Cn := RX10) (T := TX10) (N := 9) X inX10 tyX10 tyX10_ok nmX10 hP hD hS 0 rfl rfl 8 (by decide) (hts _ q_fl_X10_86) (fun _ h9 => h9) rfl (tyX10_ok 8 (by decide)) rfl rfl (Nat.le_of_ble_eq_true rfl) rfl dX10_acts_229 (fun H locs hP hD hS => ?_)
              refine lv_iload_n hx hb dX10_acts_232 rfl (lv_at hl 1 rfl) ?_
              exact vx_ret (W.widen (k := 1) (n := 6) (Nat.le_of_ble_eq_true rfl) (Nat.le_of_ble_eq_true rfl) (z_retMi (Wf := (fun z => cl_X10 cI cJ cS a z)) (u := (z.1, z.2.1, z.2.2.1, z.2.2.2.1, u_21, (z.2.2.2.2.2.1.1, z.2.2.2.2.2.1.2.1, (0 : Int32), z.2.2.2.2.2.1.2.2.2.1, z.2.2.2.2.2.1.2.2.2.2.1, z.2.2.2.2.2.1.2.2.2.2.2.1, z.2.2.2.2.2.1.2.2.2.2.2.2), z.2.2.2.2.2.2.1, x_18, (0 : Int32))) X hf hP hD hS dX10_acts_233))
            · have hf := hf.2 c_22
              refine lv_aload_n hx hb dX10_acts_221 rfl (lv_at hl 0 rfl) ?_
              refine va_get (D := (dC, dI)) (ci := 9) (v := .int z.2.2.2.2.2.2.2.2) (C := RX10) (T := TX10) (N := 9) hx hb hts inX10 hown hK hP 0 rfl rfl 8 (by decide) (hts _ q_fl_X10_86) (fun _ h9 => h9) rfl dX10_acts_222 ?_
              refine lv_goto (tgt := 229) hx hb dX10_acts_225 (by decide) ?_
              refine lv_topi (fun x_23 ex_23 => ?_)
              have hf := hf x_23 ex_23
              refine z_put (w' := cl_X10 cI cJ cS a (z.1, z.2.1, z.2.2.1, z.2.2.2.1, u_21, (z.2.2.2.2.2.1.1, z.2.2.2.2.2.1.2.1, (0 : Int32), z.2.2.2.2.2.1.2.2.2.1, z.2.2.2.2.2.1.2.2.2.2.1, z.2.2.2.2.2.1.2.2.2.2.2.1, z.2.2.2.2.2.1.2.2.2.2.2.2), z.2.2.2.2.2.2.1, x_18, x_23)) (ci := 9) (v := .int x_23) (ty := .int) (Cn := RX10) (T := TX10) (N := 9) X inX10 tyX10 tyX10_ok nmX10 hP hD hS 0 rfl rfl 8 (by decide) (hts _ q_fl_X10_86) (fun _ h9 => h9) rfl (tyX10_ok 8 (by decide)) rfl rfl (Nat.le_of_ble_eq_true rfl) rfl dX10_acts_229 (fun H locs hP hD hS => ?_)
              refine lv_iload_n hx hb dX10_acts_232 rfl (lv_at hl 1 rfl) ?_
              exact vx_ret (W.widen (k := 1) (n := 6) (Nat.le_of_ble_eq_true rfl) (Nat.le_of_ble_eq_true rfl) (z_retMi (Wf := (fun z => cl_X10 cI cJ cS a z)) (u := (z.1, z.2.1, z.2.2.1, z.2.2.2.1, u_21, (z.2.2.2.2.2.1.1, z.2.2.2.2.2.1.2.1, (0 : Int32), z.2.2.2.2.2.1.2.2.2.1, z.2.2.2.2.2.1.2.2.2.2.1, z.2.2.2.2.2.1.2.2.2.2.2.1, z.2.2.2.2.2.1.2.2.2.2.2.2), z.2.2.2.2.2.2.1, x_18, x_23)) X hf hP hD hS dX10_acts_233))
          · have hf := hf.2 c_19
            refine lv_aload_n hx hb dX10_acts_172 rfl (lv_at hl 0 rfl) ?_
            refine va_get (D := (dC, dI)) (ci := 9) (v := .ref (a 1)) (C := RX10) (T := TX10) (N := 9) hx hb hts inX10 hown hK hP 0 rfl rfl 0 (by decide) (hts _ q_fl_X10_10) (fun _ h9 => h9) rfl dX10_acts_173 ?_
            refine lv_aload_n hx hb dX10_acts_176 rfl (lv_at hl 0 rfl) ?_
            refine va_get (D := (dC, dI)) (ci := 9) (v := .ref (a 16)) (C := RX10) (T := TX10) (N := 9) hx hb hts inX10 hown hK hP 0 rfl rfl 1 (by decide) (hts _ q_fl_X10_16) (fun _ h9 => h9) rfl dX10_acts_177 ?_
            refine z_pVv (Wn := (fun u_25 => cl_X10 cI cJ cS a (u_25.1, u_25.2, z.2.2.1, z.2.2.2.1, z.2.2.2.2.1, (z.2.2.2.2.2.1.1, z.2.2.2.2.2.1.2.1, (0 : Int32), z.2.2.2.2.2.1.2.2.2.1, z.2.2.2.2.2.1.2.2.2.2.1, z.2.2.2.2.2.1.2.2.2.2.2.1, z.2.2.2.2.2.1.2.2.2.2.2.2), z.2.2.2.2.2.2.1, x_18, z.2.2.2.2.2.2.2.2))) (As := [.ref (a 16)]) (rest := []) (wr := rr_X10_np cI cJ cS a (z.1, z.2.1, z.2.2.1, z.2.2.2.1, z.2.2.2.2.1, (z.2.2.2.2.2.1.1, z.2.2.2.2.2.1.2.1, (0 : Int32), z.2.2.2.2.2.1.2.2.2.1, z.2.2.2.2.2.1.2.2.2.2.1, z.2.2.2.2.2.1.2.2.2.2.2.1, z.2.2.2.2.2.1.2.2.2.2.2.2), z.2.2.2.2.2.2.1, x_18, z.2.2.2.2.2.2.2.2)) X (c_X5_copyFrom l dC dI cI cJ cS (fun i => a (1 + i)) (fun i => a (16 + i)) z.1 z.2.1  _ hf _) zc_X5_copyFrom q_ml_X10_55 ⟨rfl, rfl⟩ ⟨Nat.le_of_ble_eq_true rfl, Nat.le_of_ble_eq_true rfl⟩ hP hD hS hA (pm_X10_np cI cJ cS a (z.1, z.2.1, z.2.2.1, z.2.2.2.1, z.2.2.2.2.1, (z.2.2.2.2.2.1.1, z.2.2.2.2.2.1.2.1, (0 : Int32), z.2.2.2.2.2.1.2.2.2.1, z.2.2.2.2.2.1.2.2.2.2.1, z.2.2.2.2.2.1.2.2.2.2.2.1, z.2.2.2.2.2.1.2.2.2.2.2.2), z.2.2.2.2.2.2.1, x_18, z.2.2.2.2.2.2.2.2)) (fun u_25 => pm_X10_np cI cJ cS a (u_25.1, u_25.2, z.2.2.1, z.2.2.2.1, z.2.2.2.2.1, (z.2.2.2.2.2.1.1, z.2.2.2.2.2.1.2.1, (0 : Int32), z.2.2.2.2.2.1.2.2.2.1, z.2.2.2.2.2.1.2.2.2.2.1, z.2.2.2.2.2.1.2.2.2.2.2.1, z.2.2.2.2.2.1.2.2.2.2.2.2), z.2.2.2.2.2.2.1, x_18, z.2.2.2.2.2.2.2.2)) 4 rfl rfl hl.1 rfl rfl (Nat.le_of_ble_eq_true rfl) ⟨Nat.le_of_ble_eq_true rfl, Nat.le_of_ble_eq_true rfl⟩ dX10_acts_180 (fun u_25 H locs hf hP hD hS => ?_)
            refine lv_aload_n hx hb dX10_acts_183 rfl (lv_at hl 0 rfl) ?_
            refine lv_iload_n hx hb dX10_acts_184 rfl (lv_at hl 2 rfl) ?_
            refine lv_if_ne (tgt := 195) hx hb dX10_acts_185 (by decide) (fun c_26 => ?_) (fun c_26 => ?_)
            · have hf := hf.1 c_26
              refine lv_iload_n hx hb dX10_acts_195 rfl (lv_at hl 2 rfl) ?_
              refine z_put (w' := cl_X10 cI cJ cS a (u_25.1, u_25.2, z.2.2.1, z.2.2.2.1, z.2.2.2.2.1, (z.2.2.2.2.2.1.1, z.2.2.2.2.2.1.2.1, (0 : Int32), z.2.2.2.2.2.1.2.2.2.1, z.2.2.2.2.2.1.2.2.2.2.1, z.2.2.2.2.2.1.2.2.2.2.2.1, z.2.2.2.2.2.1.2.2.2.2.2.2), z.2.2.2.2.2.2.1, x_18, y2)) (ci := 9) (v := .int y2) (ty := .int) (Cn := RX10) (T := TX10) (N := 9) X inX10 tyX10 tyX10_ok nmX10 hP hD hS 0 rfl rfl 8 (by decide) (hts _ q_fl_X10_86) (fun _ h9 => h9) rfl (tyX10_ok 8 (by decide)) rfl rfl (Nat.le_of_ble_eq_true rfl) rfl dX10_acts_196 (fun H locs hP hD hS => ?_)
              exact z_thrS (Wf := (fun z => cl_X10 cI cJ cS a z)) (u := (u_25.1, u_25.2, z.2.2.1, z.2.2.2.1, z.2.2.2.2.1, (z.2.2.2.2.2.1.1, z.2.2.2.2.2.1.2.1, (0 : Int32), z.2.2.2.2.2.1.2.2.2.1, z.2.2.2.2.2.1.2.2.2.2.1, z.2.2.2.2.2.1.2.2.2.2.2.1, z.2.2.2.2.2.1.2.2.2.2.2.2), z.2.2.2.2.2.2.1, x_18, y2)) 0 (by decide) 0 X hlt hF.2.2.2 htb hf hP hD hS hl.1 dX10_acts_199 dX10_acts_202 dX10_acts_203 dX10_acts_205 dX10_acts_208 ⟨Nat.le_of_ble_eq_true rfl, Nat.le_of_ble_eq_true rfl⟩ ⟨Nat.le_of_ble_eq_true rfl, Nat.le_of_ble_eq_true rfl⟩ ⟨Nat.le_of_ble_eq_true rfl, Nat.le_of_ble_eq_true rfl⟩
            · have hf := hf.2 c_26
              refine lv_aload_n hx hb dX10_acts_188 rfl (lv_at hl 0 rfl) ?_
              refine va_get (D := (dC, dI)) (ci := 9) (v := .int z.2.2.2.2.2.2.2.2) (C := RX10) (T := TX10) (N := 9) hx hb hts inX10 hown hK hP 0 rfl rfl 8 (by decide) (hts _ q_fl_X10_86) (fun _ h9 => h9) rfl dX10_acts_189 ?_
              refine lv_goto (tgt := 196) hx hb dX10_acts_192 (by decide) ?_
              refine lv_topi (fun x_27 ex_27 => ?_)
              have hf := hf x_27 ex_27
              refine z_put (w' := cl_X10 cI cJ cS a (u_25.1, u_25.2, z.2.2.1, z.2.2.2.1, z.2.2.2.2.1, (z.2.2.2.2.2.1.1, z.2.2.2.2.2.1.2.1, (0 : Int32), z.2.2.2.2.2.1.2.2.2.1, z.2.2.2.2.2.1.2.2.2.2.1, z.2.2.2.2.2.1.2.2.2.2.2.1, z.2.2.2.2.2.1.2.2.2.2.2.2), z.2.2.2.2.2.2.1, x_18, x_27)) (ci := 9) (v := .int x_27) (ty := .int) (Cn := RX10) (T := TX10) (N := 9) X inX10 tyX10 tyX10_ok nmX10 hP hD hS 0 rfl rfl 8 (by decide) (hts _ q_fl_X10_86) (fun _ h9 => h9) rfl (tyX10_ok 8 (by decide)) rfl rfl (Nat.le_of_ble_eq_true rfl) rfl dX10_acts_196 (fun H locs hP hD hS => ?_)
              exact z_thrS (Wf := (fun z => cl_X10 cI cJ cS a z)) (u := (u_25.1, u_25.2, z.2.2.1, z.2.2.2.1, z.2.2.2.2.1, (z.2.2.2.2.2.1.1, z.2.2.2.2.2.1.2.1, (0 : Int32), z.2.2.2.2.2.1.2.2.2.1, z.2.2.2.2.2.1.2.2.2.2.1, z.2.2.2.2.2.1.2.2.2.2.2.1, z.2.2.2.2.2.1.2.2.2.2.2.2), z.2.2.2.2.2.2.1, x_18, x_27)) 0 (by decide) 0 X hlt hF.2.2.2 htb hf hP hD hS hl.1 dX10_acts_199 dX10_acts_202 dX10_acts_203 dX10_acts_205 dX10_acts_208 ⟨Nat.le_of_ble_eq_true rfl, Nat.le_of_ble_eq_true rfl⟩ ⟨Nat.le_of_ble_eq_true rfl, Nat.le_of_ble_eq_true rfl⟩ ⟨Nat.le_of_ble_eq_true rfl, Nat.le_of_ble_eq_true rfl⟩
      · have hf := hf.2 c_6
        refine lv_iload_n hx hb dX10_acts_28 rfl (lv_at hl 2 rfl) ?_
        refine lv_if_ne (tgt := 131) hx hb dX10_acts_29 (by decide) (fun c_28 => ?_) (fun c_28 => ?_)
        · have hf := hf.1 c_28
          refine lv_aload_n hx hb dX10_acts_131 rfl (lv_at hl 0 rfl) ?_
          refine va_get (D := (dC, dI)) (ci := 9) (v := .ref (a 46)) (C := RX10) (T := TX10) (N := 9) hx hb hts inX10 hown hK hP 0 rfl rfl 5 (by decide) (hts _ q_fl_X10_32) (fun _ h9 => h9) rfl dX10_acts_132 ?_
          refine lv_iconst (v := 0) hx hb dX10_acts_135 (by decide) ?_
          refine z_put (w' := cl_X10 cI cJ cS a (z.1, z.2.1, z.2.2.1, z.2.2.2.1, z.2.2.2.2.1, (z.2.2.2.2.2.1.1, z.2.2.2.2.2.1.2.1, (0 : Int32), z.2.2.2.2.2.1.2.2.2.1, z.2.2.2.2.2.1.2.2.2.2.1, z.2.2.2.2.2.1.2.2.2.2.2.1, z.2.2.2.2.2.1.2.2.2.2.2.2), z.2.2.2.2.2.2)) (ci := 5) (v := .int (0 : Int32)) (ty := .int) (Cn := RX6) (T := TX6) (N := 7) X inX6 tyX6 tyX6_ok nmX6 hP hD hS 46 rfl rfl 2 (by decide) (hts _ q_fl_X10_52) (fun _ h9 => h9) rfl (tyX6_ok 2 (by decide)) rfl rfl (Nat.le_of_ble_eq_true rfl) rfl dX10_acts_136 (fun H locs hP hD hS => ?_)
          refine lv_aload_n hx hb dX10_acts_139 rfl (lv_at hl 0 rfl) ?_
          refine lv_iload_n hx hb dX10_acts_140 rfl (lv_at hl 2 rfl) ?_
          refine lv_if_ne (tgt := 154) hx hb dX10_acts_141 (by decide) (fun c_29 => ?_) (fun c_29 => ?_)
          · have hf := hf.1 c_29
            refine lv_aload_n hx hb dX10_acts_154 rfl (lv_at hl 0 rfl) ?_
            refine va_get (D := (dC, dI)) (ci := 9) (v := .ref (a 46)) (C := RX10) (T := TX10) (N := 9) hx hb hts inX10 hown hK hP 0 rfl rfl 5 (by decide) (hts _ q_fl_X10_32) (fun _ h9 => h9) rfl dX10_acts_155 ?_
            refine va_get (D := (dC, dI)) (ci := 5) (v := .int z.2.2.2.2.2.1.2.2.2.2.2.1) (C := RX6) (T := TX6) (N := 7) hx hb hts inX6 hown hK hP 46 rfl rfl 5 (by decide) (hts _ q_fl_X10_83) (fun _ h9 => h9) rfl dX10_acts_158 ?_
            refine lv_topi (fun x_30 ex_30 => ?_)
            have hf := hf x_30 ex_30
            refine z_put (w' := cl_X10 cI cJ cS a (z.1, z.2.1, z.2.2.1, z.2.2.2.1, z.2.2.2.2.1, (z.2.2.2.2.2.1.1, z.2.2.2.2.2.1.2.1, (0 : Int32), z.2.2.2.2.2.1.2.2.2.1, z.2.2.2.2.2.1.2.2.2.2.1, z.2.2.2.2.2.1.2.2.2.2.2.1, z.2.2.2.2.2.1.2.2.2.2.2.2), z.2.2.2.2.2.2.1, x_30, z.2.2.2.2.2.2.2.2)) (ci := 9) (v := .int x_30) (ty := .int) (Cn := RX10) (T := TX10) (N := 9) X inX10 tyX10 tyX10_ok nmX10 hP hD hS 0 rfl rfl 7 (by decide) (hts _ q_fl_X10_40) (fun _ h9 => h9) rfl (tyX10_ok 7 (by decide)) rfl rfl (Nat.le_of_ble_eq_true rfl) rfl dX10_acts_161 (fun H locs hP hD hS => ?_)
            refine lv_aload_n hx hb dX10_acts_164 rfl (lv_at hl 0 rfl) ?_
            refine va_get (D := (dC, dI)) (ci := 9) (v := .int x_30) (C := RX10) (T := TX10) (N := 9) hx hb hts inX10 hown hK hP 0 rfl rfl 7 (by decide) (hts _ q_fl_X10_40) (fun _ h9 => h9) rfl dX10_acts_165 ?_
            refine lv_iconst (v := (-1)) hx hb dX10_acts_168 (by decide) ?_
            refine lv_icmp_eq (tgt := 209) hx hb dX10_acts_169 (by decide) (fun c_31 => ?_) (fun c_31 => ?_)
            · have hf := hf.1 c_31
              refine lv_aload_n hx hb dX10_acts_209 rfl (lv_at hl 0 rfl) ?_
              refine va_get (D := (dC, dI)) (ci := 9) (v := .ref (a 50)) (C := RX10) (T := TX10) (N := 9) hx hb hts inX10 hown hK hP 0 rfl rfl 4 (by decide) (hts _ q_fl_X10_25) (fun _ h9 => h9) rfl dX10_acts_210 ?_
              refine z_pVv (Wn := (fun u_33 => cl_X10 cI cJ cS a (z.1, z.2.1, z.2.2.1, z.2.2.2.1, u_33, (z.2.2.2.2.2.1.1, z.2.2.2.2.2.1.2.1, (0 : Int32), z.2.2.2.2.2.1.2.2.2.1, z.2.2.2.2.2.1.2.2.2.2.1, z.2.2.2.2.2.1.2.2.2.2.2.1, z.2.2.2.2.2.1.2.2.2.2.2.2), z.2.2.2.2.2.2.1, x_30, z.2.2.2.2.2.2.2.2))) (As := []) (rest := []) (wr := rr_X10_m cI cJ cS a (z.1, z.2.1, z.2.2.1, z.2.2.2.1, z.2.2.2.2.1, (z.2.2.2.2.2.1.1, z.2.2.2.2.2.1.2.1, (0 : Int32), z.2.2.2.2.2.1.2.2.2.1, z.2.2.2.2.2.1.2.2.2.2.1, z.2.2.2.2.2.1.2.2.2.2.2.1, z.2.2.2.2.2.1.2.2.2.2.2.2), z.2.2.2.2.2.2.1, x_30, z.2.2.2.2.2.2.2.2)) X (c_X3_forget l dC dI cI cJ cS (fun i => a (50 + i)) z.2.2.2.2.1  _ hf _) zc_X3_forget q_ml_X10_96 ⟨rfl, rfl⟩ ⟨Nat.le_of_ble_eq_true rfl, Nat.le_of_ble_eq_true rfl⟩ hP hD hS hA (pm_X10_m cI cJ cS a (z.1, z.2.1, z.2.2.1, z.2.2.2.1, z.2.2.2.2.1, (z.2.2.2.2.2.1.1, z.2.2.2.2.2.1.2.1, (0 : Int32), z.2.2.2.2.2.1.2.2.2.1, z.2.2.2.2.2.1.2.2.2.2.1, z.2.2.2.2.2.1.2.2.2.2.2.1, z.2.2.2.2.2.1.2.2.2.2.2.2), z.2.2.2.2.2.2.1, x_30, z.2.2.2.2.2.2.2.2)) (fun u_33 => pm_X10_m cI cJ cS a (z.1, z.2.1, z.2.2.1, z.2.2.2.1, u_33, (z.2.2.2.2.2.1.1, z.2.2.2.2.2.1.2.1, (0 : Int32), z.2.2.2.2.2.1.2.2.2.1, z.2.2.2.2.2.1.2.2.2.2.1, z.2.2.2.2.2.1.2.2.2.2.2.1, z.2.2.2.2.2.1.2.2.2.2.2.2), z.2.2.2.2.2.2.1, x_30, z.2.2.2.2.2.2.2.2)) 2 rfl rfl hl.1 rfl rfl (Nat.le_of_ble_eq_true rfl) ⟨Nat.le_of_ble_eq_true rfl, Nat.le_of_ble_eq_true rfl⟩ dX10_acts_213 (fun u_33 H locs hf hP hD hS => ?_)
              refine lv_aload_n hx hb dX10_acts_216 rfl (lv_at hl 0 rfl) ?_
              refine lv_iload_n hx hb dX10_acts_217 rfl (lv_at hl 1 rfl) ?_
              refine lv_if_ne (tgt := 228) hx hb dX10_acts_218 (by decide) (fun c_34 => ?_) (fun c_34 => ?_)
              · have hf := hf.1 c_34
                refine lv_iconst (v := 0) hx hb dX10_acts_228 (by decide) ?_
                refine z_put (w' := cl_X10 cI cJ cS a (z.1, z.2.1, z.2.2.1, z.2.2.2.1, u_33, (z.2.2.2.2.2.1.1, z.2.2.2.2.2.1.2.1, (0 : Int32), z.2.2.2.2.2.1.2.2.2.1, z.2.2.2.2.2.1.2.2.2.2.1, z.2.2.2.2.2.1.2.2.2.2.2.1, z.2.2.2.2.2.1.2.2.2.2.2.2), z.2.2.2.2.2.2.1, x_30, (0 : Int32))) (ci := 9) (v := .int (0 : Int32)) (ty := .int) (Cn := RX10) (T := TX10) (N := 9) X inX10 tyX10 tyX10_ok nmX10 hP hD hS 0 rfl rfl 8 (by decide) (hts _ q_fl_X10_86) (fun _ h9 => h9) rfl (tyX10_ok 8 (by decide)) rfl rfl (Nat.le_of_ble_eq_true rfl) rfl dX10_acts_229 (fun H locs hP hD hS => ?_)
                refine lv_iload_n hx hb dX10_acts_232 rfl (lv_at hl 1 rfl) ?_
                exact vx_ret (W.widen (k := 1) (n := 6) (Nat.le_of_ble_eq_true rfl) (Nat.le_of_ble_eq_true rfl) (z_retMi (Wf := (fun z => cl_X10 cI cJ cS a z)) (u := (z.1, z.2.1, z.2.2.1, z.2.2.2.1, u_33, (z.2.2.2.2.2.1.1, z.2.2.2.2.2.1.2.1, (0 : Int32), z.2.2.2.2.2.1.2.2.2.1, z.2.2.2.2.2.1.2.2.2.2.1, z.2.2.2.2.2.1.2.2.2.2.2.1, z.2.2.2.2.2.1.2.2.2.2.2.2), z.2.2.2.2.2.2.1, x_30, (0 : Int32))) X hf hP hD hS dX10_acts_233))
              · have hf := hf.2 c_34
                refine lv_aload_n hx hb dX10_acts_221 rfl (lv_at hl 0 rfl) ?_
                refine va_get (D := (dC, dI)) (ci := 9) (v := .int z.2.2.2.2.2.2.2.2) (C := RX10) (T := TX10) (N := 9) hx hb hts inX10 hown hK hP 0 rfl rfl 8 (by decide) (hts _ q_fl_X10_86) (fun _ h9 => h9) rfl dX10_acts_222 ?_
                refine lv_goto (tgt := 229) hx hb dX10_acts_225 (by decide) ?_
                refine lv_topi (fun x_35 ex_35 => ?_)
                have hf := hf x_35 ex_35
                refine z_put (w' := cl_X10 cI cJ cS a (z.1, z.2.1, z.2.2.1, z.2.2.2.1, u_33, (z.2.2.2.2.2.1.1, z.2.2.2.2.2.1.2.1, (0 : Int32), z.2.2.2.2.2.1.2.2.2.1, z.2.2.2.2.2.1.2.2.2.2.1, z.2.2.2.2.2.1.2.2.2.2.2.1, z.2.2.2.2.2.1.2.2.2.2.2.2), z.2.2.2.2.2.2.1, x_30, x_35)) (ci := 9) (v := .int x_35) (ty := .int) (Cn := RX10) (T := TX10) (N := 9) X inX10 tyX10 tyX10_ok nmX10 hP hD hS 0 rfl rfl 8 (by decide) (hts _ q_fl_X10_86) (fun _ h9 => h9) rfl (tyX10_ok 8 (by decide)) rfl rfl (Nat.le_of_ble_eq_true rfl) rfl dX10_acts_229 (fun H locs hP hD hS => ?_)
                refine lv_iload_n hx hb dX10_acts_232 rfl (lv_at hl 1 rfl) ?_
                exact vx_ret (W.widen (k := 1) (n := 6) (Nat.le_of_ble_eq_true rfl) (Nat.le_of_ble_eq_true rfl) (z_retMi (Wf := (fun z => cl_X10 cI cJ cS a z)) (u := (z.1, z.2.1, z.2.2.1, z.2.2.2.1, u_33, (z.2.2.2.2.2.1.1, z.2.2.2.2.2.1.2.1, (0 : Int32), z.2.2.2.2.2.1.2.2.2.1, z.2.2.2.2.2.1.2.2.2.2.1, z.2.2.2.2.2.1.2.2.2.2.2.1, z.2.2.2.2.2.1.2.2.2.2.2.2), z.2.2.2.2.2.2.1, x_30, x_35)) X hf hP hD hS dX10_acts_233))
            · have hf := hf.2 c_31
              refine lv_aload_n hx hb dX10_acts_172 rfl (lv_at hl 0 rfl) ?_
              refine va_get (D := (dC, dI)) (ci := 9) (v := .ref (a 1)) (C := RX10) (T := TX10) (N := 9) hx hb hts inX10 hown hK hP 0 rfl rfl 0 (by decide) (hts _ q_fl_X10_10) (fun _ h9 => h9) rfl dX10_acts_173 ?_
              refine lv_aload_n hx hb dX10_acts_176 rfl (lv_at hl 0 rfl) ?_
              refine va_get (D := (dC, dI)) (ci := 9) (v := .ref (a 16)) (C := RX10) (T := TX10) (N := 9) hx hb hts inX10 hown hK hP 0 rfl rfl 1 (by decide) (hts _ q_fl_X10_16) (fun _ h9 => h9) rfl dX10_acts_177 ?_
              refine z_pVv (Wn := (fun u_37 => cl_X10 cI cJ cS a (u_37.1, u_37.2, z.2.2.1, z.2.2.2.1, z.2.2.2.2.1, (z.2.2.2.2.2.1.1, z.2.2.2.2.2.1.2.1, (0 : Int32), z.2.2.2.2.2.1.2.2.2.1, z.2.2.2.2.2.1.2.2.2.2.1, z.2.2.2.2.2.1.2.2.2.2.2.1, z.2.2.2.2.2.1.2.2.2.2.2.2), z.2.2.2.2.2.2.1, x_30, z.2.2.2.2.2.2.2.2))) (As := [.ref (a 16)]) (rest := []) (wr := rr_X10_np cI cJ cS a (z.1, z.2.1, z.2.2.1, z.2.2.2.1, z.2.2.2.2.1, (z.2.2.2.2.2.1.1, z.2.2.2.2.2.1.2.1, (0 : Int32), z.2.2.2.2.2.1.2.2.2.1, z.2.2.2.2.2.1.2.2.2.2.1, z.2.2.2.2.2.1.2.2.2.2.2.1, z.2.2.2.2.2.1.2.2.2.2.2.2), z.2.2.2.2.2.2.1, x_30, z.2.2.2.2.2.2.2.2)) X (c_X5_copyFrom l dC dI cI cJ cS (fun i => a (1 + i)) (fun i => a (16 + i)) z.1 z.2.1  _ hf _) zc_X5_copyFrom q_ml_X10_55 ⟨rfl, rfl⟩ ⟨Nat.le_of_ble_eq_true rfl, Nat.le_of_ble_eq_true rfl⟩ hP hD hS hA (pm_X10_np cI cJ cS a (z.1, z.2.1, z.2.2.1, z.2.2.2.1, z.2.2.2.2.1, (z.2.2.2.2.2.1.1, z.2.2.2.2.2.1.2.1, (0 : Int32), z.2.2.2.2.2.1.2.2.2.1, z.2.2.2.2.2.1.2.2.2.2.1, z.2.2.2.2.2.1.2.2.2.2.2.1, z.2.2.2.2.2.1.2.2.2.2.2.2), z.2.2.2.2.2.2.1, x_30, z.2.2.2.2.2.2.2.2)) (fun u_37 => pm_X10_np cI cJ cS a (u_37.1, u_37.2, z.2.2.1, z.2.2.2.1, z.2.2.2.2.1, (z.2.2.2.2.2.1.1, z.2.2.2.2.2.1.2.1, (0 : Int32), z.2.2.2.2.2.1.2.2.2.1, z.2.2.2.2.2.1.2.2.2.2.1, z.2.2.2.2.2.1.2.2.2.2.2.1, z.2.2.2.2.2.1.2.2.2.2.2.2), z.2.2.2.2.2.2.1, x_30, z.2.2.2.2.2.2.2.2)) 4 rfl rfl hl.1 rfl rfl (Nat.le_of_ble_eq_true rfl) ⟨Nat.le_of_ble_eq_true rfl, Nat.le_of_ble_eq_true rfl⟩ dX10_acts_180 (fun u_37 H locs hf hP hD hS => ?_)
              refine lv_aload_n hx hb dX10_acts_183 rfl (lv_at hl 0 rfl) ?_
              refine lv_iload_n hx hb dX10_acts_184 rfl (lv_at hl 2 rfl) ?_
              refine lv_if_ne (tgt := 195) hx hb dX10_acts_185 (by decide) (fun c_38 => ?_) (fun c_38 => ?_)
              · have hf := hf.1 c_38
                refine lv_iload_n hx hb dX10_acts_195 rfl (lv_at hl 2 rfl) ?_
                refine z_put (w' := cl_X10 cI cJ cS a (u_37.1, u_37.2, z.2.2.1, z.2.2.2.1, z.2.2.2.2.1, (z.2.2.2.2.2.1.1, z.2.2.2.2.2.1.2.1, (0 : Int32), z.2.2.2.2.2.1.2.2.2.1, z.2.2.2.2.2.1.2.2.2.2.1, z.2.2.2.2.2.1.2.2.2.2.2.1, z.2.2.2.2.2.1.2.2.2.2.2.2), z.2.2.2.2.2.2.1, x_30, y2)) (ci := 9) (v := .int y2) (ty := .int) (Cn := RX10) (T := TX10) (N := 9) X inX10 tyX10 tyX10_ok nmX10 hP hD hS 0 rfl rfl 8 (by decide) (hts _ q_fl_X10_86) (fun _ h9 => h9) rfl (tyX10_ok 8 (by decide)) rfl rfl (Nat.le_of_ble_eq_true rfl) rfl dX10_acts_196 (fun H locs hP hD hS => ?_)
                exact z_thrS (Wf := (fun z => cl_X10 cI cJ cS a z)) (u := (u_37.1, u_37.2, z.2.2.1, z.2.2.2.1, z.2.2.2.2.1, (z.2.2.2.2.2.1.1, z.2.2.2.2.2.1.2.1, (0 : Int32), z.2.2.2.2.2.1.2.2.2.1, z.2.2.2.2.2.1.2.2.2.2.1, z.2.2.2.2.2.1.2.2.2.2.2.1, z.2.2.2.2.2.1.2.2.2.2.2.2), z.2.2.2.2.2.2.1, x_30, y2)) 0 (by decide) 0 X hlt hF.2.2.2 htb hf hP hD hS hl.1 dX10_acts_199 dX10_acts_202 dX10_acts_203 dX10_acts_205 dX10_acts_208 ⟨Nat.le_of_ble_eq_true rfl, Nat.le_of_ble_eq_true rfl⟩ ⟨Nat.le_of_ble_eq_true rfl, Nat.le_of_ble_eq_true rfl⟩ ⟨Nat.le_of_ble_eq_true rfl, Nat.le_of_ble_eq_true rfl⟩
              · have hf := hf.2 c_38
                refine lv_aload_n hx hb dX10_acts_188 rfl (lv_at hl 0 rfl) ?_
                refine va_get (D := (dC, dI)) (ci := 9) (v := .int z.2.2.2.2.2.2.2.2) (C := RX10) (T := TX10) (N := 9) hx hb hts inX10 hown hK hP 0 rfl rfl 8 (by decide) (hts _ q_fl_X10_86) (fun _ h9 => h9) rfl dX10_acts_189 ?_
                refine lv_goto (tgt := 196) hx hb dX10_acts_192 (by decide) ?_
                refine lv_topi (fun x_39 ex_39 => ?_)
                have hf := hf x_39 ex_39
                refine z_put (w' := cl_X10 cI cJ cS a (u_37.1, u_37.2, z.2.2.1, z.2.2.2.1, z.2.2.2.2.1, (z.2.2.2.2.2.1.1, z.2.2.2.2.2.1.2.1, (0 : Int32), z.2.2.2.2.2.1.2.2.2.1, z.2.2.2.2.2.1.2.2.2.2.1, z.2.2.2.2.2.1.2.2.2.2.2.1, z.2.2.2.2.2.1.2.2.2.2.2.2), z.2.2.2.2.2.2.1, x_30, x_39)) (ci := 9) (v := .int x_39) (ty := .int) (Cn := RX10) (T := TX10) (N := 9) X inX10 tyX10 tyX10_ok nmX10 hP hD hS 0 rfl rfl 8 (by decide) (hts _ q_fl_X10_86) (fun _ h9 => h9) rfl (tyX10_ok 8 (by decide)) rfl rfl (Nat.le_of_ble_eq_true rfl) rfl dX10_acts_196 (fun H locs hP hD hS => ?_)
                exact z_thrS (Wf := (fun z => cl_X10 cI cJ cS a z)) (u := (u_37.1, u_37.2, z.2.2.1, z.2.2.2.1, z.2.2.2.2.1, (z.2.2.2.2.2.1.1, z.2.2.2.2.2.1.2.1, (0 : Int32), z.2.2.2.2.2.1.2.2.2.1, z.2.2.2.2.2.1.2.2.2.2.1, z.2.2.2.2.2.1.2.2.2.2.2.1, z.2.2.2.2.2.1.2.2.2.2.2.2), z.2.2.2.2.2.2.1, x_30, x_39)) 0 (by decide) 0 X hlt hF.2.2.2 htb hf hP hD hS hl.1 dX10_acts_199 dX10_acts_202 dX10_acts_203 dX10_acts_205 dX10_acts_208 ⟨Nat.le_of_ble_eq_true rfl, Nat.le_of_ble_eq_true rfl⟩ ⟨Nat.le_of_ble_eq_true rfl, Nat.le_of_ble_eq_true rfl⟩ ⟨Nat.le_of_ble_eq_true rfl, Nat.le_of_ble_eq_true rfl⟩
          · have hf := hf.2 c_29
            refine lv_aload_n hx hb dX10_acts_144 rfl (lv_at hl 0 rfl) ?_
            refine va_get (D := (dC, dI)) (ci := 9) (v := .ref (a 46)) (C := RX10) (T := TX10) (N := 9) hx hb hts inX10 hown hK hP 0 rfl rfl 5 (by decide) (hts _ q_fl_X10_32) (fun _ h9 => h9) rfl dX10_acts_145 ?_
            refine va_get (D := (dC, dI)) (ci := 5) (v := .int z.2.2.2.2.2.1.2.2.2.2.2.2) (C := RX6) (T := TX6) (N := 7) hx hb hts inX6 hown hK hP 46 rfl rfl 6 (by decide) (hts _ q_fl_X10_80) (fun _ h9 => h9) rfl dX10_acts_148 ?_
            refine lv_goto (tgt := 161) hx hb dX10_acts_151 (by decide) ?_
            refine lv_topi (fun x_40 ex_40 => ?_)
            have hf := hf x_40 ex_40
            refine z_put (w' := cl_X10 cI cJ cS a (z.1, z.2.1, z.2.2.1, z.2.2.2.1, z.2.2.2.2.1, (z.2.2.2.2.2.1.1, z.2.2.2.2.2.1.2.1, (0 : Int32), z.2.2.2.2.2.1.2.2.2.1, z.2.2.2.2.2.1.2.2.2.2.1, z.2.2.2.2.2.1.2.2.2.2.2.1, z.2.2.2.2.2.1.2.2.2.2.2.2), z.2.2.2.2.2.2.1, x_40, z.2.2.2.2.2.2.2.2)) (ci := 9) (v := .int x_40) (ty := .int) (Cn := RX10) (T := TX10) (N := 9) X inX10 tyX10 tyX10_ok nmX10 hP hD hS 0 rfl rfl 7 (by decide) (hts _ q_fl_X10_40) (fun _ h9 => h9) rfl (tyX10_ok 7 (by decide)) rfl rfl (Nat.le_of_ble_eq_true rfl) rfl dX10_acts_161 (fun H locs hP hD hS => ?_)
            refine lv_aload_n hx hb dX10_acts_164 rfl (lv_at hl 0 rfl) ?_
            refine va_get (D := (dC, dI)) (ci := 9) (v := .int x_40) (C := RX10) (T := TX10) (N := 9) hx hb hts inX10 hown hK hP 0 rfl rfl 7 (by decide) (hts _ q_fl_X10_40) (fun _ h9 => h9) rfl dX10_acts_165 ?_
            refine lv_iconst (v := (-1)) hx hb dX10_acts_168 (by decide) ?_
            refine lv_icmp_eq (tgt := 209) hx hb dX10_acts_169 (by decide) (fun c_41 => ?_) (fun c_41 => ?_)
            · have hf := hf.1 c_41
              refine lv_aload_n hx hb dX10_acts_209 rfl (lv_at hl 0 rfl) ?_
              refine va_get (D := (dC, dI)) (ci := 9) (v := .ref (a 50)) (C := RX10) (T := TX10) (N := 9) hx hb hts inX10 hown hK hP 0 rfl rfl 4 (by decide) (hts _ q_fl_X10_25) (fun _ h9 => h9) rfl dX10_acts_210 ?_
              refine z_pVv (Wn := (fun u_43 => cl_X10 cI cJ cS a (z.1, z.2.1, z.2.2.1, z.2.2.2.1, u_43, (z.2.2.2.2.2.1.1, z.2.2.2.2.2.1.2.1, (0 : Int32), z.2.2.2.2.2.1.2.2.2.1, z.2.2.2.2.2.1.2.2.2.2.1, z.2.2.2.2.2.1.2.2.2.2.2.1, z.2.2.2.2.2.1.2.2.2.2.2.2), z.2.2.2.2.2.2.1, x_40, z.2.2.2.2.2.2.2.2))) (As := []) (rest := []) (wr := rr_X10_m cI cJ cS a (z.1, z.2.1, z.2.2.1, z.2.2.2.1, z.2.2.2.2.1, (z.2.2.2.2.2.1.1, z.2.2.2.2.2.1.2.1, (0 : Int32), z.2.2.2.2.2.1.2.2.2.1, z.2.2.2.2.2.1.2.2.2.2.1, z.2.2.2.2.2.1.2.2.2.2.2.1, z.2.2.2.2.2.1.2.2.2.2.2.2), z.2.2.2.2.2.2.1, x_40, z.2.2.2.2.2.2.2.2)) X (c_X3_forget l dC dI cI cJ cS (fun i => a (50 + i)) z.2.2.2.2.1  _ hf _) zc_X3_forget q_ml_X10_96 ⟨rfl, rfl⟩ ⟨Nat.le_of_ble_eq_true rfl, Nat.le_of_ble_eq_true rfl⟩ hP hD hS hA (pm_X10_m cI cJ cS a (z.1, z.2.1, z.2.2.1, z.2.2.2.1, z.2.2.2.2.1, (z.2.2.2.2.2.1.1, z.2.2.2.2.2.1.2.1, (0 : Int32), z.2.2.2.2.2.1.2.2.2.1, z.2.2.2.2.2.1.2.2.2.2.1, z.2.2.2.2.2.1.2.2.2.2.2.1, z.2.2.2.2.2.1.2.2.2.2.2.2), z.2.2.2.2.2.2.1, x_40, z.2.2.2.2.2.2.2.2)) (fun u_43 => pm_X10_m cI cJ cS a (z.1, z.2.1, z.2.2.1, z.2.2.2.1, u_43, (z.2.2.2.2.2.1.1, z.2.2.2.2.2.1.2.1, (0 : Int32), z.2.2.2.2.2.1.2.2.2.1, z.2.2.2.2.2.1.2.2.2.2.1, z.2.2.2.2.2.1.2.2.2.2.2.1, z.2.2.2.2.2.1.2.2.2.2.2.2), z.2.2.2.2.2.2.1, x_40, z.2.2.2.2.2.2.2.2)) 2 rfl rfl hl.1 rfl rfl (Nat.le_of_ble_eq_true rfl) ⟨Nat.le_of_ble_eq_true rfl, Nat.le_of_ble_eq_true rfl⟩ dX10_acts_213 (fun u_43 H locs hf hP hD hS => ?_)
              refine lv_aload_n hx hb dX10_acts_216 rfl (lv_at hl 0 rfl) ?_
              refine lv_iload_n hx hb dX10_acts_217 rfl (lv_at hl 1 rfl) ?_
              refine lv_if_ne (tgt := 228) hx hb dX10_acts_218 (by decide) (fun c_44 => ?_) (fun c_44 => ?_)
              · have hf := hf.1 c_44
                refine lv_iconst (v := 0) hx hb dX10_acts_228 (by decide) ?_
                refine z_put (w' := cl_X10 cI cJ cS a (z.1, z.2.1, z.2.2.1, z.2.2.2.1, u_43, (z.2.2.2.2.2.1.1, z.2.2.2.2.2.1.2.1, (0 : Int32), z.2.2.2.2.2.1.2.2.2.1, z.2.2.2.2.2.1.2.2.2.2.1, z.2.2.2.2.2.1.2.2.2.2.2.1, z.2.2.2.2.2.1.2.2.2.2.2.2), z.2.2.2.2.2.2.1, x_40, (0 : Int32))) (ci := 9) (v := .int (0 : Int32)) (ty := .int) (Cn := RX10) (T := TX10) (N := 9) X inX10 tyX10 tyX10_ok nmX10 hP hD hS 0 rfl rfl 8 (by decide) (hts _ q_fl_X10_86) (fun _ h9 => h9) rfl (tyX10_ok 8 (by decide)) rfl rfl (Nat.le_of_ble_eq_true rfl) rfl dX10_acts_229 (fun H locs hP hD hS => ?_)
                refine lv_iload_n hx hb dX10_acts_232 rfl (lv_at hl 1 rfl) ?_
                exact vx_ret (W.widen (k := 1) (n := 6) (Nat.le_of_ble_eq_true rfl) (Nat.le_of_ble_eq_true rfl) (z_retMi (Wf := (fun z => cl_X10 cI cJ cS a z)) (u := (z.1, z.2.1, z.2.2.1, z.2.2.2.1, u_43, (z.2.2.2.2.2.1.1, z.2.2.2.2.2.1.2.1, (0 : Int32), z.2.2.2.2.2.1.2.2.2.1, z.2.2.2.2.2.1.2.2.2.2.1, z.2.2.2.2.2.1.2.2.2.2.2.1, z.2.2.2.2.2.1.2.2.2.2.2.2), z.2.2.2.2.2.2.1, x_40, (0 : Int32))) X hf hP hD hS dX10_acts_233))
              · have hf := hf.2 c_44
                refine lv_aload_n hx hb dX10_acts_221 rfl (lv_at hl 0 rfl) ?_
                refine va_get (D := (dC, dI)) (ci := 9) (v := .int z.2.2.2.2.2.2.2.2) (C := RX10) (T := TX10) (N := 9) hx hb hts inX10 hown hK hP 0 rfl rfl 8 (by decide) (hts _ q_fl_X10_86) (fun _ h9 => h9) rfl dX10_acts_222 ?_
                refine lv_goto (tgt := 229) hx hb dX10_acts_225 (by decide) ?_
                refine lv_topi (fun x_45 ex_45 => ?_)
                have hf := hf x_45 ex_45
                refine z_put (w' := cl_X10 cI cJ cS a (z.1, z.2.1, z.2.2.1, z.2.2.2.1, u_43, (z.2.2.2.2.2.1.1, z.2.2.2.2.2.1.2.1, (0 : Int32), z.2.2.2.2.2.1.2.2.2.1, z.2.2.2.2.2.1.2.2.2.2.1, z.2.2.2.2.2.1.2.2.2.2.2.1, z.2.2.2.2.2.1.2.2.2.2.2.2), z.2.2.2.2.2.2.1, x_40, x_45)) (ci := 9) (v := .int x_45) (ty := .int) (Cn := RX10) (T := TX10) (N := 9) X inX10 tyX10 tyX10_ok nmX10 hP hD hS 0 rfl rfl 8 (by decide) (hts _ q_fl_X10_86) (fun _ h9 => h9) rfl (tyX10_ok 8 (by decide)) rfl rfl (Nat.le_of_ble_eq_true rfl) rfl dX10_acts_229 (fun H locs hP hD hS => ?_)
                refine lv_iload_n hx hb dX10_acts_232 rfl (lv_at hl 1 rfl) ?_
                exact vx_ret (W.widen (k := 1) (n := 6) (Nat.le_of_ble_eq_true rfl) (Nat.le_of_ble_eq_true rfl) (z_retMi (Wf := (fun z => cl_X10 cI cJ cS a z)) (u := (z.1, z.2.1, z.2.2.1, z.2.2.2.1, u_43, (z.2.2.2.2.2.1.1, z.2.2.2.2.2.1.2.1, (0 : Int32), z.2.2.2.2.2.1.2.2.2.1, z.2.2.2.2.2.1.2.2.2.2.1, z.2.2.2.2.2.1.2.2.2.2.2.1, z.2.2.2.2.2.1.2.2.2.2.2.2), z.2.2.2.2.2.2.1, x_40, x_45)) X hf hP hD hS dX10_acts_233))
            · have hf := hf.2 c_41
              refine lv_aload_n hx hb dX10_acts_172 rfl (lv_at hl 0 rfl) ?_
              refine va_get (D := (dC, dI)) (ci := 9) (v := .ref (a 1)) (C := RX10) (T := TX10) (N := 9) hx hb hts inX10 hown hK hP 0 rfl rfl 0 (by decide) (hts _ q_fl_X10_10) (fun _ h9 => h9) rfl dX10_acts_173 ?_
              refine lv_aload_n hx hb dX10_acts_176 rfl (lv_at hl 0 rfl) ?_
              refine va_get (D := (dC, dI)) (ci := 9) (v := .ref (a 16)) (C := RX10) (T := TX10) (N := 9) hx hb hts inX10 hown hK hP 0 rfl rfl 1 (by decide) (hts _ q_fl_X10_16) (fun _ h9 => h9) rfl dX10_acts_177 ?_
              refine z_pVv (Wn := (fun u_47 => cl_X10 cI cJ cS a (u_47.1, u_47.2, z.2.2.1, z.2.2.2.1, z.2.2.2.2.1, (z.2.2.2.2.2.1.1, z.2.2.2.2.2.1.2.1, (0 : Int32), z.2.2.2.2.2.1.2.2.2.1, z.2.2.2.2.2.1.2.2.2.2.1, z.2.2.2.2.2.1.2.2.2.2.2.1, z.2.2.2.2.2.1.2.2.2.2.2.2), z.2.2.2.2.2.2.1, x_40, z.2.2.2.2.2.2.2.2))) (As := [.ref (a 16)]) (rest := []) (wr := rr_X10_np cI cJ cS a (z.1, z.2.1, z.2.2.1, z.2.2.2.1, z.2.2.2.2.1, (z.2.2.2.2.2.1.1, z.2.2.2.2.2.1.2.1, (0 : Int32), z.2.2.2.2.2.1.2.2.2.1, z.2.2.2.2.2.1.2.2.2.2.1, z.2.2.2.2.2.1.2.2.2.2.2.1, z.2.2.2.2.2.1.2.2.2.2.2.2), z.2.2.2.2.2.2.1, x_40, z.2.2.2.2.2.2.2.2)) X (c_X5_copyFrom l dC dI cI cJ cS (fun i => a (1 + i)) (fun i => a (16 + i)) z.1 z.2.1  _ hf _) zc_X5_copyFrom q_ml_X10_55 ⟨rfl, rfl⟩ ⟨Nat.le_of_ble_eq_true rfl, Nat.le_of_ble_eq_true rfl⟩ hP hD hS hA (pm_X10_np cI cJ cS a (z.1, z.2.1, z.2.2.1, z.2.2.2.1, z.2.2.2.2.1, (z.2.2.2.2.2.1.1, z.2.2.2.2.2.1.2.1, (0 : Int32), z.2.2.2.2.2.1.2.2.2.1, z.2.2.2.2.2.1.2.2.2.2.1, z.2.2.2.2.2.1.2.2.2.2.2.1, z.2.2.2.2.2.1.2.2.2.2.2.2), z.2.2.2.2.2.2.1, x_40, z.2.2.2.2.2.2.2.2)) (fun u_47 => pm_X10_np cI cJ cS a (u_47.1, u_47.2, z.2.2.1, z.2.2.2.1, z.2.2.2.2.1, (z.2.2.2.2.2.1.1, z.2.2.2.2.2.1.2.1, (0 : Int32), z.2.2.2.2.2.1.2.2.2.1, z.2.2.2.2.2.1.2.2.2.2.1, z.2.2.2.2.2.1.2.2.2.2.2.1, z.2.2.2.2.2.1.2.2.2.2.2.2), z.2.2.2.2.2.2.1, x_40, z.2.2.2.2.2.2.2.2)) 4 rfl rfl hl.1 rfl rfl (Nat.le_of_ble_eq_true rfl) ⟨Nat.le_of_ble_eq_true rfl, Nat.le_of_ble_eq_true rfl⟩ dX10_acts_180 (fun u_47 H locs hf hP hD hS => ?_)
              refine lv_aload_n hx hb dX10_acts_183 rfl (lv_at hl 0 rfl) ?_
              refine lv_iload_n hx hb dX10_acts_184 rfl (lv_at hl 2 rfl) ?_
              refine lv_if_ne (tgt := 195) hx hb dX10_acts_185 (by decide) (fun c_48 => ?_) (fun c_48 => ?_)
              · have hf := hf.1 c_48
                refine lv_iload_n hx hb dX10_acts_195 rfl (lv_at hl 2 rfl) ?_
                refine z_put (w' := cl_X10 cI cJ cS a (u_47.1, u_47.2, z.2.2.1, z.2.2.2.1, z.2.2.2.2.1, (z.2.2.2.2.2.1.1, z.2.2.2.2.2.1.2.1, (0 : Int32), z.2.2.2.2.2.1.2.2.2.1, z.2.2.2.2.2.1.2.2.2.2.1, z.2.2.2.2.2.1.2.2.2.2.2.1, z.2.2.2.2.2.1.2.2.2.2.2.2), z.2.2.2.2.2.2.1, x_40, y2)) (ci := 9) (v := .int y2) (ty := .int) (Cn := RX10) (T := TX10) (N := 9) X inX10 tyX10 tyX10_ok nmX10 hP hD hS 0 rfl rfl 8 (by decide) (hts _ q_fl_X10_86) (fun _ h9 => h9) rfl (tyX10_ok 8 (by decide)) rfl rfl (Nat.le_of_ble_eq_true rfl) rfl dX10_acts_196 (fun H locs hP hD hS => ?_)
                exact z_thrS (Wf := (fun z => cl_X10 cI cJ cS a z)) (u := (u_47.1, u_47.2, z.2.2.1, z.2.2.2.1, z.2.2.2.2.1, (z.2.2.2.2.2.1.1, z.2.2.2.2.2.1.2.1, (0 : Int32), z.2.2.2.2.2.1.2.2.2.1, z.2.2.2.2.2.1.2.2.2.2.1, z.2.2.2.2.2.1.2.2.2.2.2.1, z.2.2.2.2.2.1.2.2.2.2.2.2), z.2.2.2.2.2.2.1, x_40, y2)) 0 (by decide) 0 X hlt hF.2.2.2 htb hf hP hD hS hl.1 dX10_acts_199 dX10_acts_202 dX10_acts_203 dX10_acts_205 dX10_acts_208 ⟨Nat.le_of_ble_eq_true rfl, Nat.le_of_ble_eq_true rfl⟩ ⟨Nat.le_of_ble_eq_true rfl, Nat.le_of_ble_eq_true rfl⟩ ⟨Nat.le_of_ble_eq_true rfl, Nat.le_of_ble_eq_true rfl⟩
              · have hf := hf.2 c_48
                refine lv_aload_n hx hb dX10_acts_188 rfl (lv_at hl 0 rfl) ?_
                refine va_get (D := (dC, dI)) (ci := 9) (v := .int z.2.2.2.2.2.2.2.2) (C := RX10) (T := TX10) (N := 9) hx hb hts inX10 hown hK hP 0 rfl rfl 8 (by decide) (hts _ q_fl_X10_86) (fun _ h9 => h9) rfl dX10_acts_189 ?_
                refine lv_goto (tgt := 196) hx hb dX10_acts_192 (by decide) ?_
                refine lv_topi (fun x_49 ex_49 => ?_)
                have hf := hf x_49 ex_49
                refine z_put (w' := cl_X10 cI cJ cS a (u_47.1, u_47.2, z.2.2.1, z.2.2.2.1, z.2.2.2.2.1, (z.2.2.2.2.2.1.1, z.2.2.2.2.2.1.2.1, (0 : Int32), z.2.2.2.2.2.1.2.2.2.1, z.2.2.2.2.2.1.2.2.2.2.1, z.2.2.2.2.2.1.2.2.2.2.2.1, z.2.2.2.2.2.1.2.2.2.2.2.2), z.2.2.2.2.2.2.1, x_40, x_49)) (ci := 9) (v := .int x_49) (ty := .int) (Cn := RX10) (T := TX10) (N := 9) X inX10 tyX10 tyX10_ok nmX10 hP hD hS 0 rfl rfl 8 (by decide) (hts _ q_fl_X10_86) (fun _ h9 => h9) rfl (tyX10_ok 8 (by decide)) rfl rfl (Nat.le_of_ble_eq_true rfl) rfl dX10_acts_196 (fun H locs hP hD hS => ?_)
                exact z_thrS (Wf := (fun z => cl_X10 cI cJ cS a z)) (u := (u_47.1, u_47.2, z.2.2.1, z.2.2.2.1, z.2.2.2.2.1, (z.2.2.2.2.2.1.1, z.2.2.2.2.2.1.2.1, (0 : Int32), z.2.2.2.2.2.1.2.2.2.1, z.2.2.2.2.2.1.2.2.2.2.1, z.2.2.2.2.2.1.2.2.2.2.2.1, z.2.2.2.2.2.1.2.2.2.2.2.2), z.2.2.2.2.2.2.1, x_40, x_49)) 0 (by decide) 0 X hlt hF.2.2.2 htb hf hP hD hS hl.1 dX10_acts_199 dX10_acts_202 dX10_acts_203 dX10_acts_205 dX10_acts_208 ⟨Nat.le_of_ble_eq_true rfl, Nat.le_of_ble_eq_true rfl⟩ ⟨Nat.le_of_ble_eq_true rfl, Nat.le_of_ble_eq_true rfl⟩ ⟨Nat.le_of_ble_eq_true rfl, Nat.le_of_ble_eq_true rfl⟩
        · have hf := hf.2 c_28
          refine lv_aload_n hx hb dX10_acts_32 rfl (lv_at hl 0 rfl) ?_
          refine va_get (D := (dC, dI)) (ci := 9) (v := .ref (a 46)) (C := RX10) (T := TX10) (N := 9) hx hb hts inX10 hown hK hP 0 rfl rfl 5 (by decide) (hts _ q_fl_X10_32) (fun _ h9 => h9) rfl dX10_acts_33 ?_
          refine lv_iload_n hx hb dX10_acts_36 rfl (lv_at hl 1 rfl) ?_
          refine z_pViF (Wn := (fun u_51 => cl_X10 cI cJ cS a (z.1, z.2.1, z.2.2.1, z.2.2.2.1, z.2.2.2.2.1, u_51, z.2.2.2.2.2.2))) (As := [.int y1]) (rest := []) (wr := rr_X10_t cI cJ cS a z) X fro_Fy hF (c_X6_readAct l dC dI cI cJ cS (fun i => a (46 + i)) z.2.2.2.2.2.1 y1 _ hf _) zc_X6_readAct q_ml_X10_62 ⟨rfl, rfl⟩ ⟨Nat.le_of_ble_eq_true rfl, Nat.le_of_ble_eq_true rfl⟩ hP hD hS hA (pm_X10_t cI cJ cS a z) (fun u_51 => pm_X10_t cI cJ cS a (z.1, z.2.1, z.2.2.1, z.2.2.2.1, z.2.2.2.2.1, u_51, z.2.2.2.2.2.2)) 5 rfl rfl hl.1 rfl rfl (Nat.le_of_ble_eq_true rfl) ⟨Nat.le_of_ble_eq_true rfl, Nat.le_of_ble_eq_true rfl⟩ dX10_acts_37 (fun r_50 u_51 H locs hf hP hD hS => ?_)
          obtain ⟨hbr_50, hf⟩ := hf
          refine lv_if_eq (tgt := 131) hx hb dX10_acts_40 (by decide) (fun c_52 => ?_) (fun c_52 => ?_)
          · have hf := hf.1 c_52
            refine lv_aload_n hx hb dX10_acts_131 rfl (lv_at hl 0 rfl) ?_
            refine va_get (D := (dC, dI)) (ci := 9) (v := .ref (a 46)) (C := RX10) (T := TX10) (N := 9) hx hb hts inX10 hown hK hP 0 rfl rfl 5 (by decide) (hts _ q_fl_X10_32) (fun _ h9 => h9) rfl dX10_acts_132 ?_
            refine lv_iconst (v := 0) hx hb dX10_acts_135 (by decide) ?_
            refine z_put (w' := cl_X10 cI cJ cS a (z.1, z.2.1, z.2.2.1, z.2.2.2.1, z.2.2.2.2.1, (u_51.1, u_51.2.1, (0 : Int32), u_51.2.2.2.1, u_51.2.2.2.2.1, u_51.2.2.2.2.2.1, u_51.2.2.2.2.2.2), z.2.2.2.2.2.2)) (ci := 5) (v := .int (0 : Int32)) (ty := .int) (Cn := RX6) (T := TX6) (N := 7) X inX6 tyX6 tyX6_ok nmX6 hP hD hS 46 rfl rfl 2 (by decide) (hts _ q_fl_X10_52) (fun _ h9 => h9) rfl (tyX6_ok 2 (by decide)) rfl rfl (Nat.le_of_ble_eq_true rfl) rfl dX10_acts_136 (fun H locs hP hD hS => ?_)
            refine lv_aload_n hx hb dX10_acts_139 rfl (lv_at hl 0 rfl) ?_
            refine lv_iload_n hx hb dX10_acts_140 rfl (lv_at hl 2 rfl) ?_
            refine lv_if_ne (tgt := 154) hx hb dX10_acts_141 (by decide) (fun c_53 => ?_) (fun c_53 => ?_)
            · have hf := hf.1 c_53
              refine lv_aload_n hx hb dX10_acts_154 rfl (lv_at hl 0 rfl) ?_
              refine va_get (D := (dC, dI)) (ci := 9) (v := .ref (a 46)) (C := RX10) (T := TX10) (N := 9) hx hb hts inX10 hown hK hP 0 rfl rfl 5 (by decide) (hts _ q_fl_X10_32) (fun _ h9 => h9) rfl dX10_acts_155 ?_
              refine va_get (D := (dC, dI)) (ci := 5) (v := .int u_51.2.2.2.2.2.1) (C := RX6) (T := TX6) (N := 7) hx hb hts inX6 hown hK hP 46 rfl rfl 5 (by decide) (hts _ q_fl_X10_83) (fun _ h9 => h9) rfl dX10_acts_158 ?_
              refine lv_topi (fun x_54 ex_54 => ?_)
              have hf := hf x_54 ex_54
              refine z_put (w' := cl_X10 cI cJ cS a (z.1, z.2.1, z.2.2.1, z.2.2.2.1, z.2.2.2.2.1, (u_51.1, u_51.2.1, (0 : Int32), u_51.2.2.2.1, u_51.2.2.2.2.1, u_51.2.2.2.2.2.1, u_51.2.2.2.2.2.2), z.2.2.2.2.2.2.1, x_54, z.2.2.2.2.2.2.2.2)) (ci := 9) (v := .int x_54) (ty := .int) (Cn := RX10) (T := TX10) (N := 9) X inX10 tyX10 tyX10_ok nmX10 hP hD hS 0 rfl rfl 7 (by decide) (hts _ q_fl_X10_40) (fun _ h9 => h9) rfl (tyX10_ok 7 (by decide)) rfl rfl (Nat.le_of_ble_eq_true rfl) rfl dX10_acts_161 (fun H locs hP hD hS => ?_)
              refine lv_aload_n hx hb dX10_acts_164 rfl (lv_at hl 0 rfl) ?_
              refine va_get (D := (dC, dI)) (ci := 9) (v := .int x_54) (C := RX10) (T := TX10) (N := 9) hx hb hts inX10 hown hK hP 0 rfl rfl 7 (by decide) (hts _ q_fl_X10_40) (fun _ h9 => h9) rfl dX10_acts_165 ?_
              refine lv_iconst (v := (-1)) hx hb dX10_acts_168 (by decide) ?_
              refine lv_icmp_eq (tgt := 209) hx hb dX10_acts_169 (by decide) (fun c_55 => ?_) (fun c_55 => ?_)
              · have hf := hf.1 c_55
                refine lv_aload_n hx hb dX10_acts_209 rfl (lv_at hl 0 rfl) ?_
                refine va_get (D := (dC, dI)) (ci := 9) (v := .ref (a 50)) (C := RX10) (T := TX10) (N := 9) hx hb hts inX10 hown hK hP 0 rfl rfl 4 (by decide) (hts _ q_fl_X10_25) (fun _ h9 => h9) rfl dX10_acts_210 ?_
                refine z_pVv (Wn := (fun u_57 => cl_X10 cI cJ cS a (z.1, z.2.1, z.2.2.1, z.2.2.2.1, u_57, (u_51.1, u_51.2.1, (0 : Int32), u_51.2.2.2.1, u_51.2.2.2.2.1, u_51.2.2.2.2.2.1, u_51.2.2.2.2.2.2), z.2.2.2.2.2.2.1, x_54, z.2.2.2.2.2.2.2.2))) (As := []) (rest := []) (wr := rr_X10_m cI cJ cS a (z.1, z.2.1, z.2.2.1, z.2.2.2.1, z.2.2.2.2.1, (u_51.1, u_51.2.1, (0 : Int32), u_51.2.2.2.1, u_51.2.2.2.2.1, u_51.2.2.2.2.2.1, u_51.2.2.2.2.2.2), z.2.2.2.2.2.2.1, x_54, z.2.2.2.2.2.2.2.2)) X (c_X3_forget l dC dI cI cJ cS (fun i => a (50 + i)) z.2.2.2.2.1  _ hf _) zc_X3_forget q_ml_X10_96 ⟨rfl, rfl⟩ ⟨Nat.le_of_ble_eq_true rfl, Nat.le_of_ble_eq_true rfl⟩ hP hD hS hA (pm_X10_m cI cJ cS a (z.1, z.2.1, z.2.2.1, z.2.2.2.1, z.2.2.2.2.1, (u_51.1, u_51.2.1, (0 : Int32), u_51.2.2.2.1, u_51.2.2.2.2.1, u_51.2.2.2.2.2.1, u_51.2.2.2.2.2.2), z.2.2.2.2.2.2.1, x_54, z.2.2.2.2.2.2.2.2)) (fun u_57 => pm_X10_m cI cJ cS a (z.1, z.2.1, z.2.2.1, z.2.2.2.1, u_57, (u_51.1, u_51.2.1, (0 : Int32), u_51.2.2.2.1, u_51.2.2.2.2.1, u_51.2.2.2.2.2.1, u_51.2.2.2.2.2.2), z.2.2.2.2.2.2.1, x_54, z.2.2.2.2.2.2.2.2)) 2 rfl rfl hl.1 rfl rfl (Nat.le_of_ble_eq_true rfl) ⟨Nat.le_of_ble_eq_true rfl, Nat.le_of_ble_eq_true rfl⟩ dX10_acts_213 (fun u_57 H locs hf hP hD hS => ?_)
                refine lv_aload_n hx hb dX10_acts_216 rfl (lv_at hl 0 rfl) ?_
                refine lv_iload_n hx hb dX10_acts_217 rfl (lv_at hl 1 rfl) ?_
                refine lv_if_ne (tgt := 228) hx hb dX10_acts_218 (by decide) (fun c_58 => ?_) (fun c_58 => ?_)
                · have hf := hf.1 c_58
                  refine lv_iconst (v := 0) hx hb dX10_acts_228 (by decide) ?_
                  refine z_put (w' := cl_X10 cI cJ cS a (z.1, z.2.1, z.2.2.1, z.2.2.2.1, u_57, (u_51.1, u_51.2.1, (0 : Int32), u_51.2.2.2.1, u_51.2.2.2.2.1, u_51.2.2.2.2.2.1, u_51.2.2.2.2.2.2), z.2.2.2.2.2.2.1, x_54, (0 : Int32))) (ci := 9) (v := .int (0 : Int32)) (ty := .int) (Cn := RX10) (T := TX10) (N := 9) X inX10 tyX10 tyX10_ok nmX10 hP hD hS 0 rfl rfl 8 (by decide) (hts _ q_fl_X10_86) (fun _ h9 => h9) rfl (tyX10_ok 8 (by decide)) rfl rfl (Nat.le_of_ble_eq_true rfl) rfl dX10_acts_229 (fun H locs hP hD hS => ?_)
                  refine lv_iload_n hx hb dX10_acts_232 rfl (lv_at hl 1 rfl) ?_
                  exact vx_ret (W.widen (k := 1) (n := 6) (Nat.le_of_ble_eq_true rfl) (Nat.le_of_ble_eq_true rfl) (z_retMi (Wf := (fun z => cl_X10 cI cJ cS a z)) (u := (z.1, z.2.1, z.2.2.1, z.2.2.2.1, u_57, (u_51.1, u_51.2.1, (0 : Int32), u_51.2.2.2.1, u_51.2.2.2.2.1, u_51.2.2.2.2.2.1, u_51.2.2.2.2.2.2), z.2.2.2.2.2.2.1, x_54, (0 : Int32))) X hf hP hD hS dX10_acts_233))
                · have hf := hf.2 c_58
                  refine lv_aload_n hx hb dX10_acts_221 rfl (lv_at hl 0 rfl) ?_
                  refine va_get (D := (dC, dI)) (ci := 9) (v := .int z.2.2.2.2.2.2.2.2) (C := RX10) (T := TX10) (N := 9) hx hb hts inX10 hown hK hP 0 rfl rfl 8 (by decide) (hts _ q_fl_X10_86) (fun _ h9 => h9) rfl dX10_acts_222 ?_
                  refine lv_goto (tgt := 229) hx hb dX10_acts_225 (by decide) ?_
                  refine lv_topi (fun x_59 ex_59 => ?_)
                  have hf := hf x_59 ex_59
                  refine z_put (w' := cl_X10 cI cJ cS a (z.1, z.2.1, z.2.2.1, z.2.2.2.1, u_57, (u_51.1, u_51.2.1, (0 : Int32), u_51.2.2.2.1, u_51.2.2.2.2.1, u_51.2.2.2.2.2.1, u_51.2.2.2.2.2.2), z.2.2.2.2.2.2.1, x_54, x_59)) (ci := 9) (v := .int x_59) (ty := .int) (Cn := RX10) (T := TX10) (N := 9) X inX10 tyX10 tyX10_ok nmX10 hP hD hS 0 rfl rfl 8 (by decide) (hts _ q_fl_X10_86) (fun _ h9 => h9) rfl (tyX10_ok 8 (by decide)) rfl rfl (Nat.le_of_ble_eq_true rfl) rfl dX10_acts_229 (fun H locs hP hD hS => ?_)
                  refine lv_iload_n hx hb dX10_acts_232 rfl (lv_at hl 1 rfl) ?_
                  exact vx_ret (W.widen (k := 1) (n := 6) (Nat.le_of_ble_eq_true rfl) (Nat.le_of_ble_eq_true rfl) (z_retMi (Wf := (fun z => cl_X10 cI cJ cS a z)) (u := (z.1, z.2.1, z.2.2.1, z.2.2.2.1, u_57, (u_51.1, u_51.2.1, (0 : Int32), u_51.2.2.2.1, u_51.2.2.2.2.1, u_51.2.2.2.2.2.1, u_51.2.2.2.2.2.2), z.2.2.2.2.2.2.1, x_54, x_59)) X hf hP hD hS dX10_acts_233))
              · have hf := hf.2 c_55
                refine lv_aload_n hx hb dX10_acts_172 rfl (lv_at hl 0 rfl) ?_
                refine va_get (D := (dC, dI)) (ci := 9) (v := .ref (a 1)) (C := RX10) (T := TX10) (N := 9) hx hb hts inX10 hown hK hP 0 rfl rfl 0 (by decide) (hts _ q_fl_X10_10) (fun _ h9 => h9) rfl dX10_acts_173 ?_
                refine lv_aload_n hx hb dX10_acts_176 rfl (lv_at hl 0 rfl) ?_
                refine va_get (D := (dC, dI)) (ci := 9) (v := .ref (a 16)) (C := RX10) (T := TX10) (N := 9) hx hb hts inX10 hown hK hP 0 rfl rfl 1 (by decide) (hts _ q_fl_X10_16) (fun _ h9 => h9) rfl dX10_acts_177 ?_
                refine z_pVv (Wn := (fun u_61 => cl_X10 cI cJ cS a (u_61.1, u_61.2, z.2.2.1, z.2.2.2.1, z.2.2.2.2.1, (u_51.1, u_51.2.1, (0 : Int32), u_51.2.2.2.1, u_51.2.2.2.2.1, u_51.2.2.2.2.2.1, u_51.2.2.2.2.2.2), z.2.2.2.2.2.2.1, x_54, z.2.2.2.2.2.2.2.2))) (As := [.ref (a 16)]) (rest := []) (wr := rr_X10_np cI cJ cS a (z.1, z.2.1, z.2.2.1, z.2.2.2.1, z.2.2.2.2.1, (u_51.1, u_51.2.1, (0 : Int32), u_51.2.2.2.1, u_51.2.2.2.2.1, u_51.2.2.2.2.2.1, u_51.2.2.2.2.2.2), z.2.2.2.2.2.2.1, x_54, z.2.2.2.2.2.2.2.2)) X (c_X5_copyFrom l dC dI cI cJ cS (fun i => a (1 + i)) (fun i => a (16 + i)) z.1 z.2.1  _ hf _) zc_X5_copyFrom q_ml_X10_55 ⟨rfl, rfl⟩ ⟨Nat.le_of_ble_eq_true rfl, Nat.le_of_ble_eq_true rfl⟩ hP hD hS hA (pm_X10_np cI cJ cS a (z.1, z.2.1, z.2.2.1, z.2.2.2.1, z.2.2.2.2.1, (u_51.1, u_51.2.1, (0 : Int32), u_51.2.2.2.1, u_51.2.2.2.2.1, u_51.2.2.2.2.2.1, u_51.2.2.2.2.2.2), z.2.2.2.2.2.2.1, x_54, z.2.2.2.2.2.2.2.2)) (fun u_61 => pm_X10_np cI cJ cS a (u_61.1, u_61.2, z.2.2.1, z.2.2.2.1, z.2.2.2.2.1, (u_51.1, u_51.2.1, (0 : Int32), u_51.2.2.2.1, u_51.2.2.2.2.1, u_51.2.2.2.2.2.1, u_51.2.2.2.2.2.2), z.2.2.2.2.2.2.1, x_54, z.2.2.2.2.2.2.2.2)) 4 rfl rfl hl.1 rfl rfl (Nat.le_of_ble_eq_true rfl) ⟨Nat.le_of_ble_eq_true rfl, Nat.le_of_ble_eq_true rfl⟩ dX10_acts_180 (fun u_61 H locs hf hP hD hS => ?_)
                refine lv_aload_n hx hb dX10_acts_183 rfl (lv_at hl 0 rfl) ?_
                refine lv_iload_n hx hb dX10_acts_184 rfl (lv_at hl 2 rfl) ?_
                refine lv_if_ne (tgt := 195) hx hb dX10_acts_185 (by decide) (fun c_62 => ?_) (fun c_62 => ?_)
                · have hf := hf.1 c_62
                  refine lv_iload_n hx hb dX10_acts_195 rfl (lv_at hl 2 rfl) ?_
                  refine z_put (w' := cl_X10 cI cJ cS a (u_61.1, u_61.2, z.2.2.1, z.2.2.2.1, z.2.2.2.2.1, (u_51.1, u_51.2.1, (0 : Int32), u_51.2.2.2.1, u_51.2.2.2.2.1, u_51.2.2.2.2.2.1, u_51.2.2.2.2.2.2), z.2.2.2.2.2.2.1, x_54, y2)) (ci := 9) (v := .int y2) (ty := .int) (Cn := RX10) (T := TX10) (N := 9) X inX10 tyX10 tyX10_ok nmX10 hP hD hS 0 rfl rfl 8 (by decide) (hts _ q_fl_X10_86) (fun _ h9 => h9) rfl (tyX10_ok 8 (by decide)) rfl rfl (Nat.le_of_ble_eq_true rfl) rfl dX10_acts_196 (fun H locs hP hD hS => ?_)
                  exact z_thrS (Wf := (fun z => cl_X10 cI cJ cS a z)) (u := (u_61.1, u_61.2, z.2.2.1, z.2.2.2.1, z.2.2.2.2.1, (u_51.1, u_51.2.1, (0 : Int32), u_51.2.2.2.1, u_51.2.2.2.2.1, u_51.2.2.2.2.2.1, u_51.2.2.2.2.2.2), z.2.2.2.2.2.2.1, x_54, y2)) 0 (by decide) 0 X hlt hF.2.2.2 htb hf hP hD hS hl.1 dX10_acts_199 dX10_acts_202 dX10_acts_203 dX10_acts_205 dX10_acts_208 ⟨Nat.le_of_ble_eq_true rfl, Nat.le_of_ble_eq_true rfl⟩ ⟨Nat.le_of_ble_eq_true rfl, Nat.le_of_ble_eq_true rfl⟩ ⟨Nat.le_of_ble_eq_true rfl, Nat.le_of_ble_eq_true rfl⟩
                · have hf := hf.2 c_62
                  refine lv_aload_n hx hb dX10_acts_188 rfl (lv_at hl 0 rfl) ?_
                  refine va_get (D := (dC, dI)) (ci := 9) (v := .int z.2.2.2.2.2.2.2.2) (C := RX10) (T := TX10) (N := 9) hx hb hts inX10 hown hK hP 0 rfl rfl 8 (by decide) (hts _ q_fl_X10_86) (fun _ h9 => h9) rfl dX10_acts_189 ?_
                  refine lv_goto (tgt := 196) hx hb dX10_acts_192 (by decide) ?_
                  refine lv_topi (fun x_63 ex_63 => ?_)
                  have hf := hf x_63 ex_63
                  refine z_put (w' := cl_X10 cI cJ cS a (u_61.1, u_61.2, z.2.2.1, z.2.2.2.1, z.2.2.2.2.1, (u_51.1, u_51.2.1, (0 : Int32), u_51.2.2.2.1, u_51.2.2.2.2.1, u_51.2.2.2.2.2.1, u_51.2.2.2.2.2.2), z.2.2.2.2.2.2.1, x_54, x_63)) (ci := 9) (v := .int x_63) (ty := .int) (Cn := RX10) (T := TX10) (N := 9) X inX10 tyX10 tyX10_ok nmX10 hP hD hS 0 rfl rfl 8 (by decide) (hts _ q_fl_X10_86) (fun _ h9 => h9) rfl (tyX10_ok 8 (by decide)) rfl rfl (Nat.le_of_ble_eq_true rfl) rfl dX10_acts_196 (fun H locs hP hD hS => ?_)
                  exact z_thrS (Wf := (fun z => cl_X10 cI cJ cS a z)) (u := (u_61.1, u_61.2, z.2.2.1, z.2.2.2.1, z.2.2.2.2.1, (u_51.1, u_51.2.1, (0 : Int32), u_51.2.2.2.1, u_51.2.2.2.2.1, u_51.2.2.2.2.2.1, u_51.2.2.2.2.2.2), z.2.2.2.2.2.2.1, x_54, x_63)) 0 (by decide) 0 X hlt hF.2.2.2 htb hf hP hD hS hl.1 dX10_acts_199 dX10_acts_202 dX10_acts_203 dX10_acts_205 dX10_acts_208 ⟨Nat.le_of_ble_eq_true rfl, Nat.le_of_ble_eq_true rfl⟩ ⟨Nat.le_of_ble_eq_true rfl, Nat.le_of_ble_eq_true rfl⟩ ⟨Nat.le_of_ble_eq_true rfl, Nat.le_of_ble_eq_true rfl⟩
            · have hf := hf.2 c_53
              refine lv_aload_n hx hb dX10_acts_144 rfl (lv_at hl 0 rfl) ?_
              refine va_get (D := (dC, dI)) (ci := 9) (v := .ref (a 46)) (C := RX10) (T := TX10) (N := 9) hx hb hts inX10 hown hK hP 0 rfl rfl 5 (by decide) (hts _ q_fl_X10_32) (fun _ h9 => h9) rfl dX10_acts_145 ?_
              refine va_get (D := (dC, dI)) (ci := 5) (v := .int u_51.2.2.2.2.2.2) (C := RX6) (T := TX6) (N := 7) hx hb hts inX6 hown hK hP 46 rfl rfl 6 (by decide) (hts _ q_fl_X10_80) (fun _ h9 => h9) rfl dX10_acts_148 ?_
              refine lv_goto (tgt := 161) hx hb dX10_acts_151 (by decide) ?_
              refine lv_topi (fun x_64 ex_64 => ?_)
              have hf := hf x_64 ex_64
              refine z_put (w' := cl_X10 cI cJ cS a (z.1, z.2.1, z.2.2.1, z.2.2.2.1, z.2.2.2.2.1, (u_51.1, u_51.2.1, (0 : Int32), u_51.2.2.2.1, u_51.2.2.2.2.1, u_51.2.2.2.2.2.1, u_51.2.2.2.2.2.2), z.2.2.2.2.2.2.1, x_64, z.2.2.2.2.2.2.2.2)) (ci := 9) (v := .int x_64) (ty := .int) (Cn := RX10) (T := TX10) (N := 9) X inX10 tyX10 tyX10_ok nmX10 hP hD hS 0 rfl rfl 7 (by decide) (hts _ q_fl_X10_40) (fun _ h9 => h9) rfl (tyX10_ok 7 (by decide)) rfl rfl (Nat.le_of_ble_eq_true rfl) rfl dX10_acts_161 (fun H locs hP hD hS => ?_)
              refine lv_aload_n hx hb dX10_acts_164 rfl (lv_at hl 0 rfl) ?_
              refine va_get (D := (dC, dI)) (ci := 9) (v := .int x_64) (C := RX10) (T := TX10) (N := 9) hx hb hts inX10 hown hK hP 0 rfl rfl 7 (by decide) (hts _ q_fl_X10_40) (fun _ h9 => h9) rfl dX10_acts_165 ?_
              refine lv_iconst (v := (-1)) hx hb dX10_acts_168 (by decide) ?_
              refine lv_icmp_eq (tgt := 209) hx hb dX10_acts_169 (by decide) (fun c_65 => ?_) (fun c_65 => ?_)
              · have hf := hf.1 c_65
                refine lv_aload_n hx hb dX10_acts_209 rfl (lv_at hl 0 rfl) ?_
                refine va_get (D := (dC, dI)) (ci := 9) (v := .ref (a 50)) (C := RX10) (T := TX10) (N := 9) hx hb hts inX10 hown hK hP 0 rfl rfl 4 (by decide) (hts _ q_fl_X10_25) (fun _ h9 => h9) rfl dX10_acts_210 ?_
                refine z_pVv (Wn := (fun u_67 => cl_X10 cI cJ cS a (z.1, z.2.1, z.2.2.1, z.2.2.2.1, u_67, (u_51.1, u_51.2.1, (0 : Int32), u_51.2.2.2.1, u_51.2.2.2.2.1, u_51.2.2.2.2.2.1, u_51.2.2.2.2.2.2), z.2.2.2.2.2.2.1, x_64, z.2.2.2.2.2.2.2.2))) (As := []) (rest := []) (wr := rr_X10_m cI cJ cS a (z.1, z.2.1, z.2.2.1, z.2.2.2.1, z.2.2.2.2.1, (u_51.1, u_51.2.1, (0 : Int32), u_51.2.2.2.1, u_51.2.2.2.2.1, u_51.2.2.2.2.2.1, u_51.2.2.2.2.2.2), z.2.2.2.2.2.2.1, x_64, z.2.2.2.2.2.2.2.2)) X (c_X3_forget l dC dI cI cJ cS (fun i => a (50 + i)) z.2.2.2.2.1  _ hf _) zc_X3_forget q_ml_X10_96 ⟨rfl, rfl⟩ ⟨Nat.le_of_ble_eq_true rfl, Nat.le_of_ble_eq_true rfl⟩ hP hD hS hA (pm_X10_m cI cJ cS a (z.1, z.2.1, z.2.2.1, z.2.2.2.1, z.2.2.2.2.1, (u_51.1, u_51.2.1, (0 : Int32), u_51.2.2.2.1, u_51.2.2.2.2.1, u_51.2.2.2.2.2.1, u_51.2.2.2.2.2.2), z.2.2.2.2.2.2.1, x_64, z.2.2.2.2.2.2.2.2)) (fun u_67 => pm_X10_m cI cJ cS a (z.1, z.2.1, z.2.2.1, z.2.2.2.1, u_67, (u_51.1, u_51.2.1, (0 : Int32), u_51.2.2.2.1, u_51.2.2.2.2.1, u_51.2.2.2.2.2.1, u_51.2.2.2.2.2.2), z.2.2.2.2.2.2.1, x_64, z.2.2.2.2.2.2.2.2)) 2 rfl rfl hl.1 rfl rfl (Nat.le_of_ble_eq_true rfl) ⟨Nat.le_of_ble_eq_true rfl, Nat.le_of_ble_eq_true rfl⟩ dX10_acts_213 (fun u_67 H locs hf hP hD hS => ?_)
                refine lv_aload_n hx hb dX10_acts_216 rfl (lv_at hl 0 rfl) ?_
                refine lv_iload_n hx hb dX10_acts_217 rfl (lv_at hl 1 rfl) ?_
                refine lv_if_ne (tgt := 228) hx hb dX10_acts_218 (by decide) (fun c_68 => ?_) (fun c_68 => ?_)
                · have hf := hf.1 c_68
                  refine lv_iconst (v := 0) hx hb dX10_acts_228 (by decide) ?_
                  refine z_put (w' := cl_X10 cI cJ cS a (z.1, z.2.1, z.2.2.1, z.2.2.2.1, u_67, (u_51.1, u_51.2.1, (0 : Int32), u_51.2.2.2.1, u_51.2.2.2.2.1, u_51.2.2.2.2.2.1, u_51.2.2.2.2.2.2), z.2.2.2.2.2.2.1, x_64, (0 : Int32))) (ci := 9) (v := .int (0 : Int32)) (ty := .int) (Cn := RX10) (T := TX10) (N := 9) X inX10 tyX10 tyX10_ok nmX10 hP hD hS 0 rfl rfl 8 (by decide) (hts _ q_fl_X10_86) (fun _ h9 => h9) rfl (tyX10_ok 8 (by decide)) rfl rfl (Nat.le_of_ble_eq_true rfl) rfl dX10_acts_229 (fun H locs hP hD hS => ?_)
                  refine lv_iload_n hx hb dX10_acts_232 rfl (lv_at hl 1 rfl) ?_
                  exact vx_ret (W.widen (k := 1) (n := 6) (Nat.le_of_ble_eq_true rfl) (Nat.le_of_ble_eq_true rfl) (z_retMi (Wf := (fun z => cl_X10 cI cJ cS a z)) (u := (z.1, z.2.1, z.2.2.1, z.2.2.2.1, u_67, (u_51.1, u_51.2.1, (0 : Int32), u_51.2.2.2.1, u_51.2.2.2.2.1, u_51.2.2.2.2.2.1, u_51.2.2.2.2.2.2), z.2.2.2.2.2.2.1, x_64, (0 : Int32))) X hf hP hD hS dX10_acts_233))
                · have hf := hf.2 c_68
                  refine lv_aload_n hx hb dX10_acts_221 rfl (lv_at hl 0 rfl) ?_
                  refine va_get (D := (dC, dI)) (ci := 9) (v := .int z.2.2.2.2.2.2.2.2) (C := RX10) (T := TX10) (N := 9) hx hb hts inX10 hown hK hP 0 rfl rfl 8 (by decide) (hts _ q_fl_X10_86) (fun _ h9 => h9) rfl dX10_acts_222 ?_
                  refine lv_goto (tgt := 229) hx hb dX10_acts_225 (by decide) ?_
                  refine lv_topi (fun x_69 ex_69 => ?_)
                  have hf := hf x_69 ex_69
                  refine z_put (w' := cl_X10 cI cJ cS a (z.1, z.2.1, z.2.2.1, z.2.2.2.1, u_67, (u_51.1, u_51.2.1, (0 : Int32), u_51.2.2.2.1, u_51.2.2.2.2.1, u_51.2.2.2.2.2.1, u_51.2.2.2.2.2.2), z.2.2.2.2.2.2.1, x_64, x_69)) (ci := 9) (v := .int x_69) (ty := .int) (Cn := RX10) (T := TX10) (N := 9) X inX10 tyX10 tyX10_ok nmX10 hP hD hS 0 rfl rfl 8 (by decide) (hts _ q_fl_X10_86) (fun _ h9 => h9) rfl (tyX10_ok 8 (by decide)) rfl rfl (Nat.le_of_ble_eq_true rfl) rfl dX10_acts_229 (fun H locs hP hD hS => ?_)
                  refine lv_iload_n hx hb dX10_acts_232 rfl (lv_at hl 1 rfl) ?_
                  exact vx_ret (W.widen (k := 1) (n := 6) (Nat.le_of_ble_eq_true rfl) (Nat.le_of_ble_eq_true rfl) (z_retMi (Wf := (fun z => cl_X10 cI cJ cS a z)) (u := (z.1, z.2.1, z.2.2.1, z.2.2.2.1, u_67, (u_51.1, u_51.2.1, (0 : Int32), u_51.2.2.2.1, u_51.2.2.2.2.1, u_51.2.2.2.2.2.1, u_51.2.2.2.2.2.2), z.2.2.2.2.2.2.1, x_64, x_69)) X hf hP hD hS dX10_acts_233))
              · have hf := hf.2 c_65
                refine lv_aload_n hx hb dX10_acts_172 rfl (lv_at hl 0 rfl) ?_
                refine va_get (D := (dC, dI)) (ci := 9) (v := .ref (a 1)) (C := RX10) (T := TX10) (N := 9) hx hb hts inX10 hown hK hP 0 rfl rfl 0 (by decide) (hts _ q_fl_X10_10) (fun _ h9 => h9) rfl dX10_acts_173 ?_
                refine lv_aload_n hx hb dX10_acts_176 rfl (lv_at hl 0 rfl) ?_
                refine va_get (D := (dC, dI)) (ci := 9) (v := .ref (a 16)) (C := RX10) (T := TX10) (N := 9) hx hb hts inX10 hown hK hP 0 rfl rfl 1 (by decide) (hts _ q_fl_X10_16) (fun _ h9 => h9) rfl dX10_acts_177 ?_
                refine z_pVv (Wn := (fun u_71 => cl_X10 cI cJ cS a (u_71.1, u_71.2, z.2.2.1, z.2.2.2.1, z.2.2.2.2.1, (u_51.1, u_51.2.1, (0 : Int32), u_51.2.2.2.1, u_51.2.2.2.2.1, u_51.2.2.2.2.2.1, u_51.2.2.2.2.2.2), z.2.2.2.2.2.2.1, x_64, z.2.2.2.2.2.2.2.2))) (As := [.ref (a 16)]) (rest := []) (wr := rr_X10_np cI cJ cS a (z.1, z.2.1, z.2.2.1, z.2.2.2.1, z.2.2.2.2.1, (u_51.1, u_51.2.1, (0 : Int32), u_51.2.2.2.1, u_51.2.2.2.2.1, u_51.2.2.2.2.2.1, u_51.2.2.2.2.2.2), z.2.2.2.2.2.2.1, x_64, z.2.2.2.2.2.2.2.2)) X (c_X5_copyFrom l dC dI cI cJ cS (fun i => a (1 + i)) (fun i => a (16 + i)) z.1 z.2.1  _ hf _) zc_X5_copyFrom q_ml_X10_55 ⟨rfl, rfl⟩ ⟨Nat.le_of_ble_eq_true rfl, Nat.le_of_ble_eq_true rfl⟩ hP hD hS hA (pm_X10_np cI cJ cS a (z.1, z.2.1, z.2.2.1, z.2.2.2.1, z.2.2.2.2.1, (u_51.1, u_51.2.1, (0 : Int32), u_51.2.2.2.1, u_51.2.2.2.2.1, u_51.2.2.2.2.2.1, u_51.2.2.2.2.2.2), z.2.2.2.2.2.2.1, x_64, z.2.2.2.2.2.2.2.2)) (fun u_71 => pm_X10_np cI cJ cS a (u_71.1, u_71.2, z.2.2.1, z.2.2.2.1, z.2.2.2.2.1, (u_51.1, u_51.2.1, (0 : Int32), u_51.2.2.2.1, u_51.2.2.2.2.1, u_51.2.2.2.2.2.1, u_51.2.2.2.2.2.2), z.2.2.2.2.2.2.1, x_64, z.2.2.2.2.2.2.2.2)) 4 rfl rfl hl.1 rfl rfl (Nat.le_of_ble_eq_true rfl) ⟨Nat.le_of_ble_eq_true rfl, Nat.le_of_ble_eq_true rfl⟩ dX10_acts_180 (fun u_71 H locs hf hP hD hS => ?_)
                refine lv_aload_n hx hb dX10_acts_183 rfl (lv_at hl 0 rfl) ?_
                refine lv_iload_n hx hb dX10_acts_184 rfl (lv_at hl 2 rfl) ?_
                refine lv_if_ne (tgt := 195) hx hb dX10_acts_185 (by decide) (fun c_72 => ?_) (fun c_72 => ?_)
                · have hf := hf.1 c_72
                  refine lv_iload_n hx hb dX10_acts_195 rfl (lv_at hl 2 rfl) ?_
                  refine z_put (w' := cl_X10 cI cJ cS a (u_71.1, u_71.2, z.2.2.1, z.2.2.2.1, z.2.2.2.2.1, (u_51.1, u_51.2.1, (0 : Int32), u_51.2.2.2.1, u_51.2.2.2.2.1, u_51.2.2.2.2.2.1, u_51.2.2.2.2.2.2), z.2.2.2.2.2.2.1, x_64, y2)) (ci := 9) (v := .int y2) (ty := .int) (Cn := RX10) (T := TX10) (N := 9) X inX10 tyX10 tyX10_ok nmX10 hP hD hS 0 rfl rfl 8 (by decide) (hts _ q_fl_X10_86) (fun _ h9 => h9) rfl (tyX10_ok 8 (by decide)) rfl rfl (Nat.le_of_ble_eq_true rfl) rfl dX10_acts_196 (fun H locs hP hD hS => ?_)
                  exact z_thrS (Wf := (fun z => cl_X10 cI cJ cS a z)) (u := (u_71.1, u_71.2, z.2.2.1, z.2.2.2.1, z.2.2.2.2.1, (u_51.1, u_51.2.1, (0 : Int32), u_51.2.2.2.1, u_51.2.2.2.2.1, u_51.2.2.2.2.2.1, u_51.2.2.2.2.2.2), z.2.2.2.2.2.2.1, x_64, y2)) 0 (by decide) 0 X hlt hF.2.2.2 htb hf hP hD hS hl.1 dX10_acts_199 dX10_acts_202 dX10_acts_203 dX10_acts_205 dX10_acts_208 ⟨Nat.le_of_ble_eq_true rfl, Nat.le_of_ble_eq_true rfl⟩ ⟨Nat.le_of_ble_eq_true rfl, Nat.le_of_ble_eq_true rfl⟩ ⟨Nat.le_of_ble_eq_true rfl, Nat.le_of_ble_eq_true rfl⟩
                · have hf := hf.2 c_72
                  refine lv_aload_n hx hb dX10_acts_188 rfl (lv_at hl 0 rfl) ?_
                  refine va_get (D := (dC, dI)) (ci := 9) (v := .int z.2.2.2.2.2.2.2.2) (C := RX10) (T := TX10) (N := 9) hx hb hts inX10 hown hK hP 0 rfl rfl 8 (by decide) (hts _ q_fl_X10_86) (fun _ h9 => h9) rfl dX10_acts_189 ?_
                  refine lv_goto (tgt := 196) hx hb dX10_acts_192 (by decide) ?_
                  refine lv_topi (fun x_73 ex_73 => ?_)
                  have hf := hf x_73 ex_73
                  refine z_put (w' := cl_X10 cI cJ cS a (u_71.1, u_71.2, z.2.2.1, z.2.2.2.1, z.2.2.2.2.1, (u_51.1, u_51.2.1, (0 : Int32), u_51.2.2.2.1, u_51.2.2.2.2.1, u_51.2.2.2.2.2.1, u_51.2.2.2.2.2.2), z.2.2.2.2.2.2.1, x_64, x_73)) (ci := 9) (v := .int x_73) (ty := .int) (Cn := RX10) (T := TX10) (N := 9) X inX10 tyX10 tyX10_ok nmX10 hP hD hS 0 rfl rfl 8 (by decide) (hts _ q_fl_X10_86) (fun _ h9 => h9) rfl (tyX10_ok 8 (by decide)) rfl rfl (Nat.le_of_ble_eq_true rfl) rfl dX10_acts_196 (fun H locs hP hD hS => ?_)
                  exact z_thrS (Wf := (fun z => cl_X10 cI cJ cS a z)) (u := (u_71.1, u_71.2, z.2.2.1, z.2.2.2.1, z.2.2.2.2.1, (u_51.1, u_51.2.1, (0 : Int32), u_51.2.2.2.1, u_51.2.2.2.2.1, u_51.2.2.2.2.2.1, u_51.2.2.2.2.2.2), z.2.2.2.2.2.2.1, x_64, x_73)) 0 (by decide) 0 X hlt hF.2.2.2 htb hf hP hD hS hl.1 dX10_acts_199 dX10_acts_202 dX10_acts_203 dX10_acts_205 dX10_acts_208 ⟨Nat.le_of_ble_eq_true rfl, Nat.le_of_ble_eq_true rfl⟩ ⟨Nat.le_of_ble_eq_true rfl, Nat.le_of_ble_eq_true rfl⟩ ⟨Nat.le_of_ble_eq_true rfl, Nat.le_of_ble_eq_true rfl⟩
          · have hf := hf.2 c_52
            refine lv_aload_n hx hb dX10_acts_43 rfl (lv_at hl 0 rfl) ?_
            refine va_get (D := (dC, dI)) (ci := 9) (v := .ref (a 1)) (C := RX10) (T := TX10) (N := 9) hx hb hts inX10 hown hK hP 0 rfl rfl 0 (by decide) (hts _ q_fl_X10_10) (fun _ h9 => h9) rfl dX10_acts_44 ?_
            refine lv_aload_n hx hb dX10_acts_47 rfl (lv_at hl 0 rfl) ?_
            refine va_get (D := (dC, dI)) (ci := 9) (v := .ref (a 46)) (C := RX10) (T := TX10) (N := 9) hx hb hts inX10 hown hK hP 0 rfl rfl 5 (by decide) (hts _ q_fl_X10_32) (fun _ h9 => h9) rfl dX10_acts_48 ?_
            refine va_get (D := (dC, dI)) (ci := 5) (v := .int u_51.2.2.2.2.1) (C := RX6) (T := TX6) (N := 7) hx hb hts inX6 hown hK hP 46 rfl rfl 4 (by decide) (hts _ q_fl_X10_65) (fun _ h9 => h9) rfl dX10_acts_51 ?_
            refine lv_aload_n hx hb dX10_acts_54 rfl (lv_at hl 0 rfl) ?_
            refine va_get (D := (dC, dI)) (ci := 9) (v := .ref (a 46)) (C := RX10) (T := TX10) (N := 9) hx hb hts inX10 hown hK hP 0 rfl rfl 5 (by decide) (hts _ q_fl_X10_32) (fun _ h9 => h9) rfl dX10_acts_55 ?_
            refine lv_iconst (v := 0) hx hb dX10_acts_58 (by decide) ?_
            refine z_cVi (As := [.int (0 : Int32)]) (rest := [.int u_51.2.2.2.2.1, .ref (a 1)]) X (c_X6_number l dC dI cI cJ cS (fun i => a (46 + i)) u_51 (0 : Int32) _ hf) zc_X6_number q_ml_X10_68 ⟨rfl, rfl⟩ ⟨Nat.le_of_ble_eq_true rfl, Nat.le_of_ble_eq_true rfl⟩ hP [46, 47, 48] rfl 5 rfl rfl hl.1 rfl rfl (Nat.le_of_ble_eq_true rfl) ⟨Nat.le_of_ble_eq_true rfl, Nat.le_of_ble_eq_true rfl⟩ dX10_acts_59 (fun r_74 hf => ?_)
            refine lv_aload_n hx hb dX10_acts_62 rfl (lv_at hl 0 rfl) ?_
            refine va_get (D := (dC, dI)) (ci := 9) (v := .ref (a 46)) (C := RX10) (T := TX10) (N := 9) hx hb hts inX10 hown hK hP 0 rfl rfl 5 (by decide) (hts _ q_fl_X10_32) (fun _ h9 => h9) rfl dX10_acts_63 ?_
            refine lv_iconst (v := 1) hx hb dX10_acts_66 (by decide) ?_
            refine z_cVi (As := [.int (1 : Int32)]) (rest := [.int r_74, .int u_51.2.2.2.2.1, .ref (a 1)]) X (c_X6_number l dC dI cI cJ cS (fun i => a (46 + i)) u_51 (1 : Int32) _ hf) zc_X6_number q_ml_X10_68 ⟨rfl, rfl⟩ ⟨Nat.le_of_ble_eq_true rfl, Nat.le_of_ble_eq_true rfl⟩ hP [46, 47, 48] rfl 5 rfl rfl hl.1 rfl rfl (Nat.le_of_ble_eq_true rfl) ⟨Nat.le_of_ble_eq_true rfl, Nat.le_of_ble_eq_true rfl⟩ dX10_acts_67 (fun r_75 hf => ?_)
            refine z_cVi (As := [.int u_51.2.2.2.2.1, .int r_74, .int r_75]) (rest := []) X (c_X5_refusalOf l dC dI cI cJ cS (fun i => a (1 + i)) z.1 u_51.2.2.2.2.1 r_74 r_75 _ hf) zc_X5_refusalOf q_ml_X10_72 ⟨rfl, rfl⟩ ⟨Nat.le_of_ble_eq_true rfl, Nat.le_of_ble_eq_true rfl⟩ hP [1, 2, 3, 4, 5, 6, 7, 8, 9, 10, 11, 12, 13, 14, 15] rfl 4 rfl rfl hl.1 rfl rfl (Nat.le_of_ble_eq_true rfl) ⟨Nat.le_of_ble_eq_true rfl, Nat.le_of_ble_eq_true rfl⟩ dX10_acts_70 (fun r_76 hf => ?_)
            refine lv_istore_n (lv' := [(2, .int r_76), (0, .ref (a 0)), (1, .int y1)]) hx hb dX10_acts_73 rfl hl (by decide) rfl (fun ls hl => ?_)
            refine lv_iload_n hx hb dX10_acts_74 rfl (lv_at hl 0 rfl) ?_
            refine lv_if_ne (tgt := 22) hx hb dX10_acts_75 (by decide) (fun c_77 => ?_) (fun c_77 => ?_)
            · have hf := hf.1 c_77
              obtain ⟨k_78, hk_78, hf⟩ := hf
              exact (ih k_78 hk_78) _ _ (z.1, z.2.1, z.2.2.1, z.2.2.2.1, z.2.2.2.2.1, u_51, z.2.2.2.2.2.2) _ _ ls hf hP hD hS (lv_sub hl [1, 2, 0] rfl)
            · have hf := hf.2 c_77
              refine lv_aload_n hx hb dX10_acts_78 rfl (lv_at hl 1 rfl) ?_
              refine va_get (D := (dC, dI)) (ci := 9) (v := .ref (a 1)) (C := RX10) (T := TX10) (N := 9) hx hb hts inX10 hown hK hP 0 rfl rfl 0 (by decide) (hts _ q_fl_X10_10) (fun _ h9 => h9) rfl dX10_acts_79 ?_
              refine lv_aload_n hx hb dX10_acts_82 rfl (lv_at hl 1 rfl) ?_
              refine va_get (D := (dC, dI)) (ci := 9) (v := .ref (a 46)) (C := RX10) (T := TX10) (N := 9) hx hb hts inX10 hown hK hP 0 rfl rfl 5 (by decide) (hts _ q_fl_X10_32) (fun _ h9 => h9) rfl dX10_acts_83 ?_
              refine va_get (D := (dC, dI)) (ci := 5) (v := .int u_51.2.2.2.2.1) (C := RX6) (T := TX6) (N := 7) hx hb hts inX6 hown hK hP 46 rfl rfl 4 (by decide) (hts _ q_fl_X10_65) (fun _ h9 => h9) rfl dX10_acts_86 ?_
              refine lv_aload_n hx hb dX10_acts_89 rfl (lv_at hl 1 rfl) ?_
              refine va_get (D := (dC, dI)) (ci := 9) (v := .ref (a 46)) (C := RX10) (T := TX10) (N := 9) hx hb hts inX10 hown hK hP 0 rfl rfl 5 (by decide) (hts _ q_fl_X10_32) (fun _ h9 => h9) rfl dX10_acts_90 ?_
              refine lv_iconst (v := 0) hx hb dX10_acts_93 (by decide) ?_
              refine z_cVi (As := [.int (0 : Int32)]) (rest := [.int u_51.2.2.2.2.1, .ref (a 1)]) X (c_X6_number l dC dI cI cJ cS (fun i => a (46 + i)) u_51 (0 : Int32) _ hf) zc_X6_number q_ml_X10_68 ⟨rfl, rfl⟩ ⟨Nat.le_of_ble_eq_true rfl, Nat.le_of_ble_eq_true rfl⟩ hP [46, 47, 48] rfl 5 rfl rfl hl.1 rfl rfl (Nat.le_of_ble_eq_true rfl) ⟨Nat.le_of_ble_eq_true rfl, Nat.le_of_ble_eq_true rfl⟩ dX10_acts_94 (fun r_79 hf => ?_)
              refine lv_aload_n hx hb dX10_acts_97 rfl (lv_at hl 1 rfl) ?_
              refine va_get (D := (dC, dI)) (ci := 9) (v := .ref (a 46)) (C := RX10) (T := TX10) (N := 9) hx hb hts inX10 hown hK hP 0 rfl rfl 5 (by decide) (hts _ q_fl_X10_32) (fun _ h9 => h9) rfl dX10_acts_98 ?_
              refine lv_iconst (v := 1) hx hb dX10_acts_101 (by decide) ?_
              refine z_cVi (As := [.int (1 : Int32)]) (rest := [.int r_79, .int u_51.2.2.2.2.1, .ref (a 1)]) X (c_X6_number l dC dI cI cJ cS (fun i => a (46 + i)) u_51 (1 : Int32) _ hf) zc_X6_number q_ml_X10_68 ⟨rfl, rfl⟩ ⟨Nat.le_of_ble_eq_true rfl, Nat.le_of_ble_eq_true rfl⟩ hP [46, 47, 48] rfl 5 rfl rfl hl.1 rfl rfl (Nat.le_of_ble_eq_true rfl) ⟨Nat.le_of_ble_eq_true rfl, Nat.le_of_ble_eq_true rfl⟩ dX10_acts_102 (fun r_80 hf => ?_)
              refine lv_aload_n hx hb dX10_acts_105 rfl (lv_at hl 1 rfl) ?_
              refine va_get (D := (dC, dI)) (ci := 9) (v := .ref (a 46)) (C := RX10) (T := TX10) (N := 9) hx hb hts inX10 hown hK hP 0 rfl rfl 5 (by decide) (hts _ q_fl_X10_32) (fun _ h9 => h9) rfl dX10_acts_106 ?_
              refine lv_iconst (v := 2) hx hb dX10_acts_109 (by decide) ?_
              refine z_cVi (As := [.int (2 : Int32)]) (rest := [.int r_80, .int r_79, .int u_51.2.2.2.2.1, .ref (a 1)]) X (c_X6_number l dC dI cI cJ cS (fun i => a (46 + i)) u_51 (2 : Int32) _ hf) zc_X6_number q_ml_X10_68 ⟨rfl, rfl⟩ ⟨Nat.le_of_ble_eq_true rfl, Nat.le_of_ble_eq_true rfl⟩ hP [46, 47, 48] rfl 5 rfl rfl hl.1 rfl rfl (Nat.le_of_ble_eq_true rfl) ⟨Nat.le_of_ble_eq_true rfl, Nat.le_of_ble_eq_true rfl⟩ dX10_acts_110 (fun r_81 hf => ?_)
              refine lv_aload_n hx hb dX10_acts_113 rfl (lv_at hl 1 rfl) ?_
              refine va_get (D := (dC, dI)) (ci := 9) (v := .ref (a 46)) (C := RX10) (T := TX10) (N := 9) hx hb hts inX10 hown hK hP 0 rfl rfl 5 (by decide) (hts _ q_fl_X10_32) (fun _ h9 => h9) rfl dX10_acts_114 ?_
              refine lv_iconst (v := 3) hx hb dX10_acts_117 (by decide) ?_
              refine z_cVi (As := [.int (3 : Int32)]) (rest := [.int r_81, .int r_80, .int r_79, .int u_51.2.2.2.2.1, .ref (a 1)]) X (c_X6_number l dC dI cI cJ cS (fun i => a (46 + i)) u_51 (3 : Int32) _ hf) zc_X6_number q_ml_X10_68 ⟨rfl, rfl⟩ ⟨Nat.le_of_ble_eq_true rfl, Nat.le_of_ble_eq_true rfl⟩ hP [46, 47, 48] rfl 5 rfl rfl hl.1 rfl rfl (Nat.le_of_ble_eq_true rfl) ⟨Nat.le_of_ble_eq_true rfl, Nat.le_of_ble_eq_true rfl⟩ dX10_acts_118 (fun r_82 hf => ?_)
              refine z_pVi (Wn := (fun u_84 => cl_X10 cI cJ cS a (u_84, z.2.1, z.2.2.1, z.2.2.2.1, z.2.2.2.2.1, u_51, z.2.2.2.2.2.2))) (As := [.int u_51.2.2.2.2.1, .int r_79, .int r_80, .int r_81, .int r_82]) (rest := []) (wr := rr_X10_n cI cJ cS a (z.1, z.2.1, z.2.2.1, z.2.2.2.1, z.2.2.2.2.1, u_51, z.2.2.2.2.2.2)) X (c_X5_perform l dC dI cI cJ cS (fun i => a (1 + i)) z.1 u_51.2.2.2.2.1 r_79 r_80 r_81 r_82 _ hf _) zc_X5_perform q_ml_X10_76 ⟨rfl, rfl⟩ ⟨Nat.le_of_ble_eq_true rfl, Nat.le_of_ble_eq_true rfl⟩ hP hD hS hA (pm_X10_n cI cJ cS a (z.1, z.2.1, z.2.2.1, z.2.2.2.1, z.2.2.2.2.1, u_51, z.2.2.2.2.2.2)) (fun u_84 => pm_X10_n cI cJ cS a (u_84, z.2.1, z.2.2.1, z.2.2.2.1, z.2.2.2.2.1, u_51, z.2.2.2.2.2.2)) 4 rfl rfl hl.1 rfl rfl (Nat.le_of_ble_eq_true rfl) ⟨Nat.le_of_ble_eq_true rfl, Nat.le_of_ble_eq_true rfl⟩ dX10_acts_121 (fun r_83 u_84 H locs hf hP hD hS => ?_)
              refine lv_pop hx hb dX10_acts_124 rfl ?_
              obtain ⟨x_85, ex_85⟩ : ∃ y : Int32, y = y1 + (1 : Int32) := ⟨_, rfl⟩
              have hf := hf x_85 ex_85
              refine lv_iinc (v := x_85) (lv' := [(1, .int x_85), (2, .int r_76), (0, .ref (a 0))]) hx hb dX10_acts_125 hl (k := 2) rfl (by rw [ex_85]; rfl) (by decide) rfl (fun ls hl => ?_)
              refine lv_goto (tgt := 22) hx hb dX10_acts_128 (by decide) ?_
              obtain ⟨k_86, hk_86, hf⟩ := hf
              exact (ih k_86 hk_86) _ _ (u_84, z.2.1, z.2.2.1, z.2.2.2.1, z.2.2.2.2.1, u_51, z.2.2.2.2.2.2) _ _ ls hf hP hD hS (lv_sub hl [2, 0, 1] rfl)
  unfold t_X10_acts_e at hf
  refine lv_iconst (v := 0) hx hb dX10_acts_0 (by decide) ?_
  refine lv_istore_n (lv' := [(1, .int (0 : Int32)), (0, .ref (a 0))]) hx hb dX10_acts_1 rfl hl (by decide) rfl (fun ls hl => ?_)
  refine lv_iconst (v := 0) hx hb dX10_acts_2 (by decide) ?_
  refine lv_istore_n (lv' := [(2, .int (0 : Int32)), (1, .int (0 : Int32)), (0, .ref (a 0))]) hx hb dX10_acts_3 rfl hl (by decide) rfl (fun ls hl => ?_)
  refine lv_aload_n hx hb dX10_acts_4 rfl (lv_at hl 2 rfl) ?_
  refine va_get (D := (dC, dI)) (ci := 9) (v := .ref (a 16)) (C := RX10) (T := TX10) (N := 9) hx hb hts inX10 hown hK hP 0 rfl rfl 1 (by decide) (hts _ q_fl_X10_16) (fun _ h9 => h9) rfl dX10_acts_5 ?_
  refine lv_aload_n hx hb dX10_acts_8 rfl (lv_at hl 2 rfl) ?_
  refine va_get (D := (dC, dI)) (ci := 9) (v := .ref (a 1)) (C := RX10) (T := TX10) (N := 9) hx hb hts inX10 hown hK hP 0 rfl rfl 0 (by decide) (hts _ q_fl_X10_10) (fun _ h9 => h9) rfl dX10_acts_9 ?_
  refine z_pVv (Wn := (fun u_2 => cl_X10 cI cJ cS a (u_2.2, u_2.1, u.2.2))) (As := [.ref (a 1)]) (rest := []) (wr := rr_X10_pn cI cJ cS a u) X (c_X5_copyFrom l dC dI cI cJ cS (fun i => a (16 + i)) (fun i => a (1 + i)) u.2.1 u.1  _ hf _) zc_X5_copyFrom q_ml_X10_55 ⟨rfl, rfl⟩ ⟨Nat.le_of_ble_eq_true rfl, Nat.le_of_ble_eq_true rfl⟩ hP hD hS hA (pm_X10_pn cI cJ cS a u) (fun u_2 => pm_X10_pn cI cJ cS a (u_2.2, u_2.1, u.2.2)) 4 rfl rfl hl.1 rfl rfl (Nat.le_of_ble_eq_true rfl) ⟨Nat.le_of_ble_eq_true rfl, Nat.le_of_ble_eq_true rfl⟩ dX10_acts_12 (fun u_2 H locs hf hP hD hS => ?_)
  refine lv_aload_n hx hb dX10_acts_15 rfl (lv_at hl 2 rfl) ?_
  refine va_get (D := (dC, dI)) (ci := 9) (v := .ref (a 46)) (C := RX10) (T := TX10) (N := 9) hx hb hts inX10 hown hK hP 0 rfl rfl 5 (by decide) (hts _ q_fl_X10_32) (fun _ h9 => h9) rfl dX10_acts_16 ?_
  refine z_pVv (Wn := (fun u_4 => cl_X10 cI cJ cS a (u_2.2, u_2.1, u.2.2.1, u.2.2.2.1, u.2.2.2.2.1, u_4, u.2.2.2.2.2.2))) (As := []) (rest := []) (wr := rr_X10_t cI cJ cS a (u_2.2, u_2.1, u.2.2)) X (c_X6_rewind l dC dI cI cJ cS (fun i => a (46 + i)) u.2.2.2.2.2.1  _ hf _) zc_X6_rewind q_ml_X10_59 ⟨rfl, rfl⟩ ⟨Nat.le_of_ble_eq_true rfl, Nat.le_of_ble_eq_true rfl⟩ hP hD hS hA (pm_X10_t cI cJ cS a (u_2.2, u_2.1, u.2.2)) (fun u_4 => pm_X10_t cI cJ cS a (u_2.2, u_2.1, u.2.2.1, u.2.2.2.1, u.2.2.2.2.1, u_4, u.2.2.2.2.2.2)) 5 rfl rfl hl.1 rfl rfl (Nat.le_of_ble_eq_true rfl) ⟨Nat.le_of_ble_eq_true rfl, Nat.le_of_ble_eq_true rfl⟩ dX10_acts_19 (fun u_4 H locs hf hP hD hS => ?_)
  obtain ⟨k_5, hf⟩ := hf
  exact (LP k_5) _ _ (u_2.2, u_2.1, u.2.2.1, u.2.2.2.1, u.2.2.2.2.1, u_4, u.2.2.2.2.2.2) _ _ ls hf hP hD hS (lv_sub hl [2, 1, 0] rfl)
theorem acts22 {y1 y2 : Int32} {z : zCls} {K : Int32 → Int32 → zCls → Prop} {Q : Int32 → zCls → Prop} {QX : String → zCls → Prop} (hE : 14 < y1 ∨ ¬ y2 = 0 → acX y1 y2 z.2.2.2.2.2.1 z Q QX) (hA : ¬ 14 < y1 → y2 = 0 → s_X6_readAct z.2.2.2.2.2.1 y1 (fun r t => (r = 0 → acX y1 y2 t z Q QX) ∧ (¬ r = 0 → acN y1 t z K))) : t_X10_acts_22 y1 y2 z K Q QX :=
  ⟨fun c => hE (Or.inl c), fun c => ⟨fun d => hE (Or.inr d), fun d => hA c d⟩⟩
/-- the end of a text that is right -/
theorem acX_ok {n : Nat} {t : zTape} {z : zCls} {Q : Int32 → zCls → Prop} {QX : String → zCls → Prop} (hn : n ≤ 16) (hw : t.2.2.2.2.2.2 = -1) (hQ : Q (nI n) (z.1, z.2.1, z.2.2.1, z.2.2.2.1, (z.2.2.2.2.1.1, z.2.2.2.2.1.2.1, 0), (t.1, t.2.1, 0, t.2.2.2.1, t.2.2.2.2.1, t.2.2.2.2.2.1, t.2.2.2.2.2.2), z.2.2.2.2.2.2.1, -1, if n = 0 then z.2.2.2.2.2.2.2.2 else 0)) : acX (nI n) 0 t z Q QX := by
  refine ⟨fun q => absurd rfl q, fun _ x ex => ⟨fun _ => ⟨fun d => ?_, fun d y ey => ?_⟩, fun q => absurd (ex.trans hw) q⟩⟩
  · rw [if_neg (fun q => d (by rw [q]; rfl))] at hQ
    rw [ex.trans hw]; exact hQ
  · have : n = 0 := (nI_eq (by omega) (by decide)).mp (show nI n = nI 0 from d)
    rw [if_pos this] at hQ
    rw [ex.trans hw, ey]; exact hQ
/-- the end of one that is wrong -/
theorem acX_wr {y1 y2 : Int32} {w : Nat} {t : zTape} {z : zCls} {Q : Int32 → zCls → Prop} {QX : String → zCls → Prop} (hw4 : w ≤ 400) (hw : y2 = 0 → t.2.2.2.2.2.2 = nI w) (hb : ¬ y2 = 0 → t.2.2.2.2.2.1 = nI w) (hQ : QX "java/lang/IllegalArgumentException" (z.2.1, z.2.1, z.2.2.1, z.2.2.2.1, z.2.2.2.2.1, (t.1, t.2.1, 0, t.2.2.2.1, t.2.2.2.2.1, t.2.2.2.2.2.1, t.2.2.2.2.2.2), z.2.2.2.2.2.2.1, nI w, if y2 = 0 then z.2.2.2.2.2.2.2.2 else y2)) : acX y1 y2 t z Q QX := by
  have hn : ¬ nI w = -1 := n_neg (by omega)
  refine ⟨fun d x ex => ⟨fun q => absurd ((ex.trans (hb d)).symm.trans q) hn, fun _ => ⟨fun _ => ?_, fun q => absurd q d⟩⟩, fun d x ex => ⟨fun q => absurd ((ex.trans (hw d)).symm.trans q) hn, fun _ => ⟨fun q => absurd d q, fun _ y ey => ?_⟩⟩⟩
  · rw [if_neg d] at hQ
    rw [ex.trans (hb d)]; exact hQ
  · rw [if_pos d] at hQ
    rw [ex.trans (hw d), ey]; exact hQ
theorem num6 {t : zTape} {i : Nat} {Q : Int32 → Prop} (hi : i < 4) (h : Q (t.2.1 i)) : s_X6_number t (nI i) Q := by
  refine ⟨fun c => absurd c (nI_pos (by omega)), fun _ => ⟨fun _ => ⟨vp_in_nI hi (by decide), ?_⟩, fun c => absurd (nI_lt (b := 4) hi (by decide)) c⟩⟩
  rw [nI_clamp (by omega)]; exact h
/-- an ACT's numbers beyond those that it has don't count -/
theorem doAe_0 (v : zState) (a b c d : Int32) : doA v 0 a b c d = ((0 : Int32), uBegin v a b c d) := rfl
theorem doAe_3 (v : zState) (a b c d : Int32) : doA v 3 a b c d = ((0 : Int32), uSync v) := rfl
theorem doAe_4 (v : zState) (a b c d : Int32) : doA v 4 a b c d = ((0 : Int32), uFlush v) := rfl
theorem doAe_5 (v : zState) (a b c d : Int32) : doA v 5 a b c d = ((0 : Int32), uCrash v) := rfl
theorem doAe_9 (v : zState) (a b c d : Int32) : doA v 9 a b c d = ((0 : Int32), uMerge v) := rfl
theorem doA_cg {v : zState} {k : Nat} {f g : Nat → Int32} (hk : k < 10) (h : ∀ i, i < nN k → f i = g i) : doA v k (f 0) (f 1) (f 2) (f 3) = doA v k (g 0) (g 1) (g 2) (g 3) := by
  rcases (show k = 0 ∨ k = 1 ∨ k = 2 ∨ k = 3 ∨ k = 4 ∨ k = 5 ∨ k = 6 ∨ k = 7 ∨ k = 8 ∨ k = 9 by omega) with rfl | rfl | rfl | rfl | rfl | rfl | rfl | rfl | rfl | rfl
  · rw [h 0 (by decide), h 1 (by decide), h 2 (by decide), h 3 (by decide)]
  · rw [h 0 (by decide), h 1 (by decide), h 2 (by decide), doAe_1, doAe_1]
  · rw [h 0 (by decide), doAe_2, doAe_2]
  · rw [doAe_3, doAe_3]
  · rw [doAe_4, doAe_4]
  · rw [doAe_5, doAe_5]
  · rw [h 0 (by decide), doAe_6, doAe_6]
  · rw [h 0 (by decide), doAe_7, doAe_7]
  · rw [doAe_8, doAe_8]
  · rw [doAe_9, doAe_9]
def aOkB (k : Nat) (a b c d : Int32) : Prop := (k = 0 → inR a 50 200 ∧ inR b 0 40 ∧ inR c 2 16 ∧ inR d 1 4) ∧ (k = 1 → inR a 0 63 ∧ inR b 1 40 ∧ inR c 0 255) ∧ (k = 2 → inR a 0 63) ∧ (k = 6 → a = -1 ∨ inR a 0 11) ∧ (k = 7 → inR a 1 20)
theorem aOkB.A {k : Nat} {a b c d : Int32} (hk : k < 10) (h : aOkB k a b c d) : aOkA k a b c d := by
  obtain ⟨h0, h1, h2, h6, h7⟩ := h
  rcases (show k = 0 ∨ k = 1 ∨ k = 2 ∨ k = 3 ∨ k = 4 ∨ k = 5 ∨ k = 6 ∨ k = 7 ∨ k = 8 ∨ k = 9 by omega) with rfl | rfl | rfl | rfl | rfl | rfl | rfl | rfl | rfl | rfl
  · exact h0 rfl
  · exact h1 rfl
  · exact h2 rfl
  · trivial
  · trivial
  · trivial
  · exact h6 rfl
  · exact h7 rfl
  · trivial
  · trivial
theorem aOk_k {t : Nat → Int32} {N e k : Nat} {f : Nat → Int32} (hn : ¬ (k = 6 ∧ pkNo t N e = true) → ¬ nBad t N k e < nN k) (h : ∀ i, i < nN k → f i = nAr t N k e i) : aOkB k (f 0) (f 1) (f 2) (f 3) := by
  have hA : ¬ k = 6 → ∀ i, i < nN k → inR (f i) (nLo k i) (nHi k i) := fun h6 i hi => by
    rw [h i hi, nAr_n h6]; exact nums_ok (hn (fun z => h6 z.1)) i hi
  refine ⟨fun q => ?_, fun q => ?_, fun q => ?_, fun q => ?_, fun q => ?_⟩
  · subst q
    have hA := hA (by decide)
    exact ⟨hA 0 (by decide), hA 1 (by decide), hA 2 (by decide), hA 3 (by decide)⟩
  · subst q
    have hA := hA (by decide)
    exact ⟨hA 0 (by decide), hA 1 (by decide), hA 2 (by decide)⟩
  · subst q
    exact hA (by decide) 0 (by decide)
  · subst q
    rw [h 0 (by decide)]
    unfold nAr
    by_cases c : pkNo t N e = true
    · rw [if_pos ⟨rfl, c⟩]; exact Or.inl rfl
    · rw [if_neg (fun z => c z.2)]
      exact Or.inr (nums_ok (hn (fun z => c z.2)) 0 (by decide))
  · subst q
    exact hA (by decide) 0 (by decide)
/-- an ACT that was read is refused, or done -/
theorem acN_of {B K : Nat} {v : zState} {z : zCls} {t : zTape} {y1 : Int32} {KK : Int32 → Int32 → zCls → Prop} {r : Int32 × zState} (hv : okB B v) (hB : B + 20 ≤ 400000) (hK : K < 10) (ez : z.1 = v) (ea : t.2.2.2.2.1 = nI K) (ha : aOkB K (t.2.1 0) (t.2.1 1) (t.2.1 2) (t.2.1 3)) (er : doA v K (t.2.1 0) (t.2.1 1) (t.2.1 2) (t.2.1 3) = r)
    (h0 : ¬ r.1 = 0 → KK y1 r.1 (z.1, z.2.1, z.2.2.1, z.2.2.2.1, z.2.2.2.2.1, t, z.2.2.2.2.2.2)) (h1 : r.1 = 0 → ∀ x : Int32, x = y1 + 1 → KK x r.1 (r.2, z.2.1, z.2.2.1, z.2.2.2.1, z.2.2.2.2.1, t, z.2.2.2.2.2.2)) : acN y1 t z KK := by
  have hA := ha.A hK
  subst ez
  unfold acN
  rw [ea]
  refine num6 (i := 0) (by decide) (num6 (i := 1) (by decide) (ref_of (c := t.2.1 2) (d := t.2.1 3) hv hK hA ?_))
  rw [er]
  refine ⟨h0, fun q => num6 (i := 0) (by decide) (num6 (i := 1) (by decide) (num6 (i := 2) (by decide) (num6 (i := 3) (by decide) (perf_of hv hB hK hA (by rw [er]; exact q) ?_))))⟩
  rw [er]
  exact h1 q
theorem ract_of {T f : Nat → Int32} {N p n : Nat} {b d e : Int32} {Q : Int32 → zTape → Prop} (hN : N ≤ 400) (hp : p ≤ N) (hn : n ≤ 16) (h0 : ¬ pSk T N p < N → Q 0 (T, f, nI N, nI (pSk T N p), b, d, e))
    (h1 : pSk T N p < N → 0 < n → ¬ T (pSk T N p) = 59 → ∀ (f : Nat → Int32) (a b c : Int32), Q 0 (T, f, nI N, a, b, c, nI (pSk T N p)))
    (h2 : pSk T N p < N → (0 < n → T (pSk T N p) = 59) → 14 ≤ n → ∀ (f : Nat → Int32) (a b c : Int32), Q 0 (T, f, nI N, a, b, c, nI (txX T N n p)))
    (h3 : pSk T N p < N → (0 < n → T (pSk T N p) = 59) → n < 14 → 0 < aWr T N (txX T N n p) → ∀ (f : Nat → Int32) (a b c : Int32), Q 0 (T, f, nI N, a, b, c, nI (aWr T N (txX T N n p) - 1)))
    (h4 : pSk T N p < N → (0 < n → T (pSk T N p) = 59) → n < 14 → aWr T N (txX T N n p) = 0 → ∀ f : Nat → Int32, (∀ i, i < nN (wdK T N (txX T N n p)) → f i = nAr T N (wdK T N (txX T N n p)) (wdE T N (txX T N n p)) i) → Q 1 (T, f, nI N, nI (nEnd T N (wdK T N (txX T N n p)) (wdE T N (txX T N n p))), nI (wdK T N (txX T N n p)), nI (txX T N n p), e)) : s_X6_readAct (T, f, nI N, nI p, b, d, e) (nI n) Q :=
  ⟨N, p, n, ⟨hN, hp, rfl, rfl⟩, hn, rfl, h0, h1, h2, h3, h4⟩
def s_X10_acts (u : zCls) (Q : Int32 → zCls → Prop) (QX : String → zCls → Prop) : Prop := ∃ (B : Nat) (G : zG), okG B G ∧ B + 280 ≤ 400000 ∧ cG G u ∧ cOut (fActs G) (exO 0 0 0) Q QX
/-- the class while a text is done -/
def acZ (u : zCls) (v w : zState) (t : zTape) : zCls := (v, w, u.2.2.1, u.2.2.2.1, u.2.2.2.2.1, t, u.2.2.2.2.2.2)
theorem st_X10_acts {u : zCls} {Q : Int32 → zCls → Prop} {QX : String → zCls → Prop} (h : s_X10_acts u Q QX) : v_X10_acts u Q QX := by
  obtain ⟨B, G, hG, hB, hc, hQ⟩ := h
  obtain ⟨c1, ⟨c2, c3, ⟨fm, hfm, m1, m2, m3⟩, ⟨t1, t2⟩, c6⟩, c7⟩ := id hc
  have hN : gTpN G ≤ 400 := hG.2.2.2
  obtain ⟨T, eT⟩ : ∃ T, T = u.2.2.2.2.2.1.1 := ⟨_, rfl⟩
  rw [← eT] at t2
  generalize eN : gTpN G = N at t1 t2 hN
  have etx : txt G = txF T N 16 0 0 (gNow G) := by
    unfold txt
    rw [eN]
    exact (txF_c t2 16 0 0 (gNow G) (by omega)).symm
  unfold fActs at hQ
  rw [etx] at hQ
  -- the ends
  have endOk : ∀ (n : Nat) (v w : zState) (f : Nat → Int32) (a b d e : Int32), n ≤ 16 → e = -1 → txF T N 16 0 0 (gNow G) = (-1, 0, n, v) → acX (nI n) 0 (T, f, nI N, a, b, d, e) (acZ u v w (T, f, nI N, a, b, d, e)) Q QX := by
    intro n v w f a b d e hn he et
    rw [et] at hQ
    subst he
    refine acX_ok hn rfl ?_
    refine (hQ (v, w, u.2.2.1, u.2.2.2.1, (u.2.2.2.2.1.1, u.2.2.2.2.1.2.1, 0), (T, f, 0, a, b, d, -1), u.2.2.2.2.2.2.1, -1, if n = 0 then u.2.2.2.2.2.2.2.2 else 0) ⟨rfl, ⟨c2, c3, ⟨fm, hfm, m1, rfl, fun i hi => absurd hi (Nat.not_lt_zero i)⟩, ⟨rfl, fun j hj => absurd hj (Nat.not_lt_zero j)⟩, rfl⟩, ?_⟩).1 rfl
    show (if n = 0 then u.2.2.2.2.2.2.2.2 else 0) = if n = 0 then gWy G else 0
    rw [c7]
  have endNo : ∀ (w n : Nat) (y1 y2 : Int32) (v v' : zState) (t : zTape) (z' : zTape), w ≤ 400 → (y2 = 0 → t.2.2.2.2.2.2 = nI w) → (¬ y2 = 0 → t.2.2.2.2.2.1 = nI w) → txF T N 16 0 0 (gNow G) = (nI w, y2, n, v) → acX y1 y2 t (acZ u v' (gNow G) z') Q QX := by
    intro w n y1 y2 v v' t z' hw h1 h2 et
    rw [et, if_neg (n_neg (n := w) (by omega))] at hQ
    refine acX_wr hw h1 h2 ?_
    refine (hQ (gNow G, gNow G, u.2.2.1, u.2.2.2.1, u.2.2.2.2.1, (t.1, t.2.1, 0, t.2.2.2.1, t.2.2.2.2.1, t.2.2.2.2.2.1, t.2.2.2.2.2.2), u.2.2.2.2.2.2.1, nI w, if y2 = 0 then u.2.2.2.2.2.2.2.2 else y2) ⟨rfl, ⟨c2, c3, ⟨fm, hfm, m1, m2, m3⟩, ⟨rfl, fun j hj => absurd hj (Nat.not_lt_zero j)⟩, rfl⟩, ?_⟩).2 (show ¬ (1 : Int32) = 0 by decide)
    show (if y2 = 0 then u.2.2.2.2.2.2.2.2 else y2) = if y2 = 0 then gWy G else y2
    rw [c7]
  refine ⟨fun k y1 y2 z => (∃ (n p : Nat) (v : zState) (f : Nat → Int32) (b d : Int32), n ≤ 14 ∧ k = 20 - n ∧ y1 = nI n ∧ y2 = 0 ∧ p ≤ N ∧ okB (B + 20 * n) v ∧ z = acZ u v (gNow G) (T, f, nI N, nI p, b, d, -1) ∧ txF T N 16 0 0 (gNow G) = txF T N (16 - n) n p v) ∨
    (∃ (w n : Nat) (v : zState) (t : zTape), k = 0 ∧ ¬ y2 = 0 ∧ w ≤ 400 ∧ t.2.2.2.2.2.1 = nI w ∧ z = acZ u v (gNow G) t ∧ txF T N 16 0 0 (gNow G) = (nI w, y2, n, v)), ?_, ?_⟩
  · rintro k y1 y2 z (⟨n, p, v, f, b, d, hn, rfl, rfl, rfl, hp, hv, rfl, et⟩ | ⟨w, n, v, t, rfl, hy, hw, hb, rfl, et⟩)
    · refine acts22 (fun c => ?_) (fun _ _ => ?_)
      · rcases c with c | c
        · exact absurd c (nI_nlt (a := 14) (b := n) hn (by decide))
        · exact absurd rfl c
      · have hsk := pSk_le T hp
        obtain ⟨fl, efl⟩ : ∃ fl, 16 - n = fl + 1 := ⟨15 - n, by omega⟩
        rw [efl] at et
        have et := et.trans (txF_s T N fl n p v)
        refine ract_of (T := T) (f := f) (N := N) (p := p) (n := n) (b := b) (d := d) (e := -1) hN hp (by omega) (fun h1 => ⟨fun _ => ?_, fun q => absurd rfl q⟩) (fun h1 h2 h3 f a b c => ⟨fun _ => ?_, fun q => absurd rfl q⟩) (fun h1 h2 h3 f a b c => ⟨fun _ => ?_, fun q => absurd rfl q⟩) (fun h1 h2 h3 h4 f a b c => ⟨fun _ => ?_, fun q => absurd rfl q⟩) (fun h1 h2 h3 h4 f hf => ⟨fun q => absurd q (by decide), fun _ => ?_⟩)
        · have h1 : ¬ pSk T N p < N := h1
          rw [if_pos h1] at et
          exact endOk n v (gNow G) f (nI (pSk T N p)) b d (-1) (by omega) rfl et
        · have h1 : pSk T N p < N := h1
          have h3 : ¬ T (pSk T N p) = 59 := h3
          rw [if_neg (fun q => q h1), if_pos ⟨h2, h3⟩] at et
          exact endNo (pSk T N p) n _ 0 v v _ _ (by omega) (fun _ => rfl) (fun q => absurd rfl q) et
        · have h1 : pSk T N p < N := h1
          have h2 : 0 < n → T (pSk T N p) = 59 := h2
          rw [if_neg (fun q => q h1), if_neg (fun q => q.2 (h2 q.1)), if_pos h3] at et
          have := txX_le T (n := n) h1
          exact endNo (txX T N n p) n _ 0 v v _ _ (by omega) (fun _ => rfl) (fun q => absurd rfl q) et
        · have h1 : pSk T N p < N := h1
          have h2 : 0 < n → T (pSk T N p) = 59 := h2
          have h4 : 0 < aWr T N (txX T N n p) := h4
          rw [if_neg (fun q => q h1), if_neg (fun q => q.2 (h2 q.1)), if_neg (show ¬ 14 ≤ n by omega), if_pos h4] at et
          have := aWr_le T (txX_le T (n := n) h1)
          exact endNo (aWr T N (txX T N n p) - 1) n _ 0 v v _ _ (by omega) (fun _ => rfl) (fun q => absurd rfl q) et
        · have h1 : pSk T N p < N := h1
          have h2 : 0 < n → T (pSk T N p) = 59 := h2
          have h4 : aWr T N (txX T N n p) = 0 := h4
          rw [if_neg (fun q => q h1), if_neg (fun q => q.2 (h2 q.1)), if_neg (show ¬ 14 ≤ n by omega), if_neg (show ¬ 0 < aWr T N (txX T N n p) by omega)] at et
          have hX := txX_le T (n := n) h1
          obtain ⟨hk, hnn⟩ := aWr_0 h4
          have hfin : nEnd T N (wdK T N (txX T N n p)) (wdE T N (txX T N n p)) ≤ N := nEnd_le T (wdE_le T hX) _
          have hob : (doT T N (txX T N n p) v).1 = 0 → okB (B + 20 * n + 20) (doT T N (txX T N n p) v).2 := okB_doT hv (by omega) h4
          have hdo : doA v (wdK T N (txX T N n p)) (f 0) (f 1) (f 2) (f 3) = doT T N (txX T N n p) v := doA_cg hk hf
          have hbb : aOkB (wdK T N (txX T N n p)) (f 0) (f 1) (f 2) (f 3) := aOk_k hnn hf
          generalize wdK T N (txX T N n p) = K at hk hfin hdo hbb et ⊢
          generalize nEnd T N K (wdE T N (txX T N n p)) = E at hfin et ⊢
          generalize doT T N (txX T N n p) v = r at hob hdo et
          generalize txX T N n p = X at hX et ⊢
          refine acN_of (v := v) (r := r) hv (by omega) hk rfl rfl hbb hdo (fun h0 => ?_) (fun h0 x ex => ?_)
          · rw [if_neg h0] at et
            exact ⟨0, by omega, Or.inr ⟨X, n, v, _, rfl, h0, by omega, rfl, rfl, et⟩⟩
          · rw [if_pos h0] at et
            refine ⟨20 - (n + 1), by omega, Or.inl ⟨n + 1, E, r.2, f, _, _, by omega, rfl, by rw [ex, nI_1], h0, hfin, ?_, rfl, ?_⟩⟩
            · rw [show B + 20 * (n + 1) = B + 20 * n + 20 by omega]
              exact hob h0
            · rw [et, show 16 - (n + 1) = fl by omega]
    · exact acts22 (fun _ => endNo w n y1 y2 v v t t hw (fun q => absurd q hy) (fun _ => hb) et) (fun _ q => absurd q hy)
  · show ∃ k : Nat, _
    refine ⟨20 - 0, Or.inl ⟨0, 0, gNow G, u.2.2.2.2.2.1.2.1, u.2.2.2.2.2.1.2.2.2.2.1, u.2.2.2.2.2.1.2.2.2.2.2.1, by omega, rfl, rfl, rfl, Nat.zero_le _, hG.1, ?_, rfl⟩⟩
    show (u.1, u.1, u.2.2.1, u.2.2.2.1, u.2.2.2.2.1, (u.2.2.2.2.2.1.1, u.2.2.2.2.2.1.2.1, u.2.2.2.2.2.1.2.2.1, (0 : Int32), u.2.2.2.2.2.1.2.2.2.2.1, u.2.2.2.2.2.1.2.2.2.2.2.1, (-1 : Int32)), u.2.2.2.2.2.2) = acZ u (gNow G) (gNow G) (T, u.2.2.2.2.2.1.2.1, nI N, nI 0, u.2.2.2.2.2.1.2.2.2.2.1, u.2.2.2.2.2.1.2.2.2.2.2.1, -1)
    rw [c1, ← eT, t1]
    rfl
theorem c_X10_acts (l : Launch) (hlt : l.stackTraces = false) (dC : Nat → ClassId) (dI : Nat → Nat → Nat) (cI cJ cS : ClassId) (a : Nat → Nat) (u : zCls) (Q : Int32 → zCls → Prop) (QX : String → zCls → Prop) (hf : s_X10_acts u Q QX) : ∀ sz : Nat, vx_Met l yX10_acts (Cond.code yX10_acts cX10_acts 3 (some .int) :: zT) rm_X10_acts (zPmF zFy dC dI cI cJ cS (cl_X10 cI cJ cS a u) [.ref (a 0)] sz) (va_Qi Q (zB dC dI cI cJ cS (va_A (cl_X10 cI cJ cS a u) sz) (fun z => cl_X10 cI cJ cS a z)) (va_A (cl_X10 cI cJ cS a u) sz)) (zXc QX dC dI cI cJ cS (va_A (cl_X10 cI cJ cS a u) sz) (fun z => cl_X10 cI cJ cS a z)) 1 6 (va_A (cl_X10 cI cJ cS a u) sz) := by
  obtain ⟨I22, h22, hf⟩ := st_X10_acts hf
  exact L_X10_acts l hlt dC dI cI cJ cS a u Q QX I22 h22 hf
