theorem q_in_X11 : (.initialized RX11 : Cond) ∈ zT := zT_mem (List.mem_of_getElem? (i := 112) (by decide +kernel)) (by decide +kernel)
theorem q_in_L : (.initialized RL : Cond) ∈ zT := zT_mem (List.mem_of_getElem? (i := 101) (by decide +kernel)) (by decide +kernel)
theorem q_in_System : (.initialized "java/lang/System" : Cond) ∈ zT := zT_mem (List.mem_of_getElem? (i := 113) (by decide +kernel)) (by decide +kernel)
theorem q_in_Math : (.initialized "java/lang/Math" : Cond) ∈ zT := zT_mem (List.mem_of_getElem? (i := 118) (by decide +kernel)) (by decide +kernel)
theorem q_na_copy : (.native arraycopyName : Cond) ∈ zT := zT_mem (List.mem_of_getElem? (i := 496) (by decide +kernel)) (by decide +kernel)
theorem q_st_copy : (.static arraycopyName : Cond) ∈ zT := zT_mem (List.mem_of_getElem? (i := 495) (by decide +kernel)) (by decide +kernel)
theorem q_st_Mmin : (.static Lib.Math.min.name : Cond) ∈ zT := zT_mem (List.mem_of_getElem? (i := 664) (by decide +kernel)) (by decide +kernel)
theorem q_cd_Mmin : (.code Lib.Math.min.name Lib.Math.min.code 2 (some .int) : Cond) ∈ zT := zT_mem (List.mem_of_getElem? (i := 665) (by decide +kernel)) (by decide +kernel)
theorem q_st_Mmax : (.static Lib.Math.max.name : Cond) ∈ zT := zT_mem (List.mem_of_getElem? (i := 630) (by decide +kernel)) (by decide +kernel)
theorem q_cd_Mmax : (.code Lib.Math.max.name Lib.Math.max.code 2 (some .int) : Cond) ∈ zT := zT_mem (List.mem_of_getElem? (i := 631) (by decide +kernel)) (by decide +kernel)
theorem q_cd_obj : (.code objectInit ⟨#[0xb1]⟩ 1 none : Cond) ∈ zT := zT_mem (List.mem_of_getElem? (i := 134) (by decide +kernel)) (by decide +kernel)
theorem q_im_obj : (.instanceMethod objectInit : Cond) ∈ zT := zT_mem (List.mem_of_getElem? (i := 133) (by decide +kernel)) (by decide +kernel)
theorem q_ac_int : (.arrayClass .int : Cond) ∈ zT := zT_mem (List.mem_of_getElem? (i := 224) (by decide +kernel)) (by decide +kernel)
theorem q_ac_long : (.arrayClass .long : Cond) ∈ zT := zT_mem (List.mem_of_getElem? (i := 223) (by decide +kernel)) (by decide +kernel)
theorem q_ly_X1_0 : (u_lay RX1 TX1 0 : Cond) ∈ zT := zT_mem (List.mem_of_getElem? (i := 257) (by decide +kernel)) (by decide +kernel)
theorem q_ly_X1_1 : (u_lay RX1 TX1 1 : Cond) ∈ zT := zT_mem (List.mem_of_getElem? (i := 259) (by decide +kernel)) (by decide +kernel)
theorem q_ly_X1_2 : (u_lay RX1 TX1 2 : Cond) ∈ zT := zT_mem (List.mem_of_getElem? (i := 261) (by decide +kernel)) (by decide +kernel)
theorem q_ly_X1_3 : (u_lay RX1 TX1 3 : Cond) ∈ zT := zT_mem (List.mem_of_getElem? (i := 263) (by decide +kernel)) (by decide +kernel)
theorem inX1 : ∀ w ∈ u_ws RX1 TX1 4, w ∈ zT := by
  intro w h
  obtain ⟨k, hk, rfl⟩ := List.mem_map.mp h
  have hk := List.mem_range.mp hk
  rcases (show k = 0 ∨ k = 1 ∨ k = 2 ∨ k = 3 by omega) with rfl | rfl | rfl | rfl
  · exact q_ly_X1_0
  · exact q_ly_X1_1
  · exact q_ly_X1_2
  · exact q_ly_X1_3
theorem q_ly_X2_0 : (u_lay RX2 TX2 0 : Cond) ∈ zT := zT_mem (List.mem_of_getElem? (i := 276) (by decide +kernel)) (by decide +kernel)
theorem q_ly_X2_1 : (u_lay RX2 TX2 1 : Cond) ∈ zT := zT_mem (List.mem_of_getElem? (i := 278) (by decide +kernel)) (by decide +kernel)
theorem inX2 : ∀ w ∈ u_ws RX2 TX2 2, w ∈ zT := by
  intro w h
  obtain ⟨k, hk, rfl⟩ := List.mem_map.mp h
  have hk := List.mem_range.mp hk
  rcases (show k = 0 ∨ k = 1 by omega) with rfl | rfl
  · exact q_ly_X2_0
  · exact q_ly_X2_1
theorem q_ly_X3_0 : (u_lay RX3 TX3 0 : Cond) ∈ zT := zT_mem (List.mem_of_getElem? (i := 370) (by decide +kernel)) (by decide +kernel)
theorem q_ly_X3_1 : (u_lay RX3 TX3 1 : Cond) ∈ zT := zT_mem (List.mem_of_getElem? (i := 372) (by decide +kernel)) (by decide +kernel)
theorem q_ly_X3_2 : (u_lay RX3 TX3 2 : Cond) ∈ zT := zT_mem (List.mem_of_getElem? (i := 374) (by decide +kernel)) (by decide +kernel)
theorem inX3 : ∀ w ∈ u_ws RX3 TX3 3, w ∈ zT := by
  intro w h
  obtain ⟨k, hk, rfl⟩ := List.mem_map.mp h
  have hk := List.mem_range.mp hk
  rcases (show k = 0 ∨ k = 1 ∨ k = 2 by omega) with rfl | rfl | rfl
  · exact q_ly_X3_0
  · exact q_ly_X3_1
  · exact q_ly_X3_2
theorem q_ly_X4_0 : (u_lay RX4 TX4 0 : Cond) ∈ zT := zT_mem (List.mem_of_getElem? (i := 212) (by decide +kernel)) (by decide +kernel)
theorem q_ly_X4_1 : (u_lay RX4 TX4 1 : Cond) ∈ zT := zT_mem (List.mem_of_getElem? (i := 214) (by decide +kernel)) (by decide +kernel)
theorem q_ly_X4_2 : (u_lay RX4 TX4 2 : Cond) ∈ zT := zT_mem (List.mem_of_getElem? (i := 216) (by decide +kernel)) (by decide +kernel)
theorem q_ly_X4_3 : (u_lay RX4 TX4 3 : Cond) ∈ zT := zT_mem (List.mem_of_getElem? (i := 218) (by decide +kernel)) (by decide +kernel)
theorem q_ly_X4_4 : (u_lay RX4 TX4 4 : Cond) ∈ zT := zT_mem (List.mem_of_getElem? (i := 220) (by decide +kernel)) (by decide +kernel)
theorem inX4 : ∀ w ∈ u_ws RX4 TX4 5, w ∈ zT := by
  intro w h
  obtain ⟨k, hk, rfl⟩ := List.mem_map.mp h
  have hk := List.mem_range.mp hk
  rcases (show k = 0 ∨ k = 1 ∨ k = 2 ∨ k = 3 ∨ k = 4 by omega) with rfl | rfl | rfl | rfl | rfl
  · exact q_ly_X4_0
  · exact q_ly_X4_1
  · exact q_ly_X4_2
  · exact q_ly_X4_3
  · exact q_ly_X4_4
theorem q_ly_X5_0 : (u_lay RX5 TX5 0 : Cond) ∈ zT := zT_mem (List.mem_of_getElem? (i := 338) (by decide +kernel)) (by decide +kernel)
theorem q_ly_X5_1 : (u_lay RX5 TX5 1 : Cond) ∈ zT := zT_mem (List.mem_of_getElem? (i := 340) (by decide +kernel)) (by decide +kernel)
theorem q_ly_X5_2 : (u_lay RX5 TX5 2 : Cond) ∈ zT := zT_mem (List.mem_of_getElem? (i := 342) (by decide +kernel)) (by decide +kernel)
theorem q_ly_X5_3 : (u_lay RX5 TX5 3 : Cond) ∈ zT := zT_mem (List.mem_of_getElem? (i := 344) (by decide +kernel)) (by decide +kernel)
theorem q_ly_X5_4 : (u_lay RX5 TX5 4 : Cond) ∈ zT := zT_mem (List.mem_of_getElem? (i := 346) (by decide +kernel)) (by decide +kernel)
theorem q_ly_X5_5 : (u_lay RX5 TX5 5 : Cond) ∈ zT := zT_mem (List.mem_of_getElem? (i := 348) (by decide +kernel)) (by decide +kernel)
theorem q_ly_X5_6 : (u_lay RX5 TX5 6 : Cond) ∈ zT := zT_mem (List.mem_of_getElem? (i := 350) (by decide +kernel)) (by decide +kernel)
theorem q_ly_X5_7 : (u_lay RX5 TX5 7 : Cond) ∈ zT := zT_mem (List.mem_of_getElem? (i := 352) (by decide +kernel)) (by decide +kernel)
theorem q_ly_X5_8 : (u_lay RX5 TX5 8 : Cond) ∈ zT := zT_mem (List.mem_of_getElem? (i := 354) (by decide +kernel)) (by decide +kernel)
theorem inX5 : ∀ w ∈ u_ws RX5 TX5 9, w ∈ zT := by
  intro w h
  obtain ⟨k, hk, rfl⟩ := List.mem_map.mp h
  have hk := List.mem_range.mp hk
  rcases (show k = 0 ∨ k = 1 ∨ k = 2 ∨ k = 3 ∨ k = 4 ∨ k = 5 ∨ k = 6 ∨ k = 7 ∨ k = 8 by omega) with rfl | rfl | rfl | rfl | rfl | rfl | rfl | rfl | rfl
  · exact q_ly_X5_0
  · exact q_ly_X5_1
  · exact q_ly_X5_2
  · exact q_ly_X5_3
  · exact q_ly_X5_4
  · exact q_ly_X5_5
  · exact q_ly_X5_6
  · exact q_ly_X5_7
  · exact q_ly_X5_8
theorem q_ly_X6_0 : (u_lay RX6 TX6 0 : Cond) ∈ zT := zT_mem (List.mem_of_getElem? (i := 394) (by decide +kernel)) (by decide +kernel)
theorem q_ly_X6_1 : (u_lay RX6 TX6 1 : Cond) ∈ zT := zT_mem (List.mem_of_getElem? (i := 396) (by decide +kernel)) (by decide +kernel)
theorem q_ly_X6_2 : (u_lay RX6 TX6 2 : Cond) ∈ zT := zT_mem (List.mem_of_getElem? (i := 398) (by decide +kernel)) (by decide +kernel)
theorem q_ly_X6_3 : (u_lay RX6 TX6 3 : Cond) ∈ zT := zT_mem (List.mem_of_getElem? (i := 400) (by decide +kernel)) (by decide +kernel)
theorem q_ly_X6_4 : (u_lay RX6 TX6 4 : Cond) ∈ zT := zT_mem (List.mem_of_getElem? (i := 402) (by decide +kernel)) (by decide +kernel)
theorem q_ly_X6_5 : (u_lay RX6 TX6 5 : Cond) ∈ zT := zT_mem (List.mem_of_getElem? (i := 404) (by decide +kernel)) (by decide +kernel)
theorem q_ly_X6_6 : (u_lay RX6 TX6 6 : Cond) ∈ zT := zT_mem (List.mem_of_getElem? (i := 406) (by decide +kernel)) (by decide +kernel)
theorem inX6 : ∀ w ∈ u_ws RX6 TX6 7, w ∈ zT := by
  intro w h
  obtain ⟨k, hk, rfl⟩ := List.mem_map.mp h
  have hk := List.mem_range.mp hk
  rcases (show k = 0 ∨ k = 1 ∨ k = 2 ∨ k = 3 ∨ k = 4 ∨ k = 5 ∨ k = 6 by omega) with rfl | rfl | rfl | rfl | rfl | rfl | rfl
  · exact q_ly_X6_0
  · exact q_ly_X6_1
  · exact q_ly_X6_2
  · exact q_ly_X6_3
  · exact q_ly_X6_4
  · exact q_ly_X6_5
  · exact q_ly_X6_6
theorem q_ly_X7_0 : (u_lay RX7 TX7 0 : Cond) ∈ zT := zT_mem (List.mem_of_getElem? (i := 159) (by decide +kernel)) (by decide +kernel)
theorem q_ly_X7_1 : (u_lay RX7 TX7 1 : Cond) ∈ zT := zT_mem (List.mem_of_getElem? (i := 161) (by decide +kernel)) (by decide +kernel)
theorem q_ly_X7_2 : (u_lay RX7 TX7 2 : Cond) ∈ zT := zT_mem (List.mem_of_getElem? (i := 163) (by decide +kernel)) (by decide +kernel)
theorem q_ly_X7_3 : (u_lay RX7 TX7 3 : Cond) ∈ zT := zT_mem (List.mem_of_getElem? (i := 165) (by decide +kernel)) (by decide +kernel)
theorem inX7 : ∀ w ∈ u_ws RX7 TX7 4, w ∈ zT := by
  intro w h
  obtain ⟨k, hk, rfl⟩ := List.mem_map.mp h
  have hk := List.mem_range.mp hk
  rcases (show k = 0 ∨ k = 1 ∨ k = 2 ∨ k = 3 by omega) with rfl | rfl | rfl | rfl
  · exact q_ly_X7_0
  · exact q_ly_X7_1
  · exact q_ly_X7_2
  · exact q_ly_X7_3
theorem q_ly_X8_0 : (u_lay RX8 TX8 0 : Cond) ∈ zT := zT_mem (List.mem_of_getElem? (i := 188) (by decide +kernel)) (by decide +kernel)
theorem q_ly_X8_1 : (u_lay RX8 TX8 1 : Cond) ∈ zT := zT_mem (List.mem_of_getElem? (i := 190) (by decide +kernel)) (by decide +kernel)
theorem q_ly_X8_2 : (u_lay RX8 TX8 2 : Cond) ∈ zT := zT_mem (List.mem_of_getElem? (i := 192) (by decide +kernel)) (by decide +kernel)
theorem q_ly_X8_3 : (u_lay RX8 TX8 3 : Cond) ∈ zT := zT_mem (List.mem_of_getElem? (i := 194) (by decide +kernel)) (by decide +kernel)
theorem q_ly_X8_4 : (u_lay RX8 TX8 4 : Cond) ∈ zT := zT_mem (List.mem_of_getElem? (i := 196) (by decide +kernel)) (by decide +kernel)
theorem inX8 : ∀ w ∈ u_ws RX8 TX8 5, w ∈ zT := by
  intro w h
  obtain ⟨k, hk, rfl⟩ := List.mem_map.mp h
  have hk := List.mem_range.mp hk
  rcases (show k = 0 ∨ k = 1 ∨ k = 2 ∨ k = 3 ∨ k = 4 by omega) with rfl | rfl | rfl | rfl | rfl
  · exact q_ly_X8_0
  · exact q_ly_X8_1
  · exact q_ly_X8_2
  · exact q_ly_X8_3
  · exact q_ly_X8_4
theorem q_ly_X9_0 : (u_lay RX9 TX9 0 : Cond) ∈ zT := zT_mem (List.mem_of_getElem? (i := 236) (by decide +kernel)) (by decide +kernel)
theorem q_ly_X9_1 : (u_lay RX9 TX9 1 : Cond) ∈ zT := zT_mem (List.mem_of_getElem? (i := 238) (by decide +kernel)) (by decide +kernel)
theorem q_ly_X9_2 : (u_lay RX9 TX9 2 : Cond) ∈ zT := zT_mem (List.mem_of_getElem? (i := 240) (by decide +kernel)) (by decide +kernel)
theorem inX9 : ∀ w ∈ u_ws RX9 TX9 3, w ∈ zT := by
  intro w h
  obtain ⟨k, hk, rfl⟩ := List.mem_map.mp h
  have hk := List.mem_range.mp hk
  rcases (show k = 0 ∨ k = 1 ∨ k = 2 by omega) with rfl | rfl | rfl
  · exact q_ly_X9_0
  · exact q_ly_X9_1
  · exact q_ly_X9_2
theorem q_ly_X10_0 : (u_lay RX10 TX10 0 : Cond) ∈ zT := zT_mem (List.mem_of_getElem? (i := 418) (by decide +kernel)) (by decide +kernel)
theorem q_ly_X10_1 : (u_lay RX10 TX10 1 : Cond) ∈ zT := zT_mem (List.mem_of_getElem? (i := 420) (by decide +kernel)) (by decide +kernel)
theorem q_ly_X10_2 : (u_lay RX10 TX10 2 : Cond) ∈ zT := zT_mem (List.mem_of_getElem? (i := 422) (by decide +kernel)) (by decide +kernel)
theorem q_ly_X10_3 : (u_lay RX10 TX10 3 : Cond) ∈ zT := zT_mem (List.mem_of_getElem? (i := 424) (by decide +kernel)) (by decide +kernel)
theorem q_ly_X10_4 : (u_lay RX10 TX10 4 : Cond) ∈ zT := zT_mem (List.mem_of_getElem? (i := 426) (by decide +kernel)) (by decide +kernel)
theorem q_ly_X10_5 : (u_lay RX10 TX10 5 : Cond) ∈ zT := zT_mem (List.mem_of_getElem? (i := 428) (by decide +kernel)) (by decide +kernel)
theorem q_ly_X10_6 : (u_lay RX10 TX10 6 : Cond) ∈ zT := zT_mem (List.mem_of_getElem? (i := 430) (by decide +kernel)) (by decide +kernel)
theorem q_ly_X10_7 : (u_lay RX10 TX10 7 : Cond) ∈ zT := zT_mem (List.mem_of_getElem? (i := 432) (by decide +kernel)) (by decide +kernel)
theorem q_ly_X10_8 : (u_lay RX10 TX10 8 : Cond) ∈ zT := zT_mem (List.mem_of_getElem? (i := 434) (by decide +kernel)) (by decide +kernel)
theorem inX10 : ∀ w ∈ u_ws RX10 TX10 9, w ∈ zT := by
  intro w h
  obtain ⟨k, hk, rfl⟩ := List.mem_map.mp h
  have hk := List.mem_range.mp hk
  rcases (show k = 0 ∨ k = 1 ∨ k = 2 ∨ k = 3 ∨ k = 4 ∨ k = 5 ∨ k = 6 ∨ k = 7 ∨ k = 8 by omega) with rfl | rfl | rfl | rfl | rfl | rfl | rfl | rfl | rfl
  · exact q_ly_X10_0
  · exact q_ly_X10_1
  · exact q_ly_X10_2
  · exact q_ly_X10_3
  · exact q_ly_X10_4
  · exact q_ly_X10_5
  · exact q_ly_X10_6
  · exact q_ly_X10_7
  · exact q_ly_X10_8
theorem q_ly_X11_0 : (u_lay RX11 TX11 0 : Cond) ∈ zT := zT_mem (List.mem_of_getElem? (i := 1378) (by decide +kernel)) (by decide +kernel)
theorem q_ly_X11_1 : (u_lay RX11 TX11 1 : Cond) ∈ zT := zT_mem (List.mem_of_getElem? (i := 1380) (by decide +kernel)) (by decide +kernel)
theorem q_ly_X11_2 : (u_lay RX11 TX11 2 : Cond) ∈ zT := zT_mem (List.mem_of_getElem? (i := 1382) (by decide +kernel)) (by decide +kernel)
theorem q_ly_X11_3 : (u_lay RX11 TX11 3 : Cond) ∈ zT := zT_mem (List.mem_of_getElem? (i := 1384) (by decide +kernel)) (by decide +kernel)
theorem q_ly_X11_4 : (u_lay RX11 TX11 4 : Cond) ∈ zT := zT_mem (List.mem_of_getElem? (i := 1386) (by decide +kernel)) (by decide +kernel)
theorem q_ly_X11_5 : (u_lay RX11 TX11 5 : Cond) ∈ zT := zT_mem (List.mem_of_getElem? (i := 1388) (by decide +kernel)) (by decide +kernel)
theorem q_ly_X11_6 : (u_lay RX11 TX11 6 : Cond) ∈ zT := zT_mem (List.mem_of_getElem? (i := 1390) (by decide +kernel)) (by decide +kernel)
theorem q_ly_X11_7 : (u_lay RX11 TX11 7 : Cond) ∈ zT := zT_mem (List.mem_of_getElem? (i := 1392) (by decide +kernel)) (by decide +kernel)
theorem q_ly_X11_8 : (u_lay RX11 TX11 8 : Cond) ∈ zT := zT_mem (List.mem_of_getElem? (i := 1394) (by decide +kernel)) (by decide +kernel)
theorem q_ly_X11_9 : (u_lay RX11 TX11 9 : Cond) ∈ zT := zT_mem (List.mem_of_getElem? (i := 1396) (by decide +kernel)) (by decide +kernel)
theorem q_ly_X11_10 : (u_lay RX11 TX11 10 : Cond) ∈ zT := zT_mem (List.mem_of_getElem? (i := 1398) (by decide +kernel)) (by decide +kernel)
theorem q_ly_X11_11 : (u_lay RX11 TX11 11 : Cond) ∈ zT := zT_mem (List.mem_of_getElem? (i := 1400) (by decide +kernel)) (by decide +kernel)
theorem q_ly_X11_12 : (u_lay RX11 TX11 12 : Cond) ∈ zT := zT_mem (List.mem_of_getElem? (i := 1402) (by decide +kernel)) (by decide +kernel)
theorem q_ly_X11_13 : (u_lay RX11 TX11 13 : Cond) ∈ zT := zT_mem (List.mem_of_getElem? (i := 1404) (by decide +kernel)) (by decide +kernel)
theorem q_ly_X11_14 : (u_lay RX11 TX11 14 : Cond) ∈ zT := zT_mem (List.mem_of_getElem? (i := 1406) (by decide +kernel)) (by decide +kernel)
theorem q_ly_X11_15 : (u_lay RX11 TX11 15 : Cond) ∈ zT := zT_mem (List.mem_of_getElem? (i := 1408) (by decide +kernel)) (by decide +kernel)
theorem q_ly_X11_16 : (u_lay RX11 TX11 16 : Cond) ∈ zT := zT_mem (List.mem_of_getElem? (i := 1410) (by decide +kernel)) (by decide +kernel)
theorem inX11 : ∀ w ∈ u_ws RX11 TX11 17, w ∈ zT := by
  intro w h
  obtain ⟨k, hk, rfl⟩ := List.mem_map.mp h
  have hk := List.mem_range.mp hk
  rcases (show k = 0 ∨ k = 1 ∨ k = 2 ∨ k = 3 ∨ k = 4 ∨ k = 5 ∨ k = 6 ∨ k = 7 ∨ k = 8 ∨ k = 9 ∨ k = 10 ∨ k = 11 ∨ k = 12 ∨ k = 13 ∨ k = 14 ∨ k = 15 ∨ k = 16 by omega) with rfl | rfl | rfl | rfl | rfl | rfl | rfl | rfl | rfl | rfl | rfl | rfl | rfl | rfl | rfl | rfl | rfl
  · exact q_ly_X11_0
  · exact q_ly_X11_1
  · exact q_ly_X11_2
  · exact q_ly_X11_3
  · exact q_ly_X11_4
  · exact q_ly_X11_5
  · exact q_ly_X11_6
  · exact q_ly_X11_7
  · exact q_ly_X11_8
  · exact q_ly_X11_9
  · exact q_ly_X11_10
  · exact q_ly_X11_11
  · exact q_ly_X11_12
  · exact q_ly_X11_13
  · exact q_ly_X11_14
  · exact q_ly_X11_15
  · exact q_ly_X11_16
