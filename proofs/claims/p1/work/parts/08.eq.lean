theorem eq_stairs (p_0 : Int32) : f_WM_stairs p_0 = f_Md_stairs p_0 := by
  unfold f_WM_stairs f_Md_stairs
  have z0 : (0 : Int32).toInt = 0 := by decide +kernel
  have z1 : (1 : Int32).toInt = 1 := by decide +kernel
  have z2 : (60 : Int32).toInt = 60 := by decide +kernel
  have y0 : (-1 : Int32).toInt = -1 := by decide +kernel
  simp only [Int32.zero_add, Int32.lt_iff_toInt_lt, Int32.le_iff_toInt_le, ← Int32.toInt_inj]
  all_goals ((repeat' split) <;> first | rfl | omega)
theorem eq_bridge (p_0 : Int32) : f_WM_bridge p_0 = f_Md_bridge p_0 := by
  unfold f_WM_bridge f_Md_bridge
  have z0 : (0 : Int32).toInt = 0 := by decide +kernel
  have z1 : (1 : Int32).toInt = 1 := by decide +kernel
  have y0 : (-1 : Int32).toInt = -1 := by decide +kernel
  simp only [Int32.zero_add, Int32.lt_iff_toInt_lt, Int32.le_iff_toInt_le, ← Int32.toInt_inj]
  all_goals ((repeat' split) <;> first | rfl | omega)
theorem eq_level (p_0 : Int32) (p_1 : Int32) (p_2 : Int32) : f_WM_level p_0 p_1 p_2 = f_Md_level p_0 p_1 p_2 := by
  unfold f_WM_level f_Md_level
  have z0 : (0 : Int32).toInt = 0 := by decide +kernel
  have z1 : (1 : Int32).toInt = 1 := by decide +kernel
  have z2 : (11 : Int32).toInt = 11 := by decide +kernel
  have z3 : (12 : Int32).toInt = 12 := by decide +kernel
  have z4 : (90 : Int32).toInt = 90 := by decide +kernel
  have z5 : (499 : Int32).toInt = 499 := by decide +kernel
  have z6 : (500 : Int32).toInt = 500 := by decide +kernel
  have y0 : (-90 : Int32).toInt = -90 := by decide +kernel
  have y1 : (-1 : Int32).toInt = -1 := by decide +kernel
  simp only [Int32.zero_add, Int32.lt_iff_toInt_lt, Int32.le_iff_toInt_le, ← Int32.toInt_inj]
  all_goals ((repeat' split) <;> first | rfl | omega)
theorem eq_table (p_0 : Int32) (p_1 : Int32) : f_WM_table p_0 p_1 = f_Md_table p_0 p_1 := by
  unfold f_WM_table f_Md_table
  have z0 : (0 : Int32).toInt = 0 := by decide +kernel
  have z1 : (11 : Int32).toInt = 11 := by decide +kernel
  have z2 : (12 : Int32).toInt = 12 := by decide +kernel
  have z3 : (90 : Int32).toInt = 90 := by decide +kernel
  have z4 : (1000 : Int32).toInt = 1000 := by decide +kernel
  have y0 : (-1000 : Int32).toInt = -1000 := by decide +kernel
  have y1 : (-90 : Int32).toInt = -90 := by decide +kernel
  simp only [Int32.zero_add, Int32.lt_iff_toInt_lt, Int32.le_iff_toInt_le, ← Int32.toInt_inj]
  all_goals ((repeat' split) <;> first | rfl | omega)
theorem eq_flow (p_0 : Int32) (p_1 : Int32) : f_WM_flow p_0 p_1 = f_Md_flow p_0 p_1 := by
  unfold f_WM_flow f_Md_flow
  have z0 : (0 : Int32).toInt = 0 := by decide +kernel
  have z1 : (1 : Int32).toInt = 1 := by decide +kernel
  have z2 : (11 : Int32).toInt = 11 := by decide +kernel
  have z3 : (12 : Int32).toInt = 12 := by decide +kernel
  have z4 : (499 : Int32).toInt = 499 := by decide +kernel
  have z5 : (500 : Int32).toInt = 500 := by decide +kernel
  have z6 : (1000 : Int32).toInt = 1000 := by decide +kernel
  have y0 : (-1000 : Int32).toInt = -1000 := by decide +kernel
  simp only [Int32.zero_add, Int32.lt_iff_toInt_lt, Int32.le_iff_toInt_le, ← Int32.toInt_inj]
  all_goals ((repeat' split) <;> first | rfl | omega)
theorem eq_frost (p_0 : Int32) (p_1 : Int32) : f_WM_frost p_0 p_1 = f_Md_frost p_0 p_1 := by
  unfold f_WM_frost f_Md_frost
  have z0 : (0 : Int32).toInt = 0 := by decide +kernel
  have z1 : (1 : Int32).toInt = 1 := by decide +kernel
  have z2 : (499 : Int32).toInt = 499 := by decide +kernel
  have z3 : (500 : Int32).toInt = 500 := by decide +kernel
  have y0 : (-1 : Int32).toInt = -1 := by decide +kernel
  simp only [Int32.zero_add, Int32.lt_iff_toInt_lt, Int32.le_iff_toInt_le, ← Int32.toInt_inj]
  all_goals ((repeat' split) <;> first | rfl | omega)
theorem eq_free (p_0 : Int32) : f_WM_free p_0 = f_Md_free p_0 := by
  unfold f_WM_free f_Md_free
  have z0 : (0 : Int32).toInt = 0 := by decide +kernel
  have z1 : (1 : Int32).toInt = 1 := by decide +kernel
  have z2 : (39 : Int32).toInt = 39 := by decide +kernel
  have z3 : (40 : Int32).toInt = 40 := by decide +kernel
  have y0 : (-1 : Int32).toInt = -1 := by decide +kernel
  simp only [Int32.zero_add, Int32.lt_iff_toInt_lt, Int32.le_iff_toInt_le, ← Int32.toInt_inj]
  all_goals ((repeat' split) <;> first | rfl | omega)
theorem eq_bind (p_0 : Int32) (p_1 : Int32) : f_WM_bind p_0 p_1 = f_Md_bind p_0 p_1 := by
  unfold f_WM_bind f_Md_bind
  have z0 : (0 : Int32).toInt = 0 := by decide +kernel
  have z1 : (1 : Int32).toInt = 1 := by decide +kernel
  have z2 : (2 : Int32).toInt = 2 := by decide +kernel
  have z3 : (39 : Int32).toInt = 39 := by decide +kernel
  have z4 : (40 : Int32).toInt = 40 := by decide +kernel
  have y0 : (-2 : Int32).toInt = -2 := by decide +kernel
  have y1 : (-1 : Int32).toInt = -1 := by decide +kernel
  simp only [Int32.zero_add, Int32.lt_iff_toInt_lt, Int32.le_iff_toInt_le, ← Int32.toInt_inj]
  all_goals ((repeat' split) <;> first | rfl | omega)
theorem eq_absent (p_0 : Int32) (p_1 : Int32) (p_2 : Int32) : f_WM_absent p_0 p_1 p_2 = f_Md_absent p_0 p_1 p_2 := by
  unfold f_WM_absent f_Md_absent
  have z0 : (0 : Int32).toInt = 0 := by decide +kernel
  have z1 : (1 : Int32).toInt = 1 := by decide +kernel
  have z2 : (2 : Int32).toInt = 2 := by decide +kernel
  have z3 : (39 : Int32).toInt = 39 := by decide +kernel
  have z4 : (40 : Int32).toInt = 40 := by decide +kernel
  have y0 : (-2 : Int32).toInt = -2 := by decide +kernel
  have y1 : (-1 : Int32).toInt = -1 := by decide +kernel
  simp only [Int32.zero_add, Int32.lt_iff_toInt_lt, Int32.le_iff_toInt_le, ← Int32.toInt_inj]
  all_goals ((repeat' split) <;> first | rfl | omega)
theorem eq_served (p_0 : Int32) : f_WM_served p_0 = f_Md_served p_0 := by
  unfold f_WM_served f_Md_served
  have z0 : (0 : Int32).toInt = 0 := by decide +kernel
  have z1 : (1 : Int32).toInt = 1 := by decide +kernel
  have z2 : (2 : Int32).toInt = 2 := by decide +kernel
  have z3 : (39 : Int32).toInt = 39 := by decide +kernel
  have z4 : (40 : Int32).toInt = 40 := by decide +kernel
  have y0 : (-2 : Int32).toInt = -2 := by decide +kernel
  have y1 : (-1 : Int32).toInt = -1 := by decide +kernel
  simp only [Int32.zero_add, Int32.lt_iff_toInt_lt, Int32.le_iff_toInt_le, ← Int32.toInt_inj]
  all_goals ((repeat' split) <;> first | rfl | omega)
theorem eq_pass (p_0 : Int32) : f_WM_pass p_0 = f_Md_pass p_0 := by
  unfold f_WM_pass f_Md_pass
  have z0 : (0 : Int32).toInt = 0 := by decide +kernel
  have z1 : (1 : Int32).toInt = 1 := by decide +kernel
  have z2 : (2 : Int32).toInt = 2 := by decide +kernel
  have z3 : (39 : Int32).toInt = 39 := by decide +kernel
  have z4 : (40 : Int32).toInt = 40 := by decide +kernel
  have y0 : (-2 : Int32).toInt = -2 := by decide +kernel
  have y1 : (-1 : Int32).toInt = -1 := by decide +kernel
  simp only [Int32.zero_add, Int32.lt_iff_toInt_lt, Int32.le_iff_toInt_le, ← Int32.toInt_inj]
  all_goals ((repeat' split) <;> first | rfl | omega)
theorem eq_man (p_0 : Int32) (p_1 : Int32) : f_WM_man p_0 p_1 = f_Md_man p_0 p_1 := by
  unfold f_WM_man f_Md_man
  have z0 : (0 : Int32).toInt = 0 := by decide +kernel
  have z1 : (1 : Int32).toInt = 1 := by decide +kernel
  have z2 : (2 : Int32).toInt = 2 := by decide +kernel
  have z3 : (3 : Int32).toInt = 3 := by decide +kernel
  have z4 : (4 : Int32).toInt = 4 := by decide +kernel
  have z5 : (5 : Int32).toInt = 5 := by decide +kernel
  have z6 : (6 : Int32).toInt = 6 := by decide +kernel
  have z7 : (39 : Int32).toInt = 39 := by decide +kernel
  have z8 : (40 : Int32).toInt = 40 := by decide +kernel
  have y0 : (-2 : Int32).toInt = -2 := by decide +kernel
  have y1 : (-1 : Int32).toInt = -1 := by decide +kernel
  simp only [Int32.zero_add, Int32.lt_iff_toInt_lt, Int32.le_iff_toInt_le, ← Int32.toInt_inj]
  all_goals ((repeat' split) <;> first | rfl | omega)
theorem eq_boat (p_0 : Int32) (p_1 : Int32) : f_WM_boat p_0 p_1 = f_Md_boat p_0 p_1 := by
  unfold f_WM_boat f_Md_boat
  have z0 : (0 : Int32).toInt = 0 := by decide +kernel
  have z1 : (1 : Int32).toInt = 1 := by decide +kernel
  have z2 : (2 : Int32).toInt = 2 := by decide +kernel
  have y0 : (-1 : Int32).toInt = -1 := by decide +kernel
  simp only [Int32.zero_add, Int32.lt_iff_toInt_lt, Int32.le_iff_toInt_le, ← Int32.toInt_inj]
  all_goals ((repeat' split) <;> first | rfl | omega)
theorem eq_craft (p_0 : Int32) (p_1 : Int32) : f_WM_craft p_0 p_1 = f_Md_craft p_0 p_1 := by
  unfold f_WM_craft f_Md_craft
  have z0 : (0 : Int32).toInt = 0 := by decide +kernel
  have z1 : (1 : Int32).toInt = 1 := by decide +kernel
  have y0 : (-1 : Int32).toInt = -1 := by decide +kernel
  simp only [Int32.zero_add, Int32.lt_iff_toInt_lt, Int32.le_iff_toInt_le, ← Int32.toInt_inj]
  all_goals ((repeat' split) <;> first | rfl | omega)
theorem eq_join (p_0 : Int32) (p_1 : Int32) : f_WM_join p_0 p_1 = f_Md_join p_0 p_1 := by
  unfold f_WM_join f_Md_join
  have z0 : (0 : Int32).toInt = 0 := by decide +kernel
  have z1 : (1 : Int32).toInt = 1 := by decide +kernel
  have z2 : (40 : Int32).toInt = 40 := by decide +kernel
  have y0 : (-1 : Int32).toInt = -1 := by decide +kernel
  simp only [Int32.zero_add, Int32.lt_iff_toInt_lt, Int32.le_iff_toInt_le, ← Int32.toInt_inj]
  all_goals ((repeat' split) <;> first | rfl | omega)
theorem eq_leave (p_0 : Int32) : f_WM_leave p_0 = f_Md_leave p_0 := by
  unfold f_WM_leave f_Md_leave
  have z0 : (0 : Int32).toInt = 0 := by decide +kernel
  have z1 : (1 : Int32).toInt = 1 := by decide +kernel
  have z2 : (2 : Int32).toInt = 2 := by decide +kernel
  have z3 : (39 : Int32).toInt = 39 := by decide +kernel
  have z4 : (40 : Int32).toInt = 40 := by decide +kernel
  have y0 : (-2 : Int32).toInt = -2 := by decide +kernel
  have y1 : (-1 : Int32).toInt = -1 := by decide +kernel
  simp only [Int32.zero_add, Int32.lt_iff_toInt_lt, Int32.le_iff_toInt_le, ← Int32.toInt_inj]
  all_goals ((repeat' split) <;> first | rfl | omega)
theorem eq_feed (p_0 : Int32) (p_1 : Int32) (p_2 : Int32) (p_3 : Int32) (p_4 : Int32) : f_WM_feed p_0 p_1 p_2 p_3 p_4 = f_Md_feed p_0 p_1 p_2 p_3 p_4 := by
  unfold f_WM_feed f_Md_feed
  have z0 : (20 : Int32).toInt = 20 := by decide +kernel
  simp only [Int32.zero_add, Int32.lt_iff_toInt_lt, Int32.le_iff_toInt_le, ← Int32.toInt_inj]
  all_goals ((repeat' split) <;> first | rfl | omega)
theorem eq_end (p_0 : Int32) : f_WM_end p_0 = f_Md_end p_0 := by
  unfold f_WM_end f_Md_end
  have z0 : (0 : Int32).toInt = 0 := by decide +kernel
  have z1 : (1 : Int32).toInt = 1 := by decide +kernel
  have y0 : (-1 : Int32).toInt = -1 := by decide +kernel
  simp only [Int32.zero_add, Int32.lt_iff_toInt_lt, Int32.le_iff_toInt_le, ← Int32.toInt_inj]
  all_goals ((repeat' split) <;> first | rfl | omega)
theorem eq_order (p_0 : Int32) : f_WM_order p_0 = f_Md_order p_0 := by
  unfold f_WM_order f_Md_order
  have z0 : (0 : Int32).toInt = 0 := by decide +kernel
  have z1 : (1 : Int32).toInt = 1 := by decide +kernel
  have z2 : (100 : Int32).toInt = 100 := by decide +kernel
  have z3 : (499 : Int32).toInt = 499 := by decide +kernel
  have z4 : (500 : Int32).toInt = 500 := by decide +kernel
  have y0 : (-100 : Int32).toInt = -100 := by decide +kernel
  have y1 : (-1 : Int32).toInt = -1 := by decide +kernel
  simp only [Int32.zero_add, Int32.lt_iff_toInt_lt, Int32.le_iff_toInt_le, ← Int32.toInt_inj]
  all_goals ((repeat' split) <;> first | rfl | omega)
theorem eq_inForce (p_0 : Int32) (p_1 : Int32) : f_WM_inForce p_0 p_1 = f_Md_inForce p_0 p_1 := by
  unfold f_WM_inForce f_Md_inForce
  have z0 : (0 : Int32).toInt = 0 := by decide +kernel
  have z1 : (1 : Int32).toInt = 1 := by decide +kernel
  have z2 : (2 : Int32).toInt = 2 := by decide +kernel
  have z3 : (499 : Int32).toInt = 499 := by decide +kernel
  have z4 : (500 : Int32).toInt = 500 := by decide +kernel
  have y0 : (-2 : Int32).toInt = -2 := by decide +kernel
  have y1 : (-1 : Int32).toInt = -1 := by decide +kernel
  simp only [Int32.zero_add, Int32.lt_iff_toInt_lt, Int32.le_iff_toInt_le, ← Int32.toInt_inj]
  all_goals ((repeat' split) <;> first | rfl | omega)
theorem eq_fare (p_0 : Int32) (p_1 : Int32) (p_2 : Int32) (p_3 : Int32) (p_4 : Int32) : f_WM_fare p_0 p_1 p_2 p_3 p_4 = f_Md_fare p_0 p_1 p_2 p_3 p_4 := by
  unfold f_WM_fare f_Md_fare
  have z0 : (0 : Int32).toInt = 0 := by decide +kernel
  have z1 : (1 : Int32).toInt = 1 := by decide +kernel
  have y0 : (-1 : Int32).toInt = -1 := by decide +kernel
  simp only [Int32.zero_add, Int32.lt_iff_toInt_lt, Int32.le_iff_toInt_le, ← Int32.toInt_inj]
  all_goals ((repeat' split) <;> first | rfl | omega)
theorem eq_why (p_0 : Int32) (p_1 : Int32) (p_2 : Int32) : f_WM_why p_0 p_1 p_2 = f_Md_why p_0 p_1 p_2 := by
  unfold f_WM_why f_Md_why
  have z0 : (0 : Int32).toInt = 0 := by decide +kernel
  have z1 : (1 : Int32).toInt = 1 := by decide +kernel
  have z2 : (40 : Int32).toInt = 40 := by decide +kernel
  have y0 : (-1 : Int32).toInt = -1 := by decide +kernel
  simp only [Int32.zero_add, Int32.lt_iff_toInt_lt, Int32.le_iff_toInt_le, ← Int32.toInt_inj]
  all_goals ((repeat' split) <;> first | rfl | omega)
theorem eq_row (p_0 : Int32) (p_1 : Int32) (p_2 : Int32) (p_3 : Int32) : f_WM_row p_0 p_1 p_2 p_3 = f_Md_row p_0 p_1 p_2 p_3 := by
  unfold f_WM_row f_Md_row
  have z0 : (0 : Int32).toInt = 0 := by decide +kernel
  have z1 : (1 : Int32).toInt = 1 := by decide +kernel
  have z2 : (40 : Int32).toInt = 40 := by decide +kernel
  have y0 : (-1 : Int32).toInt = -1 := by decide +kernel
  simp only [Int32.zero_add, Int32.lt_iff_toInt_lt, Int32.le_iff_toInt_le, ← Int32.toInt_inj]
  all_goals ((repeat' split) <;> first | rfl | omega)
theorem eq_minutes (p_0 : Int32) : f_WM_minutes p_0 = f_Md_minutes p_0 := by
  unfold f_WM_minutes f_Md_minutes
  have z0 : (0 : Int32).toInt = 0 := by decide +kernel
  have z1 : (1 : Int32).toInt = 1 := by decide +kernel
  have z2 : (2 : Int32).toInt = 2 := by decide +kernel
  have z3 : (720 : Int32).toInt = 720 := by decide +kernel
  have z4 : (1440 : Int32).toInt = 1440 := by decide +kernel
  have y0 : (-1 : Int32).toInt = -1 := by decide +kernel
  simp only [Int32.zero_add, Int32.lt_iff_toInt_lt, Int32.le_iff_toInt_le, ← Int32.toInt_inj]
  all_goals ((repeat' split) <;> first | rfl | omega)
theorem eq_sink (p_0 : Int32) (p_1 : Int32) (p_2 : Int32) : f_WM_sink p_0 p_1 p_2 = f_Md_sink p_0 p_1 p_2 := by
  unfold f_WM_sink f_Md_sink
  have z0 : (0 : Int32).toInt = 0 := by decide +kernel
  have z1 : (1 : Int32).toInt = 1 := by decide +kernel
  have y0 : (-1 : Int32).toInt = -1 := by decide +kernel
  simp only [Int32.zero_add, Int32.lt_iff_toInt_lt, Int32.le_iff_toInt_le, ← Int32.toInt_inj]
  all_goals ((repeat' split) <;> first | rfl | omega)
theorem eq_trip (p_0 : Int32) (p_1 : Int32) : f_WM_trip p_0 p_1 = f_Md_trip p_0 p_1 := by
  unfold f_WM_trip f_Md_trip
  have z0 : (0 : Int32).toInt = 0 := by decide +kernel
  have z1 : (2 : Int32).toInt = 2 := by decide +kernel
  have y0 : (-2 : Int32).toInt = -2 := by decide +kernel
  simp only [Int32.zero_add, Int32.lt_iff_toInt_lt, Int32.le_iff_toInt_le, ← Int32.toInt_inj]
  all_goals ((repeat' split) <;> first | rfl | omega)
theorem eq_due (p_0 : Int32) (p_1 : Int32) : f_WM_due p_0 p_1 = f_Md_due p_0 p_1 := by
  unfold f_WM_due f_Md_due
  have z0 : (0 : Int32).toInt = 0 := by decide +kernel
  have z1 : (2 : Int32).toInt = 2 := by decide +kernel
  have y0 : (-2 : Int32).toInt = -2 := by decide +kernel
  simp only [Int32.zero_add, Int32.lt_iff_toInt_lt, Int32.le_iff_toInt_le, ← Int32.toInt_inj]
  all_goals ((repeat' split) <;> first | rfl | omega)
theorem eq_over (p_0 : Int32) (p_1 : Int32) : f_WM_over p_0 p_1 = f_Md_over p_0 p_1 := by
  unfold f_WM_over f_Md_over
  have z0 : (0 : Int32).toInt = 0 := by decide +kernel
  have z1 : (1 : Int32).toInt = 1 := by decide +kernel
  have z2 : (39 : Int32).toInt = 39 := by decide +kernel
  have z3 : (40 : Int32).toInt = 40 := by decide +kernel
  have z4 : (499 : Int32).toInt = 499 := by decide +kernel
  have z5 : (500 : Int32).toInt = 500 := by decide +kernel
  have y0 : (-1 : Int32).toInt = -1 := by decide +kernel
  simp only [Int32.zero_add, Int32.lt_iff_toInt_lt, Int32.le_iff_toInt_le, ← Int32.toInt_inj]
  all_goals ((repeat' split) <;> first | rfl | omega)
theorem eq_pension (p_0 : Int32) (p_1 : Int32) : f_WM_pension p_0 p_1 = f_Md_pension p_0 p_1 := by
  unfold f_WM_pension f_Md_pension
  have z0 : (0 : Int32).toInt = 0 := by decide +kernel
  have z1 : (1 : Int32).toInt = 1 := by decide +kernel
  have z2 : (9999 : Int32).toInt = 9999 := by decide +kernel
  have z3 : (10000 : Int32).toInt = 10000 := by decide +kernel
  have y0 : (-1 : Int32).toInt = -1 := by decide +kernel
  simp only [Int32.zero_add, Int32.lt_iff_toInt_lt, Int32.le_iff_toInt_le, ← Int32.toInt_inj]
  all_goals ((repeat' split) <;> first | rfl | omega)
theorem eq_foretold  : f_WM_foretold  = f_Md_foretold  := by
  unfold f_WM_foretold f_Md_foretold
  have z0 : (2 : Int32).toInt = 2 := by decide +kernel
  have y0 : (-2 : Int32).toInt = -2 := by decide +kernel
  simp only [Int32.zero_add, Int32.lt_iff_toInt_lt, Int32.le_iff_toInt_le, ← Int32.toInt_inj]
  all_goals ((repeat' split) <;> first | rfl | omega)
theorem eq_pensioner (p_0 : Int32) (p_1 : Int32) : f_WM_pensioner p_0 p_1 = f_Md_pensioner p_0 p_1 := by
  unfold f_WM_pensioner f_Md_pensioner
  have z0 : (0 : Int32).toInt = 0 := by decide +kernel
  have z1 : (1 : Int32).toInt = 1 := by decide +kernel
  have y0 : (-1 : Int32).toInt = -1 := by decide +kernel
  simp only [Int32.zero_add, Int32.lt_iff_toInt_lt, Int32.le_iff_toInt_le, ← Int32.toInt_inj]
  all_goals ((repeat' split) <;> first | rfl | omega)
theorem eq_count (p_0 : Int32) : f_WM_count p_0 = f_Md_count p_0 := by
  unfold f_WM_count f_Md_count
  have z0 : (0 : Int32).toInt = 0 := by decide +kernel
  have z1 : (1 : Int32).toInt = 1 := by decide +kernel
  have z2 : (2 : Int32).toInt = 2 := by decide +kernel
  have z3 : (3 : Int32).toInt = 3 := by decide +kernel
  have z4 : (4 : Int32).toInt = 4 := by decide +kernel
  have z5 : (5 : Int32).toInt = 5 := by decide +kernel
  have z6 : (6 : Int32).toInt = 6 := by decide +kernel
  have z7 : (7 : Int32).toInt = 7 := by decide +kernel
  have z8 : (8 : Int32).toInt = 8 := by decide +kernel
  have z9 : (9 : Int32).toInt = 9 := by decide +kernel
  have y0 : (-1 : Int32).toInt = -1 := by decide +kernel
  simp only [Int32.zero_add, Int32.lt_iff_toInt_lt, Int32.le_iff_toInt_le, ← Int32.toInt_inj]
  all_goals ((repeat' split) <;> first | rfl | omega)
theorem eq_coins (p_0 : Int32) : f_WM_coins p_0 = f_Md_coins p_0 := by
  unfold f_WM_coins f_Md_coins
  have z0 : (0 : Int32).toInt = 0 := by decide +kernel
  have z1 : (1 : Int32).toInt = 1 := by decide +kernel
  have z2 : (2 : Int32).toInt = 2 := by decide +kernel
  have z3 : (3 : Int32).toInt = 3 := by decide +kernel
  have z4 : (4 : Int32).toInt = 4 := by decide +kernel
  have y0 : (-1 : Int32).toInt = -1 := by decide +kernel
  simp only [Int32.zero_add, Int32.lt_iff_toInt_lt, Int32.le_iff_toInt_le, ← Int32.toInt_inj]
  all_goals ((repeat' split) <;> first | rfl | omega)
