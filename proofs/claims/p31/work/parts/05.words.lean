theorem z_mem (k : Nat) (w : Cond) (h : (match lw_tbl[k]? with | some v => decide (v = w) && goodWord w | none => false) = true) : w ∈ z_tbl := by
  cases e : lw_tbl[k]? with
  | none => rw [e] at h; cases h
  | some v =>
    rw [e] at h
    simp only [Bool.and_eq_true, decide_eq_true_eq] at h
    exact List.mem_filter.mpr ⟨h.1 ▸ List.mem_of_getElem? e, h.2⟩
theorem clw_X0 : ∀ w ∈ u_ws RX0 TX0 6, w ∈ z_tbl := by
  have h : (u_ws RX0 TX0 6).all (fun w => decide (w ∈ lw_tbl) && goodWord w) = true := by decide +kernel
  intro w hw
  have h1 := List.all_eq_true.mp h w hw
  simp only [Bool.and_eq_true, decide_eq_true_eq] at h1
  exact List.mem_filter.mpr h1
theorem cls_X0 : z_Cls 0 RX0 TX0 6 := ⟨by decide, rfl, clw_X0, ⟨tyX0, tyX0_ok⟩, nmX0, rfl⟩
theorem clw_X1 : ∀ w ∈ u_ws RX1 TX1 2, w ∈ z_tbl := by
  have h : (u_ws RX1 TX1 2).all (fun w => decide (w ∈ lw_tbl) && goodWord w) = true := by decide +kernel
  intro w hw
  have h1 := List.all_eq_true.mp h w hw
  simp only [Bool.and_eq_true, decide_eq_true_eq] at h1
  exact List.mem_filter.mpr h1
theorem cls_X1 : z_Cls 1 RX1 TX1 2 := ⟨by decide, rfl, clw_X1, ⟨tyX1, tyX1_ok⟩, nmX1, rfl⟩
theorem clw_X2 : ∀ w ∈ u_ws RX2 TX2 4, w ∈ z_tbl := by
  have h : (u_ws RX2 TX2 4).all (fun w => decide (w ∈ lw_tbl) && goodWord w) = true := by decide +kernel
  intro w hw
  have h1 := List.all_eq_true.mp h w hw
  simp only [Bool.and_eq_true, decide_eq_true_eq] at h1
  exact List.mem_filter.mpr h1
theorem cls_X2 : z_Cls 2 RX2 TX2 4 := ⟨by decide, rfl, clw_X2, ⟨tyX2, tyX2_ok⟩, nmX2, rfl⟩
theorem clw_X3 : ∀ w ∈ u_ws RX3 TX3 4, w ∈ z_tbl := by
  have h : (u_ws RX3 TX3 4).all (fun w => decide (w ∈ lw_tbl) && goodWord w) = true := by decide +kernel
  intro w hw
  have h1 := List.all_eq_true.mp h w hw
  simp only [Bool.and_eq_true, decide_eq_true_eq] at h1
  exact List.mem_filter.mpr h1
theorem cls_X3 : z_Cls 3 RX3 TX3 4 := ⟨by decide, rfl, clw_X3, ⟨tyX3, tyX3_ok⟩, nmX3, rfl⟩
theorem clw_X4 : ∀ w ∈ u_ws RX4 TX4 7, w ∈ z_tbl := by
  have h : (u_ws RX4 TX4 7).all (fun w => decide (w ∈ lw_tbl) && goodWord w) = true := by decide +kernel
  intro w hw
  have h1 := List.all_eq_true.mp h w hw
  simp only [Bool.and_eq_true, decide_eq_true_eq] at h1
  exact List.mem_filter.mpr h1
theorem cls_X4 : z_Cls 4 RX4 TX4 7 := ⟨by decide, rfl, clw_X4, ⟨tyX4, tyX4_ok⟩, nmX4, rfl⟩
theorem clw_X5 : ∀ w ∈ u_ws RX5 TX5 4, w ∈ z_tbl := by
  have h : (u_ws RX5 TX5 4).all (fun w => decide (w ∈ lw_tbl) && goodWord w) = true := by decide +kernel
  intro w hw
  have h1 := List.all_eq_true.mp h w hw
  simp only [Bool.and_eq_true, decide_eq_true_eq] at h1
  exact List.mem_filter.mpr h1
theorem cls_X5 : z_Cls 5 RX5 TX5 4 := ⟨by decide, rfl, clw_X5, ⟨tyX5, tyX5_ok⟩, nmX5, rfl⟩
theorem clw_X6 : ∀ w ∈ u_ws RX6 TX6 7, w ∈ z_tbl := by
  have h : (u_ws RX6 TX6 7).all (fun w => decide (w ∈ lw_tbl) && goodWord w) = true := by decide +kernel
  intro w hw
  have h1 := List.all_eq_true.mp h w hw
  simp only [Bool.and_eq_true, decide_eq_true_eq] at h1
  exact List.mem_filter.mpr h1
theorem cls_X6 : z_Cls 6 RX6 TX6 7 := ⟨by decide, rfl, clw_X6, ⟨tyX6, tyX6_ok⟩, nmX6, rfl⟩
theorem clw_X7 : ∀ w ∈ u_ws RX7 TX7 4, w ∈ z_tbl := by
  have h : (u_ws RX7 TX7 4).all (fun w => decide (w ∈ lw_tbl) && goodWord w) = true := by decide +kernel
  intro w hw
  have h1 := List.all_eq_true.mp h w hw
  simp only [Bool.and_eq_true, decide_eq_true_eq] at h1
  exact List.mem_filter.mpr h1
theorem cls_X7 : z_Cls 7 RX7 TX7 4 := ⟨by decide, rfl, clw_X7, ⟨tyX7, tyX7_ok⟩, nmX7, rfl⟩
theorem clw_X8 : ∀ w ∈ u_ws RX8 TX8 8, w ∈ z_tbl := by
  have h : (u_ws RX8 TX8 8).all (fun w => decide (w ∈ lw_tbl) && goodWord w) = true := by decide +kernel
  intro w hw
  have h1 := List.all_eq_true.mp h w hw
  simp only [Bool.and_eq_true, decide_eq_true_eq] at h1
  exact List.mem_filter.mpr h1
theorem cls_X8 : z_Cls 8 RX8 TX8 8 := ⟨by decide, rfl, clw_X8, ⟨tyX8, tyX8_ok⟩, nmX8, rfl⟩
theorem clw_X9 : ∀ w ∈ u_ws RX9 TX9 13, w ∈ z_tbl := by
  have h : (u_ws RX9 TX9 13).all (fun w => decide (w ∈ lw_tbl) && goodWord w) = true := by decide +kernel
  intro w hw
  have h1 := List.all_eq_true.mp h w hw
  simp only [Bool.and_eq_true, decide_eq_true_eq] at h1
  exact List.mem_filter.mpr h1
theorem cls_X9 : z_Cls 9 RX9 TX9 13 := ⟨by decide, rfl, clw_X9, ⟨tyX9, tyX9_ok⟩, nmX9, rfl⟩
set_option maxRecDepth 100000 in
theorem wd_0 : Cond.selects yX4_begin.cls yX4_begin yX4_begin ∈ z_tbl := z_mem 0 _ (by decide +kernel)
set_option maxRecDepth 100000 in
theorem wd_1 : Cond.selects yX4_next.cls yX4_next yX4_next ∈ z_tbl := z_mem 1 _ (by decide +kernel)
set_option maxRecDepth 100000 in
theorem wd_2 : Cond.selects yX4_byteAt.cls yX4_byteAt yX4_byteAt ∈ z_tbl := z_mem 2 _ (by decide +kernel)
set_option maxRecDepth 100000 in
theorem wd_3 : Cond.selects yX4_isMore.cls yX4_isMore yX4_isMore ∈ z_tbl := z_mem 3 _ (by decide +kernel)
set_option maxRecDepth 100000 in
theorem wd_4 : Cond.selects yX4_readOrder.cls yX4_readOrder yX4_readOrder ∈ z_tbl := z_mem 4 _ (by decide +kernel)
set_option maxRecDepth 100000 in
theorem wd_5 : Cond.selects yX4_orderHere.cls yX4_orderHere yX4_orderHere ∈ z_tbl := z_mem 5 _ (by decide +kernel)
set_option maxRecDepth 100000 in
theorem wd_6 : Cond.selects yX4_isWord.cls yX4_isWord yX4_isWord ∈ z_tbl := z_mem 6 _ (by decide +kernel)
set_option maxRecDepth 100000 in
theorem wd_7 : Cond.selects yX4_fail.cls yX4_fail yX4_fail ∈ z_tbl := z_mem 7 _ (by decide +kernel)
set_option maxRecDepth 100000 in
theorem wd_8 : Cond.selects yX4_takeNumber.cls yX4_takeNumber yX4_takeNumber ∈ z_tbl := z_mem 8 _ (by decide +kernel)
set_option maxRecDepth 100000 in
theorem wd_9 : Cond.selects yX4_takeSign.cls yX4_takeSign yX4_takeSign ∈ z_tbl := z_mem 9 _ (by decide +kernel)
set_option maxRecDepth 100000 in
theorem wd_10 : Cond.selects yX9_faulted.cls yX9_faulted yX9_faulted ∈ z_tbl := z_mem 10 _ (by decide +kernel)
set_option maxRecDepth 100000 in
theorem wd_11 : Cond.selects yX8_carryOut.cls yX8_carryOut yX8_carryOut ∈ z_tbl := z_mem 11 _ (by decide +kernel)
set_option maxRecDepth 100000 in
theorem wd_12 : Cond.selects yX4_readPart.cls yX4_readPart yX4_readPart ∈ z_tbl := z_mem 12 _ (by decide +kernel)
set_option maxRecDepth 100000 in
theorem wd_13 : Cond.selects yX4_readTree.cls yX4_readTree yX4_readTree ∈ z_tbl := z_mem 13 _ (by decide +kernel)
set_option maxRecDepth 100000 in
theorem wd_14 : Cond.selects yX4_readWind.cls yX4_readWind yX4_readWind ∈ z_tbl := z_mem 14 _ (by decide +kernel)
set_option maxRecDepth 100000 in
theorem wd_15 : Cond.selects yX4_readTune.cls yX4_readTune yX4_readTune ∈ z_tbl := z_mem 15 _ (by decide +kernel)
set_option maxRecDepth 100000 in
theorem wd_16 : Cond.initialized "WindHarpLaw" ∈ z_tbl := z_mem 16 _ (by decide +kernel)
set_option maxRecDepth 100000 in
theorem wd_17 : Cond.initialized "WindHarp" ∈ z_tbl := z_mem 17 _ (by decide +kernel)
set_option maxRecDepth 100000 in
theorem wd_18 : Cond.initialized "WindHarp$Reader" ∈ z_tbl := z_mem 18 _ (by decide +kernel)
set_option maxRecDepth 100000 in
theorem wd_19 : Cond.initialized "WindHarp$Rows" ∈ z_tbl := z_mem 19 _ (by decide +kernel)
set_option maxRecDepth 100000 in
theorem wd_20 : Cond.initialized "WindHarp$Wood" ∈ z_tbl := z_mem 20 _ (by decide +kernel)
set_option maxRecDepth 100000 in
theorem wd_21 : Cond.initialized "WindHarp$Trees" ∈ z_tbl := z_mem 21 _ (by decide +kernel)
set_option maxRecDepth 100000 in
theorem wd_22 : Cond.initialized "WindHarp$Winds" ∈ z_tbl := z_mem 22 _ (by decide +kernel)
set_option maxRecDepth 100000 in
theorem wd_23 : Cond.initialized "WindHarp$Deeds" ∈ z_tbl := z_mem 23 _ (by decide +kernel)
set_option maxRecDepth 100000 in
theorem wd_24 : Cond.initialized "WindHarp$Ear" ∈ z_tbl := z_mem 24 _ (by decide +kernel)
set_option maxRecDepth 100000 in
theorem wd_27 : Cond.initialized "java/lang/String" ∈ z_tbl := z_mem 27 _ (by decide +kernel)
set_option maxRecDepth 100000 in
theorem wd_28 : Cond.initialized "java/lang/StringLatin1" ∈ z_tbl := z_mem 28 _ (by decide +kernel)
set_option maxRecDepth 100000 in
theorem wd_29 : Cond.initialized "jdk/internal/util/Preconditions" ∈ z_tbl := z_mem 29 _ (by decide +kernel)
set_option maxRecDepth 100000 in
theorem wd_31 : Cond.initialized "java/lang/System" ∈ z_tbl := z_mem 31 _ (by decide +kernel)
set_option maxRecDepth 100000 in
theorem wd_32 : Cond.initialized "java/lang/Math" ∈ z_tbl := z_mem 32 _ (by decide +kernel)
set_option maxRecDepth 100000 in
theorem wd_47 : Cond.fieldLink RX4 9 (TX4 0).1 (TX4 0).2.1 (TX4 0).2.2.1 ∈ z_tbl := z_mem 47 _ (by decide +kernel)
set_option maxRecDepth 100000 in
theorem wd_48 : Cond.fieldLink RX4 15 (TX4 1).1 (TX4 1).2.1 (TX4 1).2.2.1 ∈ z_tbl := z_mem 48 _ (by decide +kernel)
set_option maxRecDepth 100000 in
theorem wd_49 : Cond.fieldLink RX9 109 (TX4 1).1 (TX4 1).2.1 (TX4 1).2.2.1 ∈ z_tbl := z_mem 49 _ (by decide +kernel)
set_option maxRecDepth 100000 in
theorem wd_50 : Cond.fieldLink RX4 144 (TX4 2).1 (TX4 2).2.1 (TX4 2).2.2.1 ∈ z_tbl := z_mem 50 _ (by decide +kernel)
set_option maxRecDepth 100000 in
theorem wd_51 : Cond.fieldLink RX9 301 (TX4 2).1 (TX4 2).2.1 (TX4 2).2.2.1 ∈ z_tbl := z_mem 51 _ (by decide +kernel)
set_option maxRecDepth 100000 in
theorem wd_52 : Cond.fieldLink RX4 47 (TX4 3).1 (TX4 3).2.1 (TX4 3).2.2.1 ∈ z_tbl := z_mem 52 _ (by decide +kernel)
set_option maxRecDepth 100000 in
theorem wd_53 : Cond.fieldLink RX9 122 (TX4 3).1 (TX4 3).2.1 (TX4 3).2.2.1 ∈ z_tbl := z_mem 53 _ (by decide +kernel)
set_option maxRecDepth 100000 in
theorem wd_54 : Cond.fieldLink RX4 44 (TX4 4).1 (TX4 4).2.1 (TX4 4).2.2.1 ∈ z_tbl := z_mem 54 _ (by decide +kernel)
set_option maxRecDepth 100000 in
theorem wd_55 : Cond.fieldLink RX4 53 (TX4 5).1 (TX4 5).2.1 (TX4 5).2.2.1 ∈ z_tbl := z_mem 55 _ (by decide +kernel)
set_option maxRecDepth 100000 in
theorem wd_56 : Cond.fieldLink RX4 141 (TX4 6).1 (TX4 6).2.1 (TX4 6).2.2.1 ∈ z_tbl := z_mem 56 _ (by decide +kernel)
set_option maxRecDepth 100000 in
theorem wd_79 : Cond.fieldLink RX5 9 (TX5 0).1 (TX5 0).2.1 (TX5 0).2.2.1 ∈ z_tbl := z_mem 79 _ (by decide +kernel)
set_option maxRecDepth 100000 in
theorem wd_106 : Cond.fieldLink RX6 9 (TX6 0).1 (TX6 0).2.1 (TX6 0).2.2.1 ∈ z_tbl := z_mem 106 _ (by decide +kernel)
set_option maxRecDepth 100000 in
theorem wd_107 : Cond.fieldLink RX8 78 (TX6 0).1 (TX6 0).2.1 (TX6 0).2.2.1 ∈ z_tbl := z_mem 107 _ (by decide +kernel)
set_option maxRecDepth 100000 in
theorem wd_108 : Cond.fieldLink RX9 173 (TX6 0).1 (TX6 0).2.1 (TX6 0).2.2.1 ∈ z_tbl := z_mem 108 _ (by decide +kernel)
set_option maxRecDepth 100000 in
theorem wd_109 : Cond.fieldLink RX6 15 (TX6 1).1 (TX6 1).2.1 (TX6 1).2.2.1 ∈ z_tbl := z_mem 109 _ (by decide +kernel)
set_option maxRecDepth 100000 in
theorem wd_110 : Cond.fieldLink RX8 75 (TX6 1).1 (TX6 1).2.1 (TX6 1).2.2.1 ∈ z_tbl := z_mem 110 _ (by decide +kernel)
set_option maxRecDepth 100000 in
theorem wd_111 : Cond.fieldLink RX9 176 (TX6 1).1 (TX6 1).2.1 (TX6 1).2.2.1 ∈ z_tbl := z_mem 111 _ (by decide +kernel)
set_option maxRecDepth 100000 in
theorem wd_112 : Cond.fieldLink RX6 18 (TX6 2).1 (TX6 2).2.1 (TX6 2).2.2.1 ∈ z_tbl := z_mem 112 _ (by decide +kernel)
set_option maxRecDepth 100000 in
theorem wd_113 : Cond.fieldLink RX8 92 (TX6 2).1 (TX6 2).2.1 (TX6 2).2.2.1 ∈ z_tbl := z_mem 113 _ (by decide +kernel)
set_option maxRecDepth 100000 in
theorem wd_114 : Cond.fieldLink RX9 179 (TX6 2).1 (TX6 2).2.1 (TX6 2).2.2.1 ∈ z_tbl := z_mem 114 _ (by decide +kernel)
set_option maxRecDepth 100000 in
theorem wd_115 : Cond.fieldLink RX6 21 (TX6 3).1 (TX6 3).2.1 (TX6 3).2.2.1 ∈ z_tbl := z_mem 115 _ (by decide +kernel)
set_option maxRecDepth 100000 in
theorem wd_116 : Cond.fieldLink RX9 182 (TX6 3).1 (TX6 3).2.1 (TX6 3).2.2.1 ∈ z_tbl := z_mem 116 _ (by decide +kernel)
set_option maxRecDepth 100000 in
theorem wd_117 : Cond.fieldLink RX6 24 (TX6 4).1 (TX6 4).2.1 (TX6 4).2.2.1 ∈ z_tbl := z_mem 117 _ (by decide +kernel)
set_option maxRecDepth 100000 in
theorem wd_118 : Cond.fieldLink RX8 89 (TX6 4).1 (TX6 4).2.1 (TX6 4).2.2.1 ∈ z_tbl := z_mem 118 _ (by decide +kernel)
set_option maxRecDepth 100000 in
theorem wd_119 : Cond.fieldLink RX9 185 (TX6 4).1 (TX6 4).2.1 (TX6 4).2.2.1 ∈ z_tbl := z_mem 119 _ (by decide +kernel)
set_option maxRecDepth 100000 in
theorem wd_120 : Cond.fieldLink RX6 27 (TX6 5).1 (TX6 5).2.1 (TX6 5).2.2.1 ∈ z_tbl := z_mem 120 _ (by decide +kernel)
set_option maxRecDepth 100000 in
theorem wd_121 : Cond.fieldLink RX8 86 (TX6 5).1 (TX6 5).2.1 (TX6 5).2.2.1 ∈ z_tbl := z_mem 121 _ (by decide +kernel)
set_option maxRecDepth 100000 in
theorem wd_122 : Cond.fieldLink RX9 188 (TX6 5).1 (TX6 5).2.1 (TX6 5).2.2.1 ∈ z_tbl := z_mem 122 _ (by decide +kernel)
set_option maxRecDepth 100000 in
theorem wd_123 : Cond.fieldLink RX8 36 (TX6 6).1 (TX6 6).2.1 (TX6 6).2.2.1 ∈ z_tbl := z_mem 123 _ (by decide +kernel)
set_option maxRecDepth 100000 in
theorem wd_124 : Cond.fieldLink RX6 30 (TX6 6).1 (TX6 6).2.1 (TX6 6).2.2.1 ∈ z_tbl := z_mem 124 _ (by decide +kernel)
set_option maxRecDepth 100000 in
theorem wd_125 : Cond.fieldLink RX3 30 (TX6 6).1 (TX6 6).2.1 (TX6 6).2.2.1 ∈ z_tbl := z_mem 125 _ (by decide +kernel)
set_option maxRecDepth 100000 in
theorem wd_126 : Cond.fieldLink RX9 136 (TX6 6).1 (TX6 6).2.1 (TX6 6).2.2.1 ∈ z_tbl := z_mem 126 _ (by decide +kernel)
set_option maxRecDepth 100000 in
theorem wd_127 : Cond.fieldLink RX4 90 (TX6 6).1 (TX6 6).2.1 (TX6 6).2.2.1 ∈ z_tbl := z_mem 127 _ (by decide +kernel)
set_option maxRecDepth 100000 in
theorem wd_149 : Cond.fieldLink RX7 9 (TX7 0).1 (TX7 0).2.1 (TX7 0).2.2.1 ∈ z_tbl := z_mem 149 _ (by decide +kernel)
set_option maxRecDepth 100000 in
theorem wd_150 : Cond.fieldLink RX8 95 (TX7 0).1 (TX7 0).2.1 (TX7 0).2.2.1 ∈ z_tbl := z_mem 150 _ (by decide +kernel)
set_option maxRecDepth 100000 in
theorem wd_151 : Cond.fieldLink RX7 15 (TX7 1).1 (TX7 1).2.1 (TX7 1).2.2.1 ∈ z_tbl := z_mem 151 _ (by decide +kernel)
set_option maxRecDepth 100000 in
theorem wd_152 : Cond.fieldLink RX8 102 (TX7 1).1 (TX7 1).2.1 (TX7 1).2.2.1 ∈ z_tbl := z_mem 152 _ (by decide +kernel)
set_option maxRecDepth 100000 in
theorem wd_153 : Cond.fieldLink RX7 18 (TX7 2).1 (TX7 2).2.1 (TX7 2).2.2.1 ∈ z_tbl := z_mem 153 _ (by decide +kernel)
set_option maxRecDepth 100000 in
theorem wd_154 : Cond.fieldLink RX7 21 (TX7 3).1 (TX7 3).2.1 (TX7 3).2.2.1 ∈ z_tbl := z_mem 154 _ (by decide +kernel)
set_option maxRecDepth 100000 in
theorem wd_155 : Cond.fieldLink RX8 40 (TX7 3).1 (TX7 3).2.1 (TX7 3).2.2.1 ∈ z_tbl := z_mem 155 _ (by decide +kernel)
set_option maxRecDepth 100000 in
theorem wd_156 : Cond.fieldLink RX4 104 (TX7 3).1 (TX7 3).2.1 (TX7 3).2.2.1 ∈ z_tbl := z_mem 156 _ (by decide +kernel)
set_option maxRecDepth 100000 in
theorem wd_157 : Cond.fieldLink RX9 231 (TX7 3).1 (TX7 3).2.1 (TX7 3).2.2.1 ∈ z_tbl := z_mem 157 _ (by decide +kernel)
set_option maxRecDepth 100000 in
theorem wd_173 : Cond.fieldLink RX2 9 (TX2 0).1 (TX2 0).2.1 (TX2 0).2.2.1 ∈ z_tbl := z_mem 173 _ (by decide +kernel)
set_option maxRecDepth 100000 in
theorem wd_174 : Cond.fieldLink RX8 109 (TX2 0).1 (TX2 0).2.1 (TX2 0).2.2.1 ∈ z_tbl := z_mem 174 _ (by decide +kernel)
set_option maxRecDepth 100000 in
theorem wd_175 : Cond.fieldLink RX2 15 (TX2 1).1 (TX2 1).2.1 (TX2 1).2.2.1 ∈ z_tbl := z_mem 175 _ (by decide +kernel)
set_option maxRecDepth 100000 in
theorem wd_176 : Cond.fieldLink RX8 112 (TX2 1).1 (TX2 1).2.1 (TX2 1).2.2.1 ∈ z_tbl := z_mem 176 _ (by decide +kernel)
set_option maxRecDepth 100000 in
theorem wd_177 : Cond.fieldLink RX2 18 (TX2 2).1 (TX2 2).2.1 (TX2 2).2.2.1 ∈ z_tbl := z_mem 177 _ (by decide +kernel)
set_option maxRecDepth 100000 in
theorem wd_178 : Cond.fieldLink RX8 115 (TX2 2).1 (TX2 2).2.1 (TX2 2).2.2.1 ∈ z_tbl := z_mem 178 _ (by decide +kernel)
set_option maxRecDepth 100000 in
theorem wd_179 : Cond.fieldLink RX2 21 (TX2 3).1 (TX2 3).2.1 (TX2 3).2.2.1 ∈ z_tbl := z_mem 179 _ (by decide +kernel)
set_option maxRecDepth 100000 in
theorem wd_180 : Cond.fieldLink RX8 41 (TX2 3).1 (TX2 3).2.1 (TX2 3).2.2.1 ∈ z_tbl := z_mem 180 _ (by decide +kernel)
set_option maxRecDepth 100000 in
theorem wd_181 : Cond.fieldLink RX4 35 (TX2 3).1 (TX2 3).2.1 (TX2 3).2.2.1 ∈ z_tbl := z_mem 181 _ (by decide +kernel)
set_option maxRecDepth 100000 in
theorem wd_182 : Cond.fieldLink RX9 149 (TX2 3).1 (TX2 3).2.1 (TX2 3).2.2.1 ∈ z_tbl := z_mem 182 _ (by decide +kernel)
set_option maxRecDepth 100000 in
theorem wd_192 : Cond.fieldLink RX8 12 (TX8 0).1 (TX8 0).2.1 (TX8 0).2.2.1 ∈ z_tbl := z_mem 192 _ (by decide +kernel)
set_option maxRecDepth 100000 in
theorem wd_193 : Cond.fieldLink RX3 25 (TX8 0).1 (TX8 0).2.1 (TX8 0).2.2.1 ∈ z_tbl := z_mem 193 _ (by decide +kernel)
set_option maxRecDepth 100000 in
theorem wd_194 : Cond.fieldLink RX4 62 (TX8 0).1 (TX8 0).2.1 (TX8 0).2.2.1 ∈ z_tbl := z_mem 194 _ (by decide +kernel)
set_option maxRecDepth 100000 in
theorem wd_195 : Cond.fieldLink RX9 132 (TX8 0).1 (TX8 0).2.1 (TX8 0).2.2.1 ∈ z_tbl := z_mem 195 _ (by decide +kernel)
set_option maxRecDepth 100000 in
theorem wd_196 : Cond.fieldLink RX8 21 (TX8 1).1 (TX8 1).2.1 (TX8 1).2.2.1 ∈ z_tbl := z_mem 196 _ (by decide +kernel)
set_option maxRecDepth 100000 in
theorem wd_197 : Cond.fieldLink RX4 72 (TX8 1).1 (TX8 1).2.1 (TX8 1).2.2.1 ∈ z_tbl := z_mem 197 _ (by decide +kernel)
set_option maxRecDepth 100000 in
theorem wd_198 : Cond.fieldLink RX9 194 (TX8 1).1 (TX8 1).2.1 (TX8 1).2.2.1 ∈ z_tbl := z_mem 198 _ (by decide +kernel)
set_option maxRecDepth 100000 in
theorem wd_199 : Cond.fieldLink RX8 28 (TX8 2).1 (TX8 2).2.1 (TX8 2).2.2.1 ∈ z_tbl := z_mem 199 _ (by decide +kernel)
set_option maxRecDepth 100000 in
theorem wd_200 : Cond.fieldLink RX9 150 (TX8 2).1 (TX8 2).2.1 (TX8 2).2.2.1 ∈ z_tbl := z_mem 200 _ (by decide +kernel)
set_option maxRecDepth 100000 in
theorem wd_201 : Cond.fieldLink RX8 32 (TX8 3).1 (TX8 3).2.1 (TX8 3).2.2.1 ∈ z_tbl := z_mem 201 _ (by decide +kernel)
set_option maxRecDepth 100000 in
theorem wd_202 : Cond.fieldLink RX8 42 (TX8 4).1 (TX8 4).2.1 (TX8 4).2.2.1 ∈ z_tbl := z_mem 202 _ (by decide +kernel)
set_option maxRecDepth 100000 in
theorem wd_203 : Cond.fieldLink RX4 113 (TX8 4).1 (TX8 4).2.1 (TX8 4).2.2.1 ∈ z_tbl := z_mem 203 _ (by decide +kernel)
set_option maxRecDepth 100000 in
theorem wd_204 : Cond.fieldLink RX9 290 (TX8 4).1 (TX8 4).2.1 (TX8 4).2.2.1 ∈ z_tbl := z_mem 204 _ (by decide +kernel)
set_option maxRecDepth 100000 in
theorem wd_205 : Cond.fieldLink RX8 45 (TX8 5).1 (TX8 5).2.1 (TX8 5).2.2.1 ∈ z_tbl := z_mem 205 _ (by decide +kernel)
set_option maxRecDepth 100000 in
theorem wd_206 : Cond.fieldLink RX9 167 (TX8 5).1 (TX8 5).2.1 (TX8 5).2.2.1 ∈ z_tbl := z_mem 206 _ (by decide +kernel)
set_option maxRecDepth 100000 in
theorem wd_207 : Cond.fieldLink RX8 48 (TX8 6).1 (TX8 6).2.1 (TX8 6).2.2.1 ∈ z_tbl := z_mem 207 _ (by decide +kernel)
set_option maxRecDepth 100000 in
theorem wd_208 : Cond.fieldLink RX9 293 (TX8 6).1 (TX8 6).2.1 (TX8 6).2.2.1 ∈ z_tbl := z_mem 208 _ (by decide +kernel)
set_option maxRecDepth 100000 in
theorem wd_209 : Cond.fieldLink RX8 51 (TX8 7).1 (TX8 7).2.1 (TX8 7).2.2.1 ∈ z_tbl := z_mem 209 _ (by decide +kernel)
set_option maxRecDepth 100000 in
theorem wd_210 : Cond.fieldLink RX9 141 (TX8 7).1 (TX8 7).2.1 (TX8 7).2.2.1 ∈ z_tbl := z_mem 210 _ (by decide +kernel)
set_option maxRecDepth 100000 in
theorem wd_236 : Cond.fieldLink RX3 9 (TX3 0).1 (TX3 0).2.1 (TX3 0).2.2.1 ∈ z_tbl := z_mem 236 _ (by decide +kernel)
set_option maxRecDepth 100000 in
theorem wd_237 : Cond.fieldLink RX9 206 (TX3 0).1 (TX3 0).2.1 (TX3 0).2.2.1 ∈ z_tbl := z_mem 237 _ (by decide +kernel)
set_option maxRecDepth 100000 in
theorem wd_238 : Cond.fieldLink RX3 15 (TX3 1).1 (TX3 1).2.1 (TX3 1).2.2.1 ∈ z_tbl := z_mem 238 _ (by decide +kernel)
set_option maxRecDepth 100000 in
theorem wd_240 : Cond.fieldLink RX3 21 (TX3 3).1 (TX3 3).2.1 (TX3 3).2.2.1 ∈ z_tbl := z_mem 240 _ (by decide +kernel)
set_option maxRecDepth 100000 in
theorem wd_241 : Cond.fieldLink RX9 205 (TX3 3).1 (TX3 3).2.1 (TX3 3).2.2.1 ∈ z_tbl := z_mem 241 _ (by decide +kernel)
set_option maxRecDepth 100000 in
theorem wd_283 : Cond.fieldLink RX9 10 (TX9 0).1 (TX9 0).2.1 (TX9 0).2.2.1 ∈ z_tbl := z_mem 283 _ (by decide +kernel)
set_option maxRecDepth 100000 in
theorem wd_284 : Cond.fieldLink RX9 19 (TX9 1).1 (TX9 1).2.1 (TX9 1).2.2.1 ∈ z_tbl := z_mem 284 _ (by decide +kernel)
set_option maxRecDepth 100000 in
theorem wd_285 : Cond.fieldLink RX9 26 (TX9 2).1 (TX9 2).2.1 (TX9 2).2.2.1 ∈ z_tbl := z_mem 285 _ (by decide +kernel)
set_option maxRecDepth 100000 in
theorem wd_286 : Cond.fieldLink RX9 30 (TX9 3).1 (TX9 3).2.1 (TX9 3).2.2.1 ∈ z_tbl := z_mem 286 _ (by decide +kernel)
set_option maxRecDepth 100000 in
theorem wd_289 : Cond.fieldLink RX9 42 (TX9 6).1 (TX9 6).2.1 (TX9 6).2.2.1 ∈ z_tbl := z_mem 289 _ (by decide +kernel)
set_option maxRecDepth 100000 in
theorem wd_290 : Cond.fieldLink RX9 49 (TX9 7).1 (TX9 7).2.1 (TX9 7).2.2.1 ∈ z_tbl := z_mem 290 _ (by decide +kernel)
set_option maxRecDepth 100000 in
theorem wd_294 : Cond.fieldLink RX9 157 (TX9 11).1 (TX9 11).2.1 (TX9 11).2.2.1 ∈ z_tbl := z_mem 294 _ (by decide +kernel)
set_option maxRecDepth 100000 in
theorem wd_322 : Cond.methodLink RL 111 yX9_orders ∈ z_tbl := z_mem 322 _ (by decide +kernel)
set_option maxRecDepth 100000 in
theorem wd_323 : Cond.instanceMethod yX9_orders ∈ z_tbl := z_mem 323 _ (by decide +kernel)
set_option maxRecDepth 100000 in
theorem wd_324 : Cond.selects yX9_orders.cls yX9_orders yX9_orders ∈ z_tbl := z_mem 324 _ (by decide +kernel)
set_option maxRecDepth 100000 in
theorem wd_325 : Cond.code yX9_orders cX9_orders 1 (some .int) ∈ z_tbl := z_mem 325 _ (by decide +kernel)
set_option maxRecDepth 100000 in
theorem wd_326 : Cond.constant RX9 144 (Int32.ofInt (-1000002)) ∈ z_tbl := z_mem 326 _ (by decide +kernel)
set_option maxRecDepth 100000 in
theorem wd_327 : Cond.methodLink RX9 145 yX4_readOrders ∈ z_tbl := z_mem 327 _ (by decide +kernel)
set_option maxRecDepth 100000 in
theorem wd_328 : Cond.instanceMethod yX4_readOrders ∈ z_tbl := z_mem 328 _ (by decide +kernel)
set_option maxRecDepth 100000 in
theorem wd_329 : Cond.selects yX4_readOrders.cls yX4_readOrders yX4_readOrders ∈ z_tbl := z_mem 329 _ (by decide +kernel)
set_option maxRecDepth 100000 in
theorem wd_330 : Cond.code yX4_readOrders cX4_readOrders 4 none ∈ z_tbl := z_mem 330 _ (by decide +kernel)
set_option maxRecDepth 100000 in
theorem wd_331 : Cond.methodLink RX4 24 yX4_begin ∈ z_tbl := z_mem 331 _ (by decide +kernel)
set_option maxRecDepth 100000 in
theorem wd_333 : Cond.instanceMethod yX4_begin ∈ z_tbl := z_mem 333 _ (by decide +kernel)
set_option maxRecDepth 100000 in
theorem wd_334 : Cond.code yX4_begin cX4_begin 1 none ∈ z_tbl := z_mem 334 _ (by decide +kernel)
set_option maxRecDepth 100000 in
theorem wd_335 : Cond.methodLink RX4 50 yX4_next ∈ z_tbl := z_mem 335 _ (by decide +kernel)
set_option maxRecDepth 100000 in
theorem wd_337 : Cond.instanceMethod yX4_next ∈ z_tbl := z_mem 337 _ (by decide +kernel)
set_option maxRecDepth 100000 in
theorem wd_338 : Cond.code yX4_next cX4_next 2 none ∈ z_tbl := z_mem 338 _ (by decide +kernel)
set_option maxRecDepth 100000 in
theorem wd_339 : Cond.methodLink RX4 152 yX4_byteAt ∈ z_tbl := z_mem 339 _ (by decide +kernel)
set_option maxRecDepth 100000 in
theorem wd_341 : Cond.instanceMethod yX4_byteAt ∈ z_tbl := z_mem 341 _ (by decide +kernel)
set_option maxRecDepth 100000 in
theorem wd_342 : Cond.code yX4_byteAt cX4_byteAt 2 (some .int) ∈ z_tbl := z_mem 342 _ (by decide +kernel)
set_option maxRecDepth 100000 in
theorem wd_343 : Cond.methodLink RX4 160 yX4_isBlank ∈ z_tbl := z_mem 343 _ (by decide +kernel)
set_option maxRecDepth 100000 in
theorem wd_344 : Cond.static yX4_isBlank ∈ z_tbl := z_mem 344 _ (by decide +kernel)
set_option maxRecDepth 100000 in
theorem wd_345 : Cond.code yX4_isBlank cX4_isBlank 1 (some .boolean) ∈ z_tbl := z_mem 345 _ (by decide +kernel)
set_option maxRecDepth 100000 in
theorem wd_346 : Cond.methodLink RX4 164 yX4_isLetter ∈ z_tbl := z_mem 346 _ (by decide +kernel)
set_option maxRecDepth 100000 in
theorem wd_347 : Cond.static yX4_isLetter ∈ z_tbl := z_mem 347 _ (by decide +kernel)
set_option maxRecDepth 100000 in
theorem wd_348 : Cond.code yX4_isLetter cX4_isLetter 1 (some .boolean) ∈ z_tbl := z_mem 348 _ (by decide +kernel)
set_option maxRecDepth 100000 in
theorem wd_349 : Cond.methodLink RX4 167 yX4_isFigure ∈ z_tbl := z_mem 349 _ (by decide +kernel)
set_option maxRecDepth 100000 in
theorem wd_350 : Cond.static yX4_isFigure ∈ z_tbl := z_mem 350 _ (by decide +kernel)
set_option maxRecDepth 100000 in
theorem wd_351 : Cond.code yX4_isFigure cX4_isFigure 1 (some .boolean) ∈ z_tbl := z_mem 351 _ (by decide +kernel)
set_option maxRecDepth 100000 in
theorem wd_352 : Cond.methodLink RX4 27 yX4_isMore ∈ z_tbl := z_mem 352 _ (by decide +kernel)
set_option maxRecDepth 100000 in
theorem wd_354 : Cond.instanceMethod yX4_isMore ∈ z_tbl := z_mem 354 _ (by decide +kernel)
set_option maxRecDepth 100000 in
theorem wd_355 : Cond.code yX4_isMore cX4_isMore 1 (some .boolean) ∈ z_tbl := z_mem 355 _ (by decide +kernel)
set_option maxRecDepth 100000 in
theorem wd_356 : Cond.methodLink RX4 40 yX4_readOrder ∈ z_tbl := z_mem 356 _ (by decide +kernel)
set_option maxRecDepth 100000 in
theorem wd_358 : Cond.instanceMethod yX4_readOrder ∈ z_tbl := z_mem 358 _ (by decide +kernel)
set_option maxRecDepth 100000 in
theorem wd_359 : Cond.code yX4_readOrder cX4_readOrder 6 none ∈ z_tbl := z_mem 359 _ (by decide +kernel)
set_option maxRecDepth 100000 in
theorem wd_360 : Cond.methodLink RX4 116 yX4_orderHere ∈ z_tbl := z_mem 360 _ (by decide +kernel)
set_option maxRecDepth 100000 in
theorem wd_362 : Cond.instanceMethod yX4_orderHere ∈ z_tbl := z_mem 362 _ (by decide +kernel)
set_option maxRecDepth 100000 in
theorem wd_363 : Cond.code yX4_orderHere cX4_orderHere 2 (some .int) ∈ z_tbl := z_mem 363 _ (by decide +kernel)
set_option maxRecDepth 100000 in
theorem wd_364 : Cond.methodLink RX4 121 yX4_wordOf ∈ z_tbl := z_mem 364 _ (by decide +kernel)
set_option maxRecDepth 100000 in
theorem wd_365 : Cond.static yX4_wordOf ∈ z_tbl := z_mem 365 _ (by decide +kernel)
set_option maxRecDepth 100000 in
theorem wd_366 : Cond.code yX4_wordOf cX4_wordOf 1 (some (.object "java/lang/String")) ∈ z_tbl := z_mem 366 _ (by decide +kernel)
set_option maxRecDepth 100000 in
theorem wd_375 : Cond.methodLink RX4 58 yX4_isWord ∈ z_tbl := z_mem 375 _ (by decide +kernel)
set_option maxRecDepth 100000 in
theorem wd_377 : Cond.instanceMethod yX4_isWord ∈ z_tbl := z_mem 377 _ (by decide +kernel)
set_option maxRecDepth 100000 in
theorem wd_378 : Cond.code yX4_isWord cX4_isWord 3 (some .boolean) ∈ z_tbl := z_mem 378 _ (by decide +kernel)
set_option maxRecDepth 100000 in
theorem wd_379 : Cond.methodLink RX4 147 yJ0_length_8abf5 ∈ z_tbl := z_mem 379 _ (by decide +kernel)
set_option maxRecDepth 100000 in
theorem wd_380 : Cond.instanceMethod yJ0_length_8abf5 ∈ z_tbl := z_mem 380 _ (by decide +kernel)
set_option maxRecDepth 100000 in
theorem wd_381 : Cond.selects yJ0_length_8abf5.cls yJ0_length_8abf5 yJ0_length_8abf5 ∈ z_tbl := z_mem 381 _ (by decide +kernel)
set_option maxRecDepth 100000 in
theorem wd_382 : Cond.code yJ0_length_8abf5 cJ0_length_8abf5 1 (some .int) ∈ z_tbl := z_mem 382 _ (by decide +kernel)
set_option maxRecDepth 100000 in
theorem wd_383 : Cond.methodLink "java/lang/String" 335 yJ0_coder_7d493 ∈ z_tbl := z_mem 383 _ (by decide +kernel)
set_option maxRecDepth 100000 in
theorem wd_384 : Cond.instanceMethod yJ0_coder_7d493 ∈ z_tbl := z_mem 384 _ (by decide +kernel)
set_option maxRecDepth 100000 in
theorem wd_385 : Cond.selects yJ0_coder_7d493.cls yJ0_coder_7d493 yJ0_coder_7d493 ∈ z_tbl := z_mem 385 _ (by decide +kernel)
set_option maxRecDepth 100000 in
theorem wd_386 : Cond.code yJ0_coder_7d493 cJ0_coder_7d493 1 (some .byte) ∈ z_tbl := z_mem 386 _ (by decide +kernel)
set_option maxRecDepth 100000 in
theorem wd_387 : Cond.fieldLink "java/lang/String" 38 "java/lang/String" "COMPACT_STRINGS" "Z" ∈ z_tbl := z_mem 387 _ (by decide +kernel)
set_option maxRecDepth 100000 in
theorem wd_389 : Cond.methodLink RX4 156 yJ0_charAt_5068e ∈ z_tbl := z_mem 389 _ (by decide +kernel)
set_option maxRecDepth 100000 in
theorem wd_390 : Cond.instanceMethod yJ0_charAt_5068e ∈ z_tbl := z_mem 390 _ (by decide +kernel)
set_option maxRecDepth 100000 in
theorem wd_391 : Cond.selects yJ0_charAt_5068e.cls yJ0_charAt_5068e yJ0_charAt_5068e ∈ z_tbl := z_mem 391 _ (by decide +kernel)
set_option maxRecDepth 100000 in
theorem wd_392 : Cond.code yJ0_charAt_5068e cJ0_charAt_5068e 2 (some .char) ∈ z_tbl := z_mem 392 _ (by decide +kernel)
set_option maxRecDepth 100000 in
theorem wd_393 : Cond.methodLink "java/lang/String" 492 yJ0_isLatin1_aae02 ∈ z_tbl := z_mem 393 _ (by decide +kernel)
set_option maxRecDepth 100000 in
theorem wd_394 : Cond.instanceMethod yJ0_isLatin1_aae02 ∈ z_tbl := z_mem 394 _ (by decide +kernel)
set_option maxRecDepth 100000 in
theorem wd_395 : Cond.selects yJ0_isLatin1_aae02.cls yJ0_isLatin1_aae02 yJ0_isLatin1_aae02 ∈ z_tbl := z_mem 395 _ (by decide +kernel)
set_option maxRecDepth 100000 in
theorem wd_396 : Cond.code yJ0_isLatin1_aae02 cJ0_isLatin1_aae02 1 (some .boolean) ∈ z_tbl := z_mem 396 _ (by decide +kernel)
set_option maxRecDepth 100000 in
theorem wd_397 : Cond.methodLink "java/lang/String" 495 yJ1_charAt_3b067 ∈ z_tbl := z_mem 397 _ (by decide +kernel)
set_option maxRecDepth 100000 in
theorem wd_398 : Cond.static yJ1_charAt_3b067 ∈ z_tbl := z_mem 398 _ (by decide +kernel)
set_option maxRecDepth 100000 in
theorem wd_399 : Cond.code yJ1_charAt_3b067 cJ1_charAt_3b067 2 (some .char) ∈ z_tbl := z_mem 399 _ (by decide +kernel)
set_option maxRecDepth 100000 in
theorem wd_400 : Cond.methodLink "java/lang/StringLatin1" 9 yJ0_checkIndex_df160 ∈ z_tbl := z_mem 400 _ (by decide +kernel)
set_option maxRecDepth 100000 in
theorem wd_401 : Cond.static yJ0_checkIndex_df160 ∈ z_tbl := z_mem 401 _ (by decide +kernel)
set_option maxRecDepth 100000 in
theorem wd_402 : Cond.code yJ0_checkIndex_df160 cJ0_checkIndex_df160 2 none ∈ z_tbl := z_mem 402 _ (by decide +kernel)
set_option maxRecDepth 100000 in
theorem wd_403 : Cond.fieldLink "java/lang/String" 1053 "jdk/internal/util/Preconditions" "SIOOBE_FORMATTER" "Ljava/util/function/BiFunction;" ∈ z_tbl := z_mem 403 _ (by decide +kernel)
set_option maxRecDepth 100000 in
theorem wd_405 : Cond.methodLink "java/lang/String" 1059 yJ3_checkIndex_8e157 ∈ z_tbl := z_mem 405 _ (by decide +kernel)
set_option maxRecDepth 100000 in
theorem wd_406 : Cond.static yJ3_checkIndex_8e157 ∈ z_tbl := z_mem 406 _ (by decide +kernel)
set_option maxRecDepth 100000 in
theorem wd_407 : Cond.code yJ3_checkIndex_8e157 cJ3_checkIndex_8e157 3 (some .int) ∈ z_tbl := z_mem 407 _ (by decide +kernel)
set_option maxRecDepth 100000 in
theorem wd_427 : Cond.methodLink RX4 86 yX4_fail ∈ z_tbl := z_mem 427 _ (by decide +kernel)
set_option maxRecDepth 100000 in
theorem wd_429 : Cond.instanceMethod yX4_fail ∈ z_tbl := z_mem 429 _ (by decide +kernel)
set_option maxRecDepth 100000 in
theorem wd_430 : Cond.code yX4_fail cX4_fail 2 none ∈ z_tbl := z_mem 430 _ (by decide +kernel)
set_option maxRecDepth 100000 in
theorem wd_431 : Cond.methodLink RX4 93 yX4_takeNumber ∈ z_tbl := z_mem 431 _ (by decide +kernel)
set_option maxRecDepth 100000 in
theorem wd_433 : Cond.instanceMethod yX4_takeNumber ∈ z_tbl := z_mem 433 _ (by decide +kernel)
set_option maxRecDepth 100000 in
theorem wd_434 : Cond.code yX4_takeNumber cX4_takeNumber 4 (some .int) ∈ z_tbl := z_mem 434 _ (by decide +kernel)
set_option maxRecDepth 100000 in
theorem wd_435 : Cond.methodLink RX4 97 yX4_takeSign ∈ z_tbl := z_mem 435 _ (by decide +kernel)
set_option maxRecDepth 100000 in
theorem wd_437 : Cond.instanceMethod yX4_takeSign ∈ z_tbl := z_mem 437 _ (by decide +kernel)
set_option maxRecDepth 100000 in
theorem wd_438 : Cond.code yX4_takeSign cX4_takeSign 1 none ∈ z_tbl := z_mem 438 _ (by decide +kernel)
set_option maxRecDepth 100000 in
theorem wd_439 : Cond.methodLink RX4 120 yX2_add ∈ z_tbl := z_mem 439 _ (by decide +kernel)
set_option maxRecDepth 100000 in
theorem wd_440 : Cond.instanceMethod yX2_add ∈ z_tbl := z_mem 440 _ (by decide +kernel)
set_option maxRecDepth 100000 in
theorem wd_441 : Cond.selects yX2_add.cls yX2_add yX2_add ∈ z_tbl := z_mem 441 _ (by decide +kernel)
set_option maxRecDepth 100000 in
theorem wd_442 : Cond.code yX2_add cX2_add 4 none ∈ z_tbl := z_mem 442 _ (by decide +kernel)
set_option maxRecDepth 100000 in
theorem wd_443 : Cond.methodLink RX9 125 yX9_faulted ∈ z_tbl := z_mem 443 _ (by decide +kernel)
set_option maxRecDepth 100000 in
theorem wd_445 : Cond.instanceMethod yX9_faulted ∈ z_tbl := z_mem 445 _ (by decide +kernel)
set_option maxRecDepth 100000 in
theorem wd_446 : Cond.code yX9_faulted cX9_faulted 1 (some .int) ∈ z_tbl := z_mem 446 _ (by decide +kernel)
set_option maxRecDepth 100000 in
theorem wd_447 : Cond.constant RX9 300 (Int32.ofInt (-1000100)) ∈ z_tbl := z_mem 447 _ (by decide +kernel)
set_option maxRecDepth 100000 in
theorem wd_448 : Cond.constant RX9 113 (Int32.ofInt (-1000003)) ∈ z_tbl := z_mem 448 _ (by decide +kernel)
set_option maxRecDepth 100000 in
theorem wd_449 : Cond.methodLink RX9 153 yX8_carryOutAll ∈ z_tbl := z_mem 449 _ (by decide +kernel)
set_option maxRecDepth 100000 in
theorem wd_450 : Cond.instanceMethod yX8_carryOutAll ∈ z_tbl := z_mem 450 _ (by decide +kernel)
set_option maxRecDepth 100000 in
theorem wd_451 : Cond.selects yX8_carryOutAll.cls yX8_carryOutAll yX8_carryOutAll ∈ z_tbl := z_mem 451 _ (by decide +kernel)
set_option maxRecDepth 100000 in
theorem wd_452 : Cond.code yX8_carryOutAll cX8_carryOutAll 3 none ∈ z_tbl := z_mem 452 _ (by decide +kernel)
set_option maxRecDepth 100000 in
theorem wd_453 : Cond.methodLink RX8 118 yX8_carryOut ∈ z_tbl := z_mem 453 _ (by decide +kernel)
set_option maxRecDepth 100000 in
theorem wd_455 : Cond.instanceMethod yX8_carryOut ∈ z_tbl := z_mem 455 _ (by decide +kernel)
set_option maxRecDepth 100000 in
theorem wd_456 : Cond.code yX8_carryOut cX8_carryOut 5 none ∈ z_tbl := z_mem 456 _ (by decide +kernel)
set_option maxRecDepth 100000 in
theorem wd_457 : Cond.methodLink RX8 71 yX6_has ∈ z_tbl := z_mem 457 _ (by decide +kernel)
set_option maxRecDepth 100000 in
theorem wd_458 : Cond.instanceMethod yX6_has ∈ z_tbl := z_mem 458 _ (by decide +kernel)
set_option maxRecDepth 100000 in
theorem wd_459 : Cond.selects yX6_has.cls yX6_has yX6_has ∈ z_tbl := z_mem 459 _ (by decide +kernel)
set_option maxRecDepth 100000 in
theorem wd_460 : Cond.code yX6_has cX6_has 2 (some .boolean) ∈ z_tbl := z_mem 460 _ (by decide +kernel)
set_option maxRecDepth 100000 in
theorem wd_461 : Cond.methodLink RX8 122 yX6_stretch ∈ z_tbl := z_mem 461 _ (by decide +kernel)
set_option maxRecDepth 100000 in
theorem wd_462 : Cond.instanceMethod yX6_stretch ∈ z_tbl := z_mem 462 _ (by decide +kernel)
set_option maxRecDepth 100000 in
theorem wd_463 : Cond.selects yX6_stretch.cls yX6_stretch yX6_stretch ∈ z_tbl := z_mem 463 _ (by decide +kernel)
set_option maxRecDepth 100000 in
theorem wd_464 : Cond.code yX6_stretch cX6_stretch 4 (some .int) ∈ z_tbl := z_mem 464 _ (by decide +kernel)
set_option maxRecDepth 100000 in
theorem wd_465 : Cond.methodLink RX6 43 yX6_has ∈ z_tbl := z_mem 465 _ (by decide +kernel)
set_option maxRecDepth 100000 in
theorem wd_466 : Cond.methodLink RX6 47 yX6_longer ∈ z_tbl := z_mem 466 _ (by decide +kernel)
set_option maxRecDepth 100000 in
theorem wd_467 : Cond.static yX6_longer ∈ z_tbl := z_mem 467 _ (by decide +kernel)
set_option maxRecDepth 100000 in
theorem wd_468 : Cond.code yX6_longer cX6_longer 2 (some .int) ∈ z_tbl := z_mem 468 _ (by decide +kernel)
set_option maxRecDepth 100000 in
theorem wd_469 : Cond.methodLink RX6 34 yJ9_min_7cf53 ∈ z_tbl := z_mem 469 _ (by decide +kernel)
set_option maxRecDepth 100000 in
theorem wd_470 : Cond.static yJ9_min_7cf53 ∈ z_tbl := z_mem 470 _ (by decide +kernel)
set_option maxRecDepth 100000 in
theorem wd_471 : Cond.code Lib.Math.min.name Lib.Math.min.code 2 (some .int) ∈ z_tbl := z_mem 471 _ (by decide +kernel)
set_option maxRecDepth 100000 in
theorem wd_472 : Cond.methodLink RX6 40 yJ9_max_7cf53 ∈ z_tbl := z_mem 472 _ (by decide +kernel)
set_option maxRecDepth 100000 in
theorem wd_473 : Cond.static yJ9_max_7cf53 ∈ z_tbl := z_mem 473 _ (by decide +kernel)
set_option maxRecDepth 100000 in
theorem wd_474 : Cond.code Lib.Math.max.name Lib.Math.max.code 2 (some .int) ∈ z_tbl := z_mem 474 _ (by decide +kernel)
set_option maxRecDepth 100000 in
theorem wd_475 : Cond.methodLink RX8 125 yX2_add ∈ z_tbl := z_mem 475 _ (by decide +kernel)
set_option maxRecDepth 100000 in
theorem wd_476 : Cond.methodLink RL 118 yX9_undo ∈ z_tbl := z_mem 476 _ (by decide +kernel)
set_option maxRecDepth 100000 in
theorem wd_477 : Cond.instanceMethod yX9_undo ∈ z_tbl := z_mem 477 _ (by decide +kernel)
set_option maxRecDepth 100000 in
theorem wd_478 : Cond.selects yX9_undo.cls yX9_undo yX9_undo ∈ z_tbl := z_mem 478 _ (by decide +kernel)
set_option maxRecDepth 100000 in
theorem wd_479 : Cond.code yX9_undo cX9_undo 1 (some .int) ∈ z_tbl := z_mem 479 _ (by decide +kernel)
set_option maxRecDepth 100000 in
theorem wd_480 : Cond.methodLink RX9 160 yX8_takeBack ∈ z_tbl := z_mem 480 _ (by decide +kernel)
set_option maxRecDepth 100000 in
theorem wd_481 : Cond.instanceMethod yX8_takeBack ∈ z_tbl := z_mem 481 _ (by decide +kernel)
set_option maxRecDepth 100000 in
theorem wd_482 : Cond.selects yX8_takeBack.cls yX8_takeBack yX8_takeBack ∈ z_tbl := z_mem 482 _ (by decide +kernel)
set_option maxRecDepth 100000 in
theorem wd_483 : Cond.code yX8_takeBack cX8_takeBack 4 none ∈ z_tbl := z_mem 483 _ (by decide +kernel)
set_option maxRecDepth 100000 in
theorem wd_484 : Cond.methodLink RL 124 yX9_go ∈ z_tbl := z_mem 484 _ (by decide +kernel)
set_option maxRecDepth 100000 in
theorem wd_485 : Cond.instanceMethod yX9_go ∈ z_tbl := z_mem 485 _ (by decide +kernel)
set_option maxRecDepth 100000 in
theorem wd_486 : Cond.selects yX9_go.cls yX9_go yX9_go ∈ z_tbl := z_mem 486 _ (by decide +kernel)
set_option maxRecDepth 100000 in
theorem wd_487 : Cond.code yX9_go cX9_go 2 (some .int) ∈ z_tbl := z_mem 487 _ (by decide +kernel)
set_option maxRecDepth 100000 in
theorem wd_488 : Cond.constant RX9 75 (Int32.ofInt (-1000001)) ∈ z_tbl := z_mem 488 _ (by decide +kernel)
set_option maxRecDepth 100000 in
theorem wd_489 : Cond.methodLink RX9 163 yX8_grow ∈ z_tbl := z_mem 489 _ (by decide +kernel)
set_option maxRecDepth 100000 in
theorem wd_490 : Cond.instanceMethod yX8_grow ∈ z_tbl := z_mem 490 _ (by decide +kernel)
set_option maxRecDepth 100000 in
theorem wd_491 : Cond.selects yX8_grow.cls yX8_grow yX8_grow ∈ z_tbl := z_mem 491 _ (by decide +kernel)
set_option maxRecDepth 100000 in
theorem wd_492 : Cond.code yX8_grow cX8_grow 2 none ∈ z_tbl := z_mem 492 _ (by decide +kernel)
set_option maxRecDepth 100000 in
theorem wd_493 : Cond.methodLink RX8 105 yX6_growAll ∈ z_tbl := z_mem 493 _ (by decide +kernel)
set_option maxRecDepth 100000 in
theorem wd_494 : Cond.instanceMethod yX6_growAll ∈ z_tbl := z_mem 494 _ (by decide +kernel)
set_option maxRecDepth 100000 in
theorem wd_495 : Cond.selects yX6_growAll.cls yX6_growAll yX6_growAll ∈ z_tbl := z_mem 495 _ (by decide +kernel)
set_option maxRecDepth 100000 in
theorem wd_496 : Cond.code yX6_growAll cX6_growAll 3 none ∈ z_tbl := z_mem 496 _ (by decide +kernel)
set_option maxRecDepth 100000 in
theorem wd_497 : Cond.methodLink RX6 50 yX6_stretch ∈ z_tbl := z_mem 497 _ (by decide +kernel)
set_option maxRecDepth 100000 in
theorem wd_498 : Cond.methodLink RL 127 yX9_tree ∈ z_tbl := z_mem 498 _ (by decide +kernel)
set_option maxRecDepth 100000 in
theorem wd_499 : Cond.instanceMethod yX9_tree ∈ z_tbl := z_mem 499 _ (by decide +kernel)
set_option maxRecDepth 100000 in
theorem wd_500 : Cond.selects yX9_tree.cls yX9_tree yX9_tree ∈ z_tbl := z_mem 500 _ (by decide +kernel)
set_option maxRecDepth 100000 in
theorem wd_501 : Cond.code yX9_tree cX9_tree 3 (some .int) ∈ z_tbl := z_mem 501 _ (by decide +kernel)
set_option maxRecDepth 100000 in
theorem wd_502 : Cond.methodLink RX9 170 yX6_has ∈ z_tbl := z_mem 502 _ (by decide +kernel)
set_option maxRecDepth 100000 in
theorem wd_503 : Cond.methodLink RX9 191 yX8_toneOf ∈ z_tbl := z_mem 503 _ (by decide +kernel)
set_option maxRecDepth 100000 in
theorem wd_504 : Cond.instanceMethod yX8_toneOf ∈ z_tbl := z_mem 504 _ (by decide +kernel)
set_option maxRecDepth 100000 in
theorem wd_505 : Cond.selects yX8_toneOf.cls yX8_toneOf yX8_toneOf ∈ z_tbl := z_mem 505 _ (by decide +kernel)
set_option maxRecDepth 100000 in
theorem wd_506 : Cond.code yX8_toneOf cX8_toneOf 3 (some .int) ∈ z_tbl := z_mem 506 _ (by decide +kernel)
set_option maxRecDepth 100000 in
theorem wd_507 : Cond.methodLink RX8 81 yX8_dryTone ∈ z_tbl := z_mem 507 _ (by decide +kernel)
set_option maxRecDepth 100000 in
theorem wd_508 : Cond.static yX8_dryTone ∈ z_tbl := z_mem 508 _ (by decide +kernel)
set_option maxRecDepth 100000 in
theorem wd_509 : Cond.code yX8_dryTone cX8_dryTone 2 (some .int) ∈ z_tbl := z_mem 509 _ (by decide +kernel)
set_option maxRecDepth 100000 in
theorem wd_510 : Cond.methodLink RL 133 yX9_sound ∈ z_tbl := z_mem 510 _ (by decide +kernel)
set_option maxRecDepth 100000 in
theorem wd_511 : Cond.instanceMethod yX9_sound ∈ z_tbl := z_mem 511 _ (by decide +kernel)
set_option maxRecDepth 100000 in
theorem wd_512 : Cond.selects yX9_sound.cls yX9_sound yX9_sound ∈ z_tbl := z_mem 512 _ (by decide +kernel)
set_option maxRecDepth 100000 in
theorem wd_513 : Cond.code yX9_sound cX9_sound 3 (some .int) ∈ z_tbl := z_mem 513 _ (by decide +kernel)
set_option maxRecDepth 100000 in
theorem wd_514 : Cond.methodLink RX9 198 yX7_has ∈ z_tbl := z_mem 514 _ (by decide +kernel)
set_option maxRecDepth 100000 in
theorem wd_515 : Cond.instanceMethod yX7_has ∈ z_tbl := z_mem 515 _ (by decide +kernel)
set_option maxRecDepth 100000 in
theorem wd_516 : Cond.selects yX7_has.cls yX7_has yX7_has ∈ z_tbl := z_mem 516 _ (by decide +kernel)
set_option maxRecDepth 100000 in
theorem wd_517 : Cond.code yX7_has cX7_has 2 (some .boolean) ∈ z_tbl := z_mem 517 _ (by decide +kernel)
set_option maxRecDepth 100000 in
theorem wd_518 : Cond.methodLink RX9 201 yX3_listen ∈ z_tbl := z_mem 518 _ (by decide +kernel)
set_option maxRecDepth 100000 in
theorem wd_519 : Cond.instanceMethod yX3_listen ∈ z_tbl := z_mem 519 _ (by decide +kernel)
set_option maxRecDepth 100000 in
theorem wd_520 : Cond.selects yX3_listen.cls yX3_listen yX3_listen ∈ z_tbl := z_mem 520 _ (by decide +kernel)
set_option maxRecDepth 100000 in
theorem wd_521 : Cond.code yX3_listen cX3_listen 4 none ∈ z_tbl := z_mem 521 _ (by decide +kernel)
set_option maxRecDepth 100000 in
theorem wd_522 : Cond.methodLink RX3 33 yX8_sounds ∈ z_tbl := z_mem 522 _ (by decide +kernel)
set_option maxRecDepth 100000 in
theorem wd_523 : Cond.instanceMethod yX8_sounds ∈ z_tbl := z_mem 523 _ (by decide +kernel)
set_option maxRecDepth 100000 in
theorem wd_524 : Cond.selects yX8_sounds.cls yX8_sounds yX8_sounds ∈ z_tbl := z_mem 524 _ (by decide +kernel)
set_option maxRecDepth 100000 in
theorem wd_525 : Cond.code yX8_sounds cX8_sounds 5 (some .boolean) ∈ z_tbl := z_mem 525 _ (by decide +kernel)
set_option maxRecDepth 100000 in
theorem wd_526 : Cond.methodLink RX8 85 yX7_has ∈ z_tbl := z_mem 526 _ (by decide +kernel)
set_option maxRecDepth 100000 in
theorem wd_527 : Cond.methodLink RX8 96 yJ9_abs_0f7a4 ∈ z_tbl := z_mem 527 _ (by decide +kernel)
set_option maxRecDepth 100000 in
theorem wd_528 : Cond.static yJ9_abs_0f7a4 ∈ z_tbl := z_mem 528 _ (by decide +kernel)
set_option maxRecDepth 100000 in
theorem wd_529 : Cond.code Lib.Math.abs.name Lib.Math.abs.code 1 (some .int) ∈ z_tbl := z_mem 529 _ (by decide +kernel)
set_option maxRecDepth 100000 in
theorem wd_530 : Cond.methodLink RX3 37 yX8_toneOf ∈ z_tbl := z_mem 530 _ (by decide +kernel)
set_option maxRecDepth 100000 in
theorem wd_531 : Cond.constant RX9 209 (Int32.ofInt (-1000000)) ∈ z_tbl := z_mem 531 _ (by decide +kernel)
set_option maxRecDepth 100000 in
theorem wd_532 : Cond.methodLink RL 67 yX9_count ∈ z_tbl := z_mem 532 _ (by decide +kernel)
set_option maxRecDepth 100000 in
theorem wd_533 : Cond.instanceMethod yX9_count ∈ z_tbl := z_mem 533 _ (by decide +kernel)
set_option maxRecDepth 100000 in
theorem wd_534 : Cond.selects yX9_count.cls yX9_count yX9_count ∈ z_tbl := z_mem 534 _ (by decide +kernel)
set_option maxRecDepth 100000 in
theorem wd_535 : Cond.code yX9_count cX9_count 2 (some .int) ∈ z_tbl := z_mem 535 _ (by decide +kernel)
set_option maxRecDepth 100000 in
theorem wd_536 : Cond.methodLink RX9 287 yX5_countThere ∈ z_tbl := z_mem 536 _ (by decide +kernel)
set_option maxRecDepth 100000 in
theorem wd_537 : Cond.instanceMethod yX5_countThere ∈ z_tbl := z_mem 537 _ (by decide +kernel)
set_option maxRecDepth 100000 in
theorem wd_538 : Cond.selects yX5_countThere.cls yX5_countThere yX5_countThere ∈ z_tbl := z_mem 538 _ (by decide +kernel)
set_option maxRecDepth 100000 in
theorem wd_539 : Cond.code yX5_countThere cX5_countThere 3 (some .int) ∈ z_tbl := z_mem 539 _ (by decide +kernel)
set_option maxRecDepth 100000 in
theorem wd_540 : Cond.methodLink RL 17 yL_cell ∈ z_tbl := z_mem 540 _ (by decide +kernel)
set_option maxRecDepth 100000 in
theorem wd_541 : Cond.static yL_cell ∈ z_tbl := z_mem 541 _ (by decide +kernel)
set_option maxRecDepth 100000 in
theorem wd_542 : Cond.code yL_cell cL_cell 2 (some .int) ∈ z_tbl := z_mem 542 _ (by decide +kernel)
set_option maxRecDepth 100000 in
theorem wd_543 : Cond.constant RL 7 (Int32.ofInt (1013904223)) ∈ z_tbl := z_mem 543 _ (by decide +kernel)
set_option maxRecDepth 100000 in
theorem wd_544 : Cond.methodLink RL 23 yL_low ∈ z_tbl := z_mem 544 _ (by decide +kernel)
set_option maxRecDepth 100000 in
theorem wd_545 : Cond.static yL_low ∈ z_tbl := z_mem 545 _ (by decide +kernel)
set_option maxRecDepth 100000 in
theorem wd_546 : Cond.code yL_low cL_low 2 (some .int) ∈ z_tbl := z_mem 546 _ (by decide +kernel)
set_option maxRecDepth 100000 in
theorem wd_547 : Cond.constant RL 8 (Int32.ofInt (2147483647)) ∈ z_tbl := z_mem 547 _ (by decide +kernel)
set_option maxRecDepth 100000 in
theorem wd_548 : Cond.methodLink RL 27 yL_trees ∈ z_tbl := z_mem 548 _ (by decide +kernel)
set_option maxRecDepth 100000 in
theorem wd_549 : Cond.static yL_trees ∈ z_tbl := z_mem 549 _ (by decide +kernel)
set_option maxRecDepth 100000 in
theorem wd_550 : Cond.code yL_trees cL_trees 1 (some .int) ∈ z_tbl := z_mem 550 _ (by decide +kernel)
set_option maxRecDepth 100000 in
theorem wd_551 : Cond.methodLink RL 47 yL_winds ∈ z_tbl := z_mem 551 _ (by decide +kernel)
set_option maxRecDepth 100000 in
theorem wd_552 : Cond.static yL_winds ∈ z_tbl := z_mem 552 _ (by decide +kernel)
set_option maxRecDepth 100000 in
theorem wd_553 : Cond.code yL_winds cL_winds 1 (some .int) ∈ z_tbl := z_mem 553 _ (by decide +kernel)
set_option maxRecDepth 100000 in
theorem wd_554 : Cond.methodLink RL 98 yL_tell ∈ z_tbl := z_mem 554 _ (by decide +kernel)
set_option maxRecDepth 100000 in
theorem wd_555 : Cond.static yL_tell ∈ z_tbl := z_mem 555 _ (by decide +kernel)
set_option maxRecDepth 100000 in
theorem wd_556 : Cond.code yL_tell cL_tell 4 (some .boolean) ∈ z_tbl := z_mem 556 _ (by decide +kernel)
set_option maxRecDepth 100000 in
theorem wd_557 : Cond.constantLong RL 35 (Int64.ofInt (1953654117)) ∈ z_tbl := z_mem 557 _ (by decide +kernel)
set_option maxRecDepth 100000 in
theorem wd_558 : Cond.methodLink RL 37 yL_word ∈ z_tbl := z_mem 558 _ (by decide +kernel)
set_option maxRecDepth 100000 in
theorem wd_559 : Cond.static yL_word ∈ z_tbl := z_mem 559 _ (by decide +kernel)
set_option maxRecDepth 100000 in
theorem wd_560 : Cond.code yL_word cL_word 5 none ∈ z_tbl := z_mem 560 _ (by decide +kernel)
set_option maxRecDepth 100000 in
theorem wd_561 : Cond.methodLink RL 11 yX9_feed ∈ z_tbl := z_mem 561 _ (by decide +kernel)
set_option maxRecDepth 100000 in
theorem wd_562 : Cond.instanceMethod yX9_feed ∈ z_tbl := z_mem 562 _ (by decide +kernel)
set_option maxRecDepth 100000 in
theorem wd_563 : Cond.selects yX9_feed.cls yX9_feed yX9_feed ∈ z_tbl := z_mem 563 _ (by decide +kernel)
set_option maxRecDepth 100000 in
theorem wd_564 : Cond.code yX9_feed cX9_feed 4 (some .int) ∈ z_tbl := z_mem 564 _ (by decide +kernel)
set_option maxRecDepth 100000 in
theorem wd_565 : Cond.methodLink RX9 114 yX4_addBytes ∈ z_tbl := z_mem 565 _ (by decide +kernel)
set_option maxRecDepth 100000 in
theorem wd_566 : Cond.instanceMethod yX4_addBytes ∈ z_tbl := z_mem 566 _ (by decide +kernel)
set_option maxRecDepth 100000 in
theorem wd_567 : Cond.selects yX4_addBytes.cls yX4_addBytes yX4_addBytes ∈ z_tbl := z_mem 567 _ (by decide +kernel)
set_option maxRecDepth 100000 in
theorem wd_568 : Cond.code yX4_addBytes cX4_addBytes 5 none ∈ z_tbl := z_mem 568 _ (by decide +kernel)
set_option maxRecDepth 100000 in
theorem wd_569 : Cond.methodLink RL 31 yL_tree ∈ z_tbl := z_mem 569 _ (by decide +kernel)
set_option maxRecDepth 100000 in
theorem wd_570 : Cond.static yL_tree ∈ z_tbl := z_mem 570 _ (by decide +kernel)
set_option maxRecDepth 100000 in
theorem wd_571 : Cond.code yL_tree cL_tree 4 (some .int) ∈ z_tbl := z_mem 571 _ (by decide +kernel)
set_option maxRecDepth 100000 in
theorem wd_572 : Cond.methodLink RL 41 yL_number ∈ z_tbl := z_mem 572 _ (by decide +kernel)
set_option maxRecDepth 100000 in
theorem wd_573 : Cond.static yL_number ∈ z_tbl := z_mem 573 _ (by decide +kernel)
set_option maxRecDepth 100000 in
theorem wd_574 : Cond.code yL_number cL_number 3 none ∈ z_tbl := z_mem 574 _ (by decide +kernel)
set_option maxRecDepth 100000 in
theorem wd_575 : Cond.constantLong RL 9 (Int64.ofInt (32)) ∈ z_tbl := z_mem 575 _ (by decide +kernel)
set_option maxRecDepth 100000 in
theorem wd_576 : Cond.constantLong RL 45 (Int64.ofInt (59)) ∈ z_tbl := z_mem 576 _ (by decide +kernel)
set_option maxRecDepth 100000 in
theorem wd_577 : Cond.constantLong RL 50 (Int64.ofInt (2003398244)) ∈ z_tbl := z_mem 577 _ (by decide +kernel)
set_option maxRecDepth 100000 in
theorem wd_578 : Cond.methodLink RL 52 yL_wind ∈ z_tbl := z_mem 578 _ (by decide +kernel)
set_option maxRecDepth 100000 in
theorem wd_579 : Cond.static yL_wind ∈ z_tbl := z_mem 579 _ (by decide +kernel)
set_option maxRecDepth 100000 in
theorem wd_580 : Cond.code yL_wind cL_wind 4 (some .int) ∈ z_tbl := z_mem 580 _ (by decide +kernel)
set_option maxRecDepth 100000 in
theorem wd_581 : Cond.methodLink RL 55 yL_tones ∈ z_tbl := z_mem 581 _ (by decide +kernel)
set_option maxRecDepth 100000 in
theorem wd_582 : Cond.static yL_tones ∈ z_tbl := z_mem 582 _ (by decide +kernel)
set_option maxRecDepth 100000 in
theorem wd_583 : Cond.code yL_tones cL_tones 1 (some .int) ∈ z_tbl := z_mem 583 _ (by decide +kernel)
set_option maxRecDepth 100000 in
theorem wd_584 : Cond.constantLong RL 58 (Int64.ofInt (1953853029)) ∈ z_tbl := z_mem 584 _ (by decide +kernel)
set_option maxRecDepth 100000 in
theorem wd_585 : Cond.methodLink RL 60 yL_tune ∈ z_tbl := z_mem 585 _ (by decide +kernel)
set_option maxRecDepth 100000 in
theorem wd_586 : Cond.static yL_tune ∈ z_tbl := z_mem 586 _ (by decide +kernel)
set_option maxRecDepth 100000 in
theorem wd_587 : Cond.code yL_tune cL_tune 4 (some .int) ∈ z_tbl := z_mem 587 _ (by decide +kernel)
set_option maxRecDepth 100000 in
theorem wd_588 : Cond.methodLink RL 63 yX9_wood ∈ z_tbl := z_mem 588 _ (by decide +kernel)
set_option maxRecDepth 100000 in
theorem wd_589 : Cond.instanceMethod yX9_wood ∈ z_tbl := z_mem 589 _ (by decide +kernel)
set_option maxRecDepth 100000 in
theorem wd_590 : Cond.selects yX9_wood.cls yX9_wood yX9_wood ∈ z_tbl := z_mem 590 _ (by decide +kernel)
set_option maxRecDepth 100000 in
theorem wd_591 : Cond.code yX9_wood cX9_wood 1 (some .int) ∈ z_tbl := z_mem 591 _ (by decide +kernel)
set_option maxRecDepth 100000 in
theorem wd_592 : Cond.methodLink RX9 118 yX4_readWood ∈ z_tbl := z_mem 592 _ (by decide +kernel)
set_option maxRecDepth 100000 in
theorem wd_593 : Cond.instanceMethod yX4_readWood ∈ z_tbl := z_mem 593 _ (by decide +kernel)
set_option maxRecDepth 100000 in
theorem wd_594 : Cond.selects yX4_readWood.cls yX4_readWood yX4_readWood ∈ z_tbl := z_mem 594 _ (by decide +kernel)
set_option maxRecDepth 100000 in
theorem wd_595 : Cond.code yX4_readWood cX4_readWood 4 none ∈ z_tbl := z_mem 595 _ (by decide +kernel)
set_option maxRecDepth 100000 in
theorem wd_596 : Cond.methodLink RX4 19 yX8_beginAnew ∈ z_tbl := z_mem 596 _ (by decide +kernel)
set_option maxRecDepth 100000 in
theorem wd_597 : Cond.instanceMethod yX8_beginAnew ∈ z_tbl := z_mem 597 _ (by decide +kernel)
set_option maxRecDepth 100000 in
theorem wd_598 : Cond.selects yX8_beginAnew.cls yX8_beginAnew yX8_beginAnew ∈ z_tbl := z_mem 598 _ (by decide +kernel)
set_option maxRecDepth 100000 in
theorem wd_599 : Cond.code yX8_beginAnew cX8_beginAnew 1 none ∈ z_tbl := z_mem 599 _ (by decide +kernel)
set_option maxRecDepth 100000 in
theorem wd_600 : Cond.methodLink RX4 31 yX4_readPart ∈ z_tbl := z_mem 600 _ (by decide +kernel)
set_option maxRecDepth 100000 in
theorem wd_602 : Cond.instanceMethod yX4_readPart ∈ z_tbl := z_mem 602 _ (by decide +kernel)
set_option maxRecDepth 100000 in
theorem wd_603 : Cond.code yX4_readPart cX4_readPart 4 (some .int) ∈ z_tbl := z_mem 603 _ (by decide +kernel)
set_option maxRecDepth 100000 in
theorem wd_605 : Cond.methodLink RX4 66 yX4_readTree ∈ z_tbl := z_mem 605 _ (by decide +kernel)
set_option maxRecDepth 100000 in
theorem wd_607 : Cond.instanceMethod yX4_readTree ∈ z_tbl := z_mem 607 _ (by decide +kernel)
set_option maxRecDepth 100000 in
theorem wd_608 : Cond.code yX4_readTree cX4_readTree 6 none ∈ z_tbl := z_mem 608 _ (by decide +kernel)
set_option maxRecDepth 100000 in
theorem wd_609 : Cond.methodLink RX4 100 yX6_add ∈ z_tbl := z_mem 609 _ (by decide +kernel)
set_option maxRecDepth 100000 in
theorem wd_610 : Cond.instanceMethod yX6_add ∈ z_tbl := z_mem 610 _ (by decide +kernel)
set_option maxRecDepth 100000 in
theorem wd_611 : Cond.selects yX6_add.cls yX6_add yX6_add ∈ z_tbl := z_mem 611 _ (by decide +kernel)
set_option maxRecDepth 100000 in
theorem wd_612 : Cond.code yX6_add cX6_add 5 none ∈ z_tbl := z_mem 612 _ (by decide +kernel)
set_option maxRecDepth 100000 in
theorem wd_614 : Cond.methodLink RX4 76 yX4_readWind ∈ z_tbl := z_mem 614 _ (by decide +kernel)
set_option maxRecDepth 100000 in
theorem wd_616 : Cond.instanceMethod yX4_readWind ∈ z_tbl := z_mem 616 _ (by decide +kernel)
set_option maxRecDepth 100000 in
theorem wd_617 : Cond.code yX4_readWind cX4_readWind 5 none ∈ z_tbl := z_mem 617 _ (by decide +kernel)
set_option maxRecDepth 100000 in
theorem wd_618 : Cond.methodLink RX4 107 yX7_add ∈ z_tbl := z_mem 618 _ (by decide +kernel)
set_option maxRecDepth 100000 in
theorem wd_619 : Cond.instanceMethod yX7_add ∈ z_tbl := z_mem 619 _ (by decide +kernel)
set_option maxRecDepth 100000 in
theorem wd_620 : Cond.selects yX7_add.cls yX7_add yX7_add ∈ z_tbl := z_mem 620 _ (by decide +kernel)
set_option maxRecDepth 100000 in
theorem wd_621 : Cond.code yX7_add cX7_add 4 none ∈ z_tbl := z_mem 621 _ (by decide +kernel)
set_option maxRecDepth 100000 in
theorem wd_623 : Cond.methodLink RX4 82 yX4_readTune ∈ z_tbl := z_mem 623 _ (by decide +kernel)
set_option maxRecDepth 100000 in
theorem wd_625 : Cond.instanceMethod yX4_readTune ∈ z_tbl := z_mem 625 _ (by decide +kernel)
set_option maxRecDepth 100000 in
theorem wd_626 : Cond.code yX4_readTune cX4_readTune 3 none ∈ z_tbl := z_mem 626 _ (by decide +kernel)
set_option maxRecDepth 100000 in
theorem wd_627 : Cond.methodLink RX4 110 yX8_addTone ∈ z_tbl := z_mem 627 _ (by decide +kernel)
set_option maxRecDepth 100000 in
theorem wd_628 : Cond.instanceMethod yX8_addTone ∈ z_tbl := z_mem 628 _ (by decide +kernel)
set_option maxRecDepth 100000 in
theorem wd_629 : Cond.selects yX8_addTone.cls yX8_addTone yX8_addTone ∈ z_tbl := z_mem 629 _ (by decide +kernel)
set_option maxRecDepth 100000 in
theorem wd_630 : Cond.code yX8_addTone cX8_addTone 2 none ∈ z_tbl := z_mem 630 _ (by decide +kernel)
set_option maxRecDepth 100000 in
theorem wd_631 : Cond.methodLink RX9 129 yX8_takeOver ∈ z_tbl := z_mem 631 _ (by decide +kernel)
set_option maxRecDepth 100000 in
theorem wd_632 : Cond.instanceMethod yX8_takeOver ∈ z_tbl := z_mem 632 _ (by decide +kernel)
set_option maxRecDepth 100000 in
theorem wd_633 : Cond.selects yX8_takeOver.cls yX8_takeOver yX8_takeOver ∈ z_tbl := z_mem 633 _ (by decide +kernel)
set_option maxRecDepth 100000 in
theorem wd_634 : Cond.code yX8_takeOver cX8_takeOver 2 none ∈ z_tbl := z_mem 634 _ (by decide +kernel)
set_option maxRecDepth 100000 in
theorem wd_635 : Cond.methodLink RX8 55 yX6_takeOver ∈ z_tbl := z_mem 635 _ (by decide +kernel)
set_option maxRecDepth 100000 in
theorem wd_636 : Cond.instanceMethod yX6_takeOver ∈ z_tbl := z_mem 636 _ (by decide +kernel)
set_option maxRecDepth 100000 in
theorem wd_637 : Cond.selects yX6_takeOver.cls yX6_takeOver yX6_takeOver ∈ z_tbl := z_mem 637 _ (by decide +kernel)
set_option maxRecDepth 100000 in
theorem wd_638 : Cond.code yX6_takeOver cX6_takeOver 2 none ∈ z_tbl := z_mem 638 _ (by decide +kernel)
set_option maxRecDepth 100000 in
theorem wd_639 : Cond.methodLink RX6 53 arraycopyName ∈ z_tbl := z_mem 639 _ (by decide +kernel)
set_option maxRecDepth 100000 in
theorem wd_640 : Cond.static arraycopyName ∈ z_tbl := z_mem 640 _ (by decide +kernel)
set_option maxRecDepth 100000 in
theorem wd_641 : Cond.native arraycopyName ∈ z_tbl := z_mem 641 _ (by decide +kernel)
set_option maxRecDepth 100000 in
theorem wd_642 : Cond.methodLink RX8 59 yX7_takeOver ∈ z_tbl := z_mem 642 _ (by decide +kernel)
set_option maxRecDepth 100000 in
theorem wd_643 : Cond.instanceMethod yX7_takeOver ∈ z_tbl := z_mem 643 _ (by decide +kernel)
set_option maxRecDepth 100000 in
theorem wd_644 : Cond.selects yX7_takeOver.cls yX7_takeOver yX7_takeOver ∈ z_tbl := z_mem 644 _ (by decide +kernel)
set_option maxRecDepth 100000 in
theorem wd_645 : Cond.code yX7_takeOver cX7_takeOver 2 none ∈ z_tbl := z_mem 645 _ (by decide +kernel)
set_option maxRecDepth 100000 in
theorem wd_646 : Cond.methodLink RX7 25 arraycopyName ∈ z_tbl := z_mem 646 _ (by decide +kernel)
set_option maxRecDepth 100000 in
theorem wd_647 : Cond.methodLink RX8 62 yX2_takeOver ∈ z_tbl := z_mem 647 _ (by decide +kernel)
set_option maxRecDepth 100000 in
theorem wd_648 : Cond.instanceMethod yX2_takeOver ∈ z_tbl := z_mem 648 _ (by decide +kernel)
set_option maxRecDepth 100000 in
theorem wd_649 : Cond.selects yX2_takeOver.cls yX2_takeOver yX2_takeOver ∈ z_tbl := z_mem 649 _ (by decide +kernel)
set_option maxRecDepth 100000 in
theorem wd_650 : Cond.code yX2_takeOver cX2_takeOver 2 none ∈ z_tbl := z_mem 650 _ (by decide +kernel)
set_option maxRecDepth 100000 in
theorem wd_651 : Cond.methodLink RX2 25 arraycopyName ∈ z_tbl := z_mem 651 _ (by decide +kernel)
set_option maxRecDepth 100000 in
theorem wd_652 : Cond.methodLink RX8 65 arraycopyName ∈ z_tbl := z_mem 652 _ (by decide +kernel)
set_option maxRecDepth 100000 in
theorem wd_653 : Cond.methodLink RL 102 yL_begins ∈ z_tbl := z_mem 653 _ (by decide +kernel)
set_option maxRecDepth 100000 in
theorem wd_654 : Cond.static yL_begins ∈ z_tbl := z_mem 654 _ (by decide +kernel)
set_option maxRecDepth 100000 in
theorem wd_655 : Cond.code yL_begins cL_begins 3 none ∈ z_tbl := z_mem 655 _ (by decide +kernel)
set_option maxRecDepth 100000 in
theorem wd_656 : Cond.methodLink RL 75 yL_tone ∈ z_tbl := z_mem 656 _ (by decide +kernel)
set_option maxRecDepth 100000 in
theorem wd_657 : Cond.static yL_tone ∈ z_tbl := z_mem 657 _ (by decide +kernel)
set_option maxRecDepth 100000 in
theorem wd_658 : Cond.code yL_tone cL_tone 3 (some .int) ∈ z_tbl := z_mem 658 _ (by decide +kernel)
set_option maxRecDepth 100000 in
theorem wd_659 : Cond.methodLink RL 129 yL_hears ∈ z_tbl := z_mem 659 _ (by decide +kernel)
set_option maxRecDepth 100000 in
theorem wd_660 : Cond.static yL_hears ∈ z_tbl := z_mem 660 _ (by decide +kernel)
set_option maxRecDepth 100000 in
theorem wd_661 : Cond.code yL_hears cL_hears 5 none ∈ z_tbl := z_mem 661 _ (by decide +kernel)
set_option maxRecDepth 100000 in
theorem wd_662 : Cond.methodLink RL 71 yL_sounds ∈ z_tbl := z_mem 662 _ (by decide +kernel)
set_option maxRecDepth 100000 in
theorem wd_663 : Cond.static yL_sounds ∈ z_tbl := z_mem 663 _ (by decide +kernel)
set_option maxRecDepth 100000 in
theorem wd_664 : Cond.code yL_sounds cL_sounds 5 (some .boolean) ∈ z_tbl := z_mem 664 _ (by decide +kernel)
set_option maxRecDepth 100000 in
theorem wd_665 : Cond.methodLink RL 121 yL_year ∈ z_tbl := z_mem 665 _ (by decide +kernel)
set_option maxRecDepth 100000 in
theorem wd_666 : Cond.static yL_year ∈ z_tbl := z_mem 666 _ (by decide +kernel)
set_option maxRecDepth 100000 in
theorem wd_667 : Cond.code yL_year cL_year 3 none ∈ z_tbl := z_mem 667 _ (by decide +kernel)
set_option maxRecDepth 100000 in
theorem wd_668 : Cond.methodLink RL 78 yL_fit ∈ z_tbl := z_mem 668 _ (by decide +kernel)
set_option maxRecDepth 100000 in
theorem wd_669 : Cond.static yL_fit ∈ z_tbl := z_mem 669 _ (by decide +kernel)
set_option maxRecDepth 100000 in
theorem wd_670 : Cond.code yL_fit cL_fit 1 (some .int) ∈ z_tbl := z_mem 670 _ (by decide +kernel)
set_option maxRecDepth 100000 in
theorem wd_671 : Cond.methodLink RL 106 yL_orders ∈ z_tbl := z_mem 671 _ (by decide +kernel)
set_option maxRecDepth 100000 in
theorem wd_672 : Cond.static yL_orders ∈ z_tbl := z_mem 672 _ (by decide +kernel)
set_option maxRecDepth 100000 in
theorem wd_673 : Cond.code yL_orders cL_orders 9 (some .int) ∈ z_tbl := z_mem 673 _ (by decide +kernel)
set_option maxRecDepth 100000 in
theorem wd_674 : Cond.constantLong RL 81 (Int64.ofInt (6518132)) ∈ z_tbl := z_mem 674 _ (by decide +kernel)
set_option maxRecDepth 100000 in
theorem wd_675 : Cond.constantLong RL 83 (Int64.ofInt (7103860)) ∈ z_tbl := z_mem 675 _ (by decide +kernel)
set_option maxRecDepth 100000 in
theorem wd_676 : Cond.constantLong RL 85 (Int64.ofInt (1953854062)) ∈ z_tbl := z_mem 676 _ (by decide +kernel)
set_option maxRecDepth 100000 in
theorem wd_677 : Cond.constantLong RL 87 (Int64.ofInt (6906725)) ∈ z_tbl := z_mem 677 _ (by decide +kernel)
set_option maxRecDepth 100000 in
theorem wd_678 : Cond.constantLong RL 89 (Int64.ofInt (1952997751)) ∈ z_tbl := z_mem 678 _ (by decide +kernel)
set_option maxRecDepth 100000 in
theorem wd_679 : Cond.constantLong RL 91 (Int64.ofInt (1717922924)) ∈ z_tbl := z_mem 679 _ (by decide +kernel)
set_option maxRecDepth 100000 in
theorem wd_680 : Cond.constantLong RL 93 (Int64.ofInt (7824756)) ∈ z_tbl := z_mem 680 _ (by decide +kernel)
set_option maxRecDepth 100000 in
theorem wd_681 : Cond.constantLong RL 95 (Int64.ofInt (6582905)) ∈ z_tbl := z_mem 681 _ (by decide +kernel)
set_option maxRecDepth 100000 in
theorem wd_682 : Cond.methodLink RL 114 yL_undoes ∈ z_tbl := z_mem 682 _ (by decide +kernel)
set_option maxRecDepth 100000 in
theorem wd_683 : Cond.static yL_undoes ∈ z_tbl := z_mem 683 _ (by decide +kernel)
set_option maxRecDepth 100000 in
theorem wd_684 : Cond.code yL_undoes cL_undoes 3 none ∈ z_tbl := z_mem 684 _ (by decide +kernel)
set_option maxRecDepth 100000 in
theorem wd_685 : Cond.constant RL 110 (Int32.ofInt (-1000100)) ∈ z_tbl := z_mem 685 _ (by decide +kernel)
set_option maxRecDepth 100000 in
theorem wd_686 : Cond.constant RL 113 (Int32.ofInt (-1000002)) ∈ z_tbl := z_mem 686 _ (by decide +kernel)
set_option maxRecDepth 100000 in
theorem wd_687 : Cond.constant RL 136 (Int32.ofInt (-1000000)) ∈ z_tbl := z_mem 687 _ (by decide +kernel)
set_option maxRecDepth 100000 in
theorem wd_688 : Cond.constant RL 137 (Int32.ofInt (-1000001)) ∈ z_tbl := z_mem 688 _ (by decide +kernel)
set_option maxRecDepth 100000 in
theorem wd_689 : Cond.fieldLink "java/lang/String" 9 "java/lang/String" "value" "[B" ∈ z_tbl := z_mem 689 _ (by decide +kernel)
set_option maxRecDepth 100000 in
theorem wd_690 : Cond.fieldLink "java/lang/String" 15 "java/lang/String" "coder" "B" ∈ z_tbl := z_mem 690 _ (by decide +kernel)
