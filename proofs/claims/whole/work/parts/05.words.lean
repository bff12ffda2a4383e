theorem z_mem (k : Nat) (w : Cond) (h : (match lw_tbl[k]? with | some v => decide (v = w) && goodWord w | none => false) = true) : w ∈ z_tbl := by
  cases e : lw_tbl[k]? with
  | none => rw [e] at h; cases h
  | some v =>
    rw [e] at h
    simp only [Bool.and_eq_true, decide_eq_true_eq] at h
    exact List.mem_filter.mpr ⟨h.1 ▸ List.mem_of_getElem? e, h.2⟩
theorem clw_X0 : ∀ w ∈ u_ws RX0 TX0 6, w ∈ z_tbl := by
  have h : (u_ws RX0 TX0 6).all (fun w => decide (w ∈ lw_tbl) && goodWord w) = true := by decide +kernel
  intro w hw
  have h1 := List.all_eq_true.mp h w hw
  simp only [Bool.and_eq_true, decide_eq_true_eq] at h1
  exact List.mem_filter.mpr h1
theorem cls_X0 : z_Cls 0 RX0 TX0 6 := ⟨by decide, rfl, clw_X0, ⟨tyX0, tyX0_ok⟩, nmX0, rfl⟩
theorem clw_X1 : ∀ w ∈ u_ws RX1 TX1 2, w ∈ z_tbl := by
  have h : (u_ws RX1 TX1 2).all (fun w => decide (w ∈ lw_tbl) && goodWord w) = true := by decide +kernel
  intro w hw
  have h1 := List.all_eq_true.mp h w hw
  simp only [Bool.and_eq_true, decide_eq_true_eq] at h1
  exact List.mem_filter.mpr h1
theorem cls_X1 : z_Cls 1 RX1 TX1 2 := ⟨by decide, rfl, clw_X1, ⟨tyX1, tyX1_ok⟩, nmX1, rfl⟩
theorem clw_X2 : ∀ w ∈ u_ws RX2 TX2 4, w ∈ z_tbl := by
  have h : (u_ws RX2 TX2 4).all (fun w => decide (w ∈ lw_tbl) && goodWord w) = true := by decide +kernel
  intro w hw
  have h1 := List.all_eq_true.mp h w hw
  simp only [Bool.and_eq_true, decide_eq_true_eq] at h1
  exact List.mem_filter.mpr h1
theorem cls_X2 : z_Cls 2 RX2 TX2 4 := ⟨by decide, rfl, clw_X2, ⟨tyX2, tyX2_ok⟩, nmX2, rfl⟩
theorem clw_X3 : ∀ w ∈ u_ws RX3 TX3 4, w ∈ z_tbl := by
  have h : (u_ws RX3 TX3 4).all (fun w => decide (w ∈ lw_tbl) && goodWord w) = true := by decide +kernel
  intro w hw
  have h1 := List.all_eq_true.mp h w hw
  simp only [Bool.and_eq_true, decide_eq_true_eq] at h1
  exact List.mem_filter.mpr h1
theorem cls_X3 : z_Cls 3 RX3 TX3 4 := ⟨by decide, rfl, clw_X3, ⟨tyX3, tyX3_ok⟩, nmX3, rfl⟩
theorem clw_X4 : ∀ w ∈ u_ws RX4 TX4 7, w ∈ z_tbl := by
  have h : (u_ws RX4 TX4 7).all (fun w => decide (w ∈ lw_tbl) && goodWord w) = true := by decide +kernel
  intro w hw
  have h1 := List.all_eq_true.mp h w hw
  simp only [Bool.and_eq_true, decide_eq_true_eq] at h1
  exact List.mem_filter.mpr h1
theorem cls_X4 : z_Cls 4 RX4 TX4 7 := ⟨by decide, rfl, clw_X4, ⟨tyX4, tyX4_ok⟩, nmX4, rfl⟩
theorem clw_X5 : ∀ w ∈ u_ws RX5 TX5 4, w ∈ z_tbl := by
  have h : (u_ws RX5 TX5 4).all (fun w => decide (w ∈ lw_tbl) && goodWord w) = true := by decide +kernel
  intro w hw
  have h1 := List.all_eq_true.mp h w hw
  simp only [Bool.and_eq_true, decide_eq_true_eq] at h1
  exact List.mem_filter.mpr h1
theorem cls_X5 : z_Cls 5 RX5 TX5 4 := ⟨by decide, rfl, clw_X5, ⟨tyX5, tyX5_ok⟩, nmX5, rfl⟩
theorem clw_X6 : ∀ w ∈ u_ws RX6 TX6 7, w ∈ z_tbl := by
  have h : (u_ws RX6 TX6 7).all (fun w => decide (w ∈ lw_tbl) && goodWord w) = true := by decide +kernel
  intro w hw
  have h1 := List.all_eq_true.mp h w hw
  simp only [Bool.and_eq_true, decide_eq_true_eq] at h1
  exact List.mem_filter.mpr h1
theorem cls_X6 : z_Cls 6 RX6 TX6 7 := ⟨by decide, rfl, clw_X6, ⟨tyX6, tyX6_ok⟩, nmX6, rfl⟩
theorem clw_X7 : ∀ w ∈ u_ws RX7 TX7 4, w ∈ z_tbl := by
  have h : (u_ws RX7 TX7 4).all (fun w => decide (w ∈ lw_tbl) && goodWord w) = true := by decide +kernel
  intro w hw
  have h1 := List.all_eq_true.mp h w hw
  simp only [Bool.and_eq_true, decide_eq_true_eq] at h1
  exact List.mem_filter.mpr h1
theorem cls_X7 : z_Cls 7 RX7 TX7 4 := ⟨by decide, rfl, clw_X7, ⟨tyX7, tyX7_ok⟩, nmX7, rfl⟩
theorem clw_X8 : ∀ w ∈ u_ws RX8 TX8 8, w ∈ z_tbl := by
  have h : (u_ws RX8 TX8 8).all (fun w => decide (w ∈ lw_tbl) && goodWord w) = true := by decide +kernel
  intro w hw
  have h1 := List.all_eq_true.mp h w hw
  simp only [Bool.and_eq_true, decide_eq_true_eq] at h1
  exact List.mem_filter.mpr h1
theorem cls_X8 : z_Cls 8 RX8 TX8 8 := ⟨by decide, rfl, clw_X8, ⟨tyX8, tyX8_ok⟩, nmX8, rfl⟩
theorem clw_X9 : ∀ w ∈ u_ws RX9 TX9 13, w ∈ z_tbl := by
  have h : (u_ws RX9 TX9 13).all (fun w => decide (w ∈ lw_tbl) && goodWord w) = true := by decide +kernel
  intro w hw
  have h1 := List.all_eq_true.mp h w hw
  simp only [Bool.and_eq_true, decide_eq_true_eq] at h1
  exact List.mem_filter.mpr h1
theorem cls_X9 : z_Cls 9 RX9 TX9 13 := ⟨by decide, rfl, clw_X9, ⟨tyX9, tyX9_ok⟩, nmX9, rfl⟩
theorem clw_X10 : ∀ w ∈ u_ws RX10 TX10 35, w ∈ z_tbl := by
  have h : (u_ws RX10 TX10 35).all (fun w => decide (w ∈ lw_tbl) && goodWord w) = true := by decide +kernel
  intro w hw
  have h1 := List.all_eq_true.mp h w hw
  simp only [Bool.and_eq_true, decide_eq_true_eq] at h1
  exact List.mem_filter.mpr h1
theorem cls_X10 : z_Cls 10 RX10 TX10 35 := ⟨by decide, rfl, clw_X10, ⟨tyX10, tyX10_ok⟩, nmX10, rfl⟩
set_option maxRecDepth 100000 in
theorem wd_0 : Cond.selects yX9_found.cls yX9_found yX9_found ∈ z_tbl := z_mem 0 _ (by decide +kernel)
set_option maxRecDepth 100000 in
theorem wd_1 : Cond.selects yX9_passed.cls yX9_passed yX9_passed ∈ z_tbl := z_mem 1 _ (by decide +kernel)
set_option maxRecDepth 100000 in
theorem wd_2 : Cond.selects yX4_begin.cls yX4_begin yX4_begin ∈ z_tbl := z_mem 2 _ (by decide +kernel)
set_option maxRecDepth 100000 in
theorem wd_3 : Cond.selects yX4_next.cls yX4_next yX4_next ∈ z_tbl := z_mem 3 _ (by decide +kernel)
set_option maxRecDepth 100000 in
theorem wd_4 : Cond.selects yX4_byteAt.cls yX4_byteAt yX4_byteAt ∈ z_tbl := z_mem 4 _ (by decide +kernel)
set_option maxRecDepth 100000 in
theorem wd_5 : Cond.selects yX4_isMore.cls yX4_isMore yX4_isMore ∈ z_tbl := z_mem 5 _ (by decide +kernel)
set_option maxRecDepth 100000 in
theorem wd_6 : Cond.selects yX4_readPart.cls yX4_readPart yX4_readPart ∈ z_tbl := z_mem 6 _ (by decide +kernel)
set_option maxRecDepth 100000 in
theorem wd_7 : Cond.selects yX4_isWord.cls yX4_isWord yX4_isWord ∈ z_tbl := z_mem 7 _ (by decide +kernel)
set_option maxRecDepth 100000 in
theorem wd_8 : Cond.selects yX4_readTree.cls yX4_readTree yX4_readTree ∈ z_tbl := z_mem 8 _ (by decide +kernel)
set_option maxRecDepth 100000 in
theorem wd_9 : Cond.selects yX4_fail.cls yX4_fail yX4_fail ∈ z_tbl := z_mem 9 _ (by decide +kernel)
set_option maxRecDepth 100000 in
theorem wd_10 : Cond.selects yX4_takeNumber.cls yX4_takeNumber yX4_takeNumber ∈ z_tbl := z_mem 10 _ (by decide +kernel)
set_option maxRecDepth 100000 in
theorem wd_11 : Cond.selects yX4_takeSign.cls yX4_takeSign yX4_takeSign ∈ z_tbl := z_mem 11 _ (by decide +kernel)
set_option maxRecDepth 100000 in
theorem wd_12 : Cond.selects yX4_readWind.cls yX4_readWind yX4_readWind ∈ z_tbl := z_mem 12 _ (by decide +kernel)
set_option maxRecDepth 100000 in
theorem wd_13 : Cond.selects yX4_readTune.cls yX4_readTune yX4_readTune ∈ z_tbl := z_mem 13 _ (by decide +kernel)
set_option maxRecDepth 100000 in
theorem wd_14 : Cond.selects yX9_faulted.cls yX9_faulted yX9_faulted ∈ z_tbl := z_mem 14 _ (by decide +kernel)
set_option maxRecDepth 100000 in
theorem wd_15 : Cond.selects yX4_readOrder.cls yX4_readOrder yX4_readOrder ∈ z_tbl := z_mem 15 _ (by decide +kernel)
set_option maxRecDepth 100000 in
theorem wd_16 : Cond.selects yX4_orderHere.cls yX4_orderHere yX4_orderHere ∈ z_tbl := z_mem 16 _ (by decide +kernel)
set_option maxRecDepth 100000 in
theorem wd_17 : Cond.selects yX8_carryOut.cls yX8_carryOut yX8_carryOut ∈ z_tbl := z_mem 17 _ (by decide +kernel)
set_option maxRecDepth 100000 in
theorem wd_18 : Cond.selects yX9_slipsIn.cls yX9_slipsIn yX9_slipsIn ∈ z_tbl := z_mem 18 _ (by decide +kernel)
set_option maxRecDepth 100000 in
theorem wd_19 : Cond.selects yX9_cheapestSteps.cls yX9_cheapestSteps yX9_cheapestSteps ∈ z_tbl := z_mem 19 _ (by decide +kernel)
set_option maxRecDepth 100000 in
theorem wd_20 : Cond.selects yX9_bestOfSum.cls yX9_bestOfSum yX9_bestOfSum ∈ z_tbl := z_mem 20 _ (by decide +kernel)
set_option maxRecDepth 100000 in
theorem wd_21 : Cond.selects yX3_isLeftBy.cls yX3_isLeftBy yX3_isLeftBy ∈ z_tbl := z_mem 21 _ (by decide +kernel)
set_option maxRecDepth 100000 in
theorem wd_22 : Cond.selects yX9_imageAt.cls yX9_imageAt yX9_imageAt ∈ z_tbl := z_mem 22 _ (by decide +kernel)
set_option maxRecDepth 100000 in
theorem wd_23 : Cond.selects yX9_kindIn.cls yX9_kindIn yX9_kindIn ∈ z_tbl := z_mem 23 _ (by decide +kernel)
set_option maxRecDepth 100000 in
theorem wd_24 : Cond.selects yX0_body11.cls yX0_body11 yX0_body11 ∈ z_tbl := z_mem 24 _ (by decide +kernel)
set_option maxRecDepth 100000 in
theorem wd_25 : Cond.selects yX0_leave.cls yX0_leave yX0_leave ∈ z_tbl := z_mem 25 _ (by decide +kernel)
set_option maxRecDepth 100000 in
theorem wd_26 : Cond.selects yX0_body10.cls yX0_body10 yX0_body10 ∈ z_tbl := z_mem 26 _ (by decide +kernel)
set_option maxRecDepth 100000 in
theorem wd_27 : Cond.selects yX0_body21.cls yX0_body21 yX0_body21 ∈ z_tbl := z_mem 27 _ (by decide +kernel)
set_option maxRecDepth 100000 in
theorem wd_28 : Cond.selects yX0_body20.cls yX0_body20 yX0_body20 ∈ z_tbl := z_mem 28 _ (by decide +kernel)
set_option maxRecDepth 100000 in
theorem wd_29 : Cond.selects yX0_body12.cls yX0_body12 yX0_body12 ∈ z_tbl := z_mem 29 _ (by decide +kernel)
set_option maxRecDepth 100000 in
theorem wd_30 : Cond.selects yX0_body13.cls yX0_body13 yX0_body13 ∈ z_tbl := z_mem 30 _ (by decide +kernel)
set_option maxRecDepth 100000 in
theorem wd_31 : Cond.selects yX0_body14.cls yX0_body14 yX0_body14 ∈ z_tbl := z_mem 31 _ (by decide +kernel)
set_option maxRecDepth 100000 in
theorem wd_32 : Cond.selects yX0_body22.cls yX0_body22 yX0_body22 ∈ z_tbl := z_mem 32 _ (by decide +kernel)
set_option maxRecDepth 100000 in
theorem wd_33 : Cond.selects yX0_body23.cls yX0_body23 yX0_body23 ∈ z_tbl := z_mem 33 _ (by decide +kernel)
set_option maxRecDepth 100000 in
theorem wd_34 : Cond.selects yX0_body24.cls yX0_body24 yX0_body24 ∈ z_tbl := z_mem 34 _ (by decide +kernel)
set_option maxRecDepth 100000 in
theorem wd_35 : Cond.selects yX10_finding.cls yX10_finding yX10_finding ∈ z_tbl := z_mem 35 _ (by decide +kernel)
set_option maxRecDepth 100000 in
theorem wd_36 : Cond.selects yX10_begin.cls yX10_begin yX10_begin ∈ z_tbl := z_mem 36 _ (by decide +kernel)
set_option maxRecDepth 100000 in
theorem wd_37 : Cond.selects yX10_next.cls yX10_next yX10_next ∈ z_tbl := z_mem 37 _ (by decide +kernel)
set_option maxRecDepth 100000 in
theorem wd_38 : Cond.selects yX10_byteAt.cls yX10_byteAt yX10_byteAt ∈ z_tbl := z_mem 38 _ (by decide +kernel)
set_option maxRecDepth 100000 in
theorem wd_39 : Cond.selects yX10_name.cls yX10_name yX10_name ∈ z_tbl := z_mem 39 _ (by decide +kernel)
set_option maxRecDepth 100000 in
theorem wd_40 : Cond.selects yX10_bad.cls yX10_bad yX10_bad ∈ z_tbl := z_mem 40 _ (by decide +kernel)
set_option maxRecDepth 100000 in
theorem wd_41 : Cond.selects yX10_readTree.cls yX10_readTree yX10_readTree ∈ z_tbl := z_mem 41 _ (by decide +kernel)
set_option maxRecDepth 100000 in
theorem wd_42 : Cond.selects yX10_begins.cls yX10_begins yX10_begins ∈ z_tbl := z_mem 42 _ (by decide +kernel)
set_option maxRecDepth 100000 in
theorem wd_43 : Cond.selects yX10_must.cls yX10_must yX10_must ∈ z_tbl := z_mem 43 _ (by decide +kernel)
set_option maxRecDepth 100000 in
theorem wd_44 : Cond.selects yX10_number.cls yX10_number yX10_number ∈ z_tbl := z_mem 44 _ (by decide +kernel)
set_option maxRecDepth 100000 in
theorem wd_45 : Cond.selects yX10_figures.cls yX10_figures yX10_figures ∈ z_tbl := z_mem 45 _ (by decide +kernel)
set_option maxRecDepth 100000 in
theorem wd_46 : Cond.selects yX10_mustEnd.cls yX10_mustEnd yX10_mustEnd ∈ z_tbl := z_mem 46 _ (by decide +kernel)
set_option maxRecDepth 100000 in
theorem wd_47 : Cond.selects yX10_readWind.cls yX10_readWind yX10_readWind ∈ z_tbl := z_mem 47 _ (by decide +kernel)
set_option maxRecDepth 100000 in
theorem wd_48 : Cond.selects yX10_readTune.cls yX10_readTune yX10_readTune ∈ z_tbl := z_mem 48 _ (by decide +kernel)
set_option maxRecDepth 100000 in
theorem wd_49 : Cond.selects yX10_readTone.cls yX10_readTone yX10_readTone ∈ z_tbl := z_mem 49 _ (by decide +kernel)
set_option maxRecDepth 100000 in
theorem wd_50 : Cond.selects yX10_ends.cls yX10_ends yX10_ends ∈ z_tbl := z_mem 50 _ (by decide +kernel)
set_option maxRecDepth 100000 in
theorem wd_51 : Cond.selects yX10_readOrder.cls yX10_readOrder yX10_readOrder ∈ z_tbl := z_mem 51 _ (by decide +kernel)
set_option maxRecDepth 100000 in
theorem wd_52 : Cond.selects yX10_does.cls yX10_does yX10_does ∈ z_tbl := z_mem 52 _ (by decide +kernel)
set_option maxRecDepth 100000 in
theorem wd_53 : Cond.selects yX10_lengthOf.cls yX10_lengthOf yX10_lengthOf ∈ z_tbl := z_mem 53 _ (by decide +kernel)
set_option maxRecDepth 100000 in
theorem wd_54 : Cond.selects yX10_layLengths.cls yX10_layLengths yX10_layLengths ∈ z_tbl := z_mem 54 _ (by decide +kernel)
set_option maxRecDepth 100000 in
theorem wd_55 : Cond.selects yX10_of.cls yX10_of yX10_of ∈ z_tbl := z_mem 55 _ (by decide +kernel)
set_option maxRecDepth 100000 in
theorem wd_56 : Cond.selects yX10_grow.cls yX10_grow yX10_grow ∈ z_tbl := z_mem 56 _ (by decide +kernel)
set_option maxRecDepth 100000 in
theorem wd_57 : Cond.selects yX10_isTree.cls yX10_isTree yX10_isTree ∈ z_tbl := z_mem 57 _ (by decide +kernel)
set_option maxRecDepth 100000 in
theorem wd_58 : Cond.selects yX10_tone.cls yX10_tone yX10_tone ∈ z_tbl := z_mem 58 _ (by decide +kernel)
set_option maxRecDepth 100000 in
theorem wd_59 : Cond.selects yX10_isWind.cls yX10_isWind yX10_isWind ∈ z_tbl := z_mem 59 _ (by decide +kernel)
set_option maxRecDepth 100000 in
theorem wd_60 : Cond.selects yX10_listen.cls yX10_listen yX10_listen ∈ z_tbl := z_mem 60 _ (by decide +kernel)
set_option maxRecDepth 100000 in
theorem wd_61 : Cond.selects yX10_sounds.cls yX10_sounds yX10_sounds ∈ z_tbl := z_mem 61 _ (by decide +kernel)
set_option maxRecDepth 100000 in
theorem wd_62 : Cond.selects yX10_slipsIn.cls yX10_slipsIn yX10_slipsIn ∈ z_tbl := z_mem 62 _ (by decide +kernel)
set_option maxRecDepth 100000 in
theorem wd_63 : Cond.selects yX10_slipsNow.cls yX10_slipsNow yX10_slipsNow ∈ z_tbl := z_mem 63 _ (by decide +kernel)
set_option maxRecDepth 100000 in
theorem wd_64 : Cond.selects yX10_layCuts.cls yX10_layCuts yX10_layCuts ∈ z_tbl := z_mem 64 _ (by decide +kernel)
set_option maxRecDepth 100000 in
theorem wd_65 : Cond.selects yX10_buzzNow.cls yX10_buzzNow yX10_buzzNow ∈ z_tbl := z_mem 65 _ (by decide +kernel)
set_option maxRecDepth 100000 in
theorem wd_66 : Cond.selects yX10_heardSet.cls yX10_heardSet yX10_heardSet ∈ z_tbl := z_mem 66 _ (by decide +kernel)
set_option maxRecDepth 100000 in
theorem wd_67 : Cond.selects yX10_isLeft.cls yX10_isLeft yX10_isLeft ∈ z_tbl := z_mem 67 _ (by decide +kernel)
set_option maxRecDepth 100000 in
theorem wd_68 : Cond.selects yX10_kindOf.cls yX10_kindOf yX10_kindOf ∈ z_tbl := z_mem 68 _ (by decide +kernel)
set_option maxRecDepth 100000 in
theorem wd_69 : Cond.selects yX10_sizeOf.cls yX10_sizeOf yX10_sizeOf ∈ z_tbl := z_mem 69 _ (by decide +kernel)
set_option maxRecDepth 100000 in
theorem wd_70 : Cond.selects yX10_muteSize.cls yX10_muteSize yX10_muteSize ∈ z_tbl := z_mem 70 _ (by decide +kernel)
set_option maxRecDepth 100000 in
theorem wd_71 : Cond.selects yX10_began.cls yX10_began yX10_began ∈ z_tbl := z_mem 71 _ (by decide +kernel)
set_option maxRecDepth 100000 in
theorem wd_72 : Cond.selects yX10_plainSize.cls yX10_plainSize yX10_plainSize ∈ z_tbl := z_mem 72 _ (by decide +kernel)
set_option maxRecDepth 100000 in
theorem wd_73 : Cond.selects yX10_markOf.cls yX10_markOf yX10_markOf ∈ z_tbl := z_mem 73 _ (by decide +kernel)
set_option maxRecDepth 100000 in
theorem wd_75 : Cond.initialized "WindHarp" ∈ z_tbl := z_mem 75 _ (by decide +kernel)
set_option maxRecDepth 100000 in
theorem wd_76 : Cond.initialized "WindHarp$Reader" ∈ z_tbl := z_mem 76 _ (by decide +kernel)
set_option maxRecDepth 100000 in
theorem wd_77 : Cond.initialized "WindHarp$Rows" ∈ z_tbl := z_mem 77 _ (by decide +kernel)
set_option maxRecDepth 100000 in
theorem wd_78 : Cond.initialized "WindHarp$Wood" ∈ z_tbl := z_mem 78 _ (by decide +kernel)
set_option maxRecDepth 100000 in
theorem wd_79 : Cond.initialized "WindHarp$Trees" ∈ z_tbl := z_mem 79 _ (by decide +kernel)
set_option maxRecDepth 100000 in
theorem wd_80 : Cond.initialized "WindHarp$Winds" ∈ z_tbl := z_mem 80 _ (by decide +kernel)
set_option maxRecDepth 100000 in
theorem wd_81 : Cond.initialized "WindHarp$Deeds" ∈ z_tbl := z_mem 81 _ (by decide +kernel)
set_option maxRecDepth 100000 in
theorem wd_82 : Cond.initialized "WindHarp$Ear" ∈ z_tbl := z_mem 82 _ (by decide +kernel)
set_option maxRecDepth 100000 in
theorem wd_83 : Cond.initialized "WindHarp$Cuts" ∈ z_tbl := z_mem 83 _ (by decide +kernel)
set_option maxRecDepth 100000 in
theorem wd_84 : Cond.initialized "WindHarp$Asks" ∈ z_tbl := z_mem 84 _ (by decide +kernel)
set_option maxRecDepth 100000 in
theorem wd_85 : Cond.initialized "WindHarpModel" ∈ z_tbl := z_mem 85 _ (by decide +kernel)
set_option maxRecDepth 100000 in
theorem wd_86 : Cond.initialized "java/lang/System" ∈ z_tbl := z_mem 86 _ (by decide +kernel)
set_option maxRecDepth 100000 in
theorem wd_87 : Cond.initialized "java/lang/String" ∈ z_tbl := z_mem 87 _ (by decide +kernel)
set_option maxRecDepth 100000 in
theorem wd_88 : Cond.initialized "java/lang/StringLatin1" ∈ z_tbl := z_mem 88 _ (by decide +kernel)
set_option maxRecDepth 100000 in
theorem wd_89 : Cond.initialized "jdk/internal/util/Preconditions" ∈ z_tbl := z_mem 89 _ (by decide +kernel)
set_option maxRecDepth 100000 in
theorem wd_91 : Cond.initialized "java/lang/Math" ∈ z_tbl := z_mem 91 _ (by decide +kernel)
set_option maxRecDepth 100000 in
theorem wd_92 : Cond.initialized "java/lang/Integer" ∈ z_tbl := z_mem 92 _ (by decide +kernel)
set_option maxRecDepth 100000 in
theorem wd_107 : Cond.fieldLink RX4 9 (TX4 0).1 (TX4 0).2.1 (TX4 0).2.2.1 ∈ z_tbl := z_mem 107 _ (by decide +kernel)
set_option maxRecDepth 100000 in
theorem wd_108 : Cond.fieldLink RX4 15 (TX4 1).1 (TX4 1).2.1 (TX4 1).2.2.1 ∈ z_tbl := z_mem 108 _ (by decide +kernel)
set_option maxRecDepth 100000 in
theorem wd_109 : Cond.fieldLink RX9 109 (TX4 1).1 (TX4 1).2.1 (TX4 1).2.2.1 ∈ z_tbl := z_mem 109 _ (by decide +kernel)
set_option maxRecDepth 100000 in
theorem wd_110 : Cond.fieldLink RX4 144 (TX4 2).1 (TX4 2).2.1 (TX4 2).2.2.1 ∈ z_tbl := z_mem 110 _ (by decide +kernel)
set_option maxRecDepth 100000 in
theorem wd_111 : Cond.fieldLink RX9 301 (TX4 2).1 (TX4 2).2.1 (TX4 2).2.2.1 ∈ z_tbl := z_mem 111 _ (by decide +kernel)
set_option maxRecDepth 100000 in
theorem wd_112 : Cond.fieldLink RX4 47 (TX4 3).1 (TX4 3).2.1 (TX4 3).2.2.1 ∈ z_tbl := z_mem 112 _ (by decide +kernel)
set_option maxRecDepth 100000 in
theorem wd_113 : Cond.fieldLink RX9 122 (TX4 3).1 (TX4 3).2.1 (TX4 3).2.2.1 ∈ z_tbl := z_mem 113 _ (by decide +kernel)
set_option maxRecDepth 100000 in
theorem wd_114 : Cond.fieldLink RX4 44 (TX4 4).1 (TX4 4).2.1 (TX4 4).2.2.1 ∈ z_tbl := z_mem 114 _ (by decide +kernel)
set_option maxRecDepth 100000 in
theorem wd_115 : Cond.fieldLink RX4 53 (TX4 5).1 (TX4 5).2.1 (TX4 5).2.2.1 ∈ z_tbl := z_mem 115 _ (by decide +kernel)
set_option maxRecDepth 100000 in
theorem wd_116 : Cond.fieldLink RX4 141 (TX4 6).1 (TX4 6).2.1 (TX4 6).2.2.1 ∈ z_tbl := z_mem 116 _ (by decide +kernel)
set_option maxRecDepth 100000 in
theorem wd_139 : Cond.fieldLink RX5 9 (TX5 0).1 (TX5 0).2.1 (TX5 0).2.2.1 ∈ z_tbl := z_mem 139 _ (by decide +kernel)
set_option maxRecDepth 100000 in
theorem wd_140 : Cond.fieldLink RX5 13 (TX5 1).1 (TX5 1).2.1 (TX5 1).2.2.1 ∈ z_tbl := z_mem 140 _ (by decide +kernel)
set_option maxRecDepth 100000 in
theorem wd_141 : Cond.fieldLink RX5 17 (TX5 2).1 (TX5 2).2.1 (TX5 2).2.2.1 ∈ z_tbl := z_mem 141 _ (by decide +kernel)
set_option maxRecDepth 100000 in
theorem wd_142 : Cond.fieldLink RX5 20 (TX5 3).1 (TX5 3).2.1 (TX5 3).2.2.1 ∈ z_tbl := z_mem 142 _ (by decide +kernel)
set_option maxRecDepth 100000 in
theorem wd_166 : Cond.fieldLink RX6 9 (TX6 0).1 (TX6 0).2.1 (TX6 0).2.2.1 ∈ z_tbl := z_mem 166 _ (by decide +kernel)
set_option maxRecDepth 100000 in
theorem wd_167 : Cond.fieldLink RX1 36 (TX6 0).1 (TX6 0).2.1 (TX6 0).2.2.1 ∈ z_tbl := z_mem 167 _ (by decide +kernel)
set_option maxRecDepth 100000 in
theorem wd_168 : Cond.fieldLink RX8 78 (TX6 0).1 (TX6 0).2.1 (TX6 0).2.2.1 ∈ z_tbl := z_mem 168 _ (by decide +kernel)
set_option maxRecDepth 100000 in
theorem wd_169 : Cond.fieldLink RX9 173 (TX6 0).1 (TX6 0).2.1 (TX6 0).2.2.1 ∈ z_tbl := z_mem 169 _ (by decide +kernel)
set_option maxRecDepth 100000 in
theorem wd_170 : Cond.fieldLink RX6 15 (TX6 1).1 (TX6 1).2.1 (TX6 1).2.2.1 ∈ z_tbl := z_mem 170 _ (by decide +kernel)
set_option maxRecDepth 100000 in
theorem wd_171 : Cond.fieldLink RX8 75 (TX6 1).1 (TX6 1).2.1 (TX6 1).2.2.1 ∈ z_tbl := z_mem 171 _ (by decide +kernel)
set_option maxRecDepth 100000 in
theorem wd_172 : Cond.fieldLink RX9 176 (TX6 1).1 (TX6 1).2.1 (TX6 1).2.2.1 ∈ z_tbl := z_mem 172 _ (by decide +kernel)
set_option maxRecDepth 100000 in
theorem wd_173 : Cond.fieldLink RX6 18 (TX6 2).1 (TX6 2).2.1 (TX6 2).2.2.1 ∈ z_tbl := z_mem 173 _ (by decide +kernel)
set_option maxRecDepth 100000 in
theorem wd_174 : Cond.fieldLink RX8 92 (TX6 2).1 (TX6 2).2.1 (TX6 2).2.2.1 ∈ z_tbl := z_mem 174 _ (by decide +kernel)
set_option maxRecDepth 100000 in
theorem wd_175 : Cond.fieldLink RX9 179 (TX6 2).1 (TX6 2).2.1 (TX6 2).2.2.1 ∈ z_tbl := z_mem 175 _ (by decide +kernel)
set_option maxRecDepth 100000 in
theorem wd_176 : Cond.fieldLink RX6 21 (TX6 3).1 (TX6 3).2.1 (TX6 3).2.2.1 ∈ z_tbl := z_mem 176 _ (by decide +kernel)
set_option maxRecDepth 100000 in
theorem wd_177 : Cond.fieldLink RX9 182 (TX6 3).1 (TX6 3).2.1 (TX6 3).2.2.1 ∈ z_tbl := z_mem 177 _ (by decide +kernel)
set_option maxRecDepth 100000 in
theorem wd_178 : Cond.fieldLink RX6 24 (TX6 4).1 (TX6 4).2.1 (TX6 4).2.2.1 ∈ z_tbl := z_mem 178 _ (by decide +kernel)
set_option maxRecDepth 100000 in
theorem wd_179 : Cond.fieldLink RX8 89 (TX6 4).1 (TX6 4).2.1 (TX6 4).2.2.1 ∈ z_tbl := z_mem 179 _ (by decide +kernel)
set_option maxRecDepth 100000 in
theorem wd_180 : Cond.fieldLink RX9 185 (TX6 4).1 (TX6 4).2.1 (TX6 4).2.2.1 ∈ z_tbl := z_mem 180 _ (by decide +kernel)
set_option maxRecDepth 100000 in
theorem wd_181 : Cond.fieldLink RX6 27 (TX6 5).1 (TX6 5).2.1 (TX6 5).2.2.1 ∈ z_tbl := z_mem 181 _ (by decide +kernel)
set_option maxRecDepth 100000 in
theorem wd_182 : Cond.fieldLink RX8 86 (TX6 5).1 (TX6 5).2.1 (TX6 5).2.2.1 ∈ z_tbl := z_mem 182 _ (by decide +kernel)
set_option maxRecDepth 100000 in
theorem wd_183 : Cond.fieldLink RX9 188 (TX6 5).1 (TX6 5).2.1 (TX6 5).2.2.1 ∈ z_tbl := z_mem 183 _ (by decide +kernel)
set_option maxRecDepth 100000 in
theorem wd_184 : Cond.fieldLink RX8 36 (TX6 6).1 (TX6 6).2.1 (TX6 6).2.2.1 ∈ z_tbl := z_mem 184 _ (by decide +kernel)
set_option maxRecDepth 100000 in
theorem wd_185 : Cond.fieldLink RX6 30 (TX6 6).1 (TX6 6).2.1 (TX6 6).2.2.1 ∈ z_tbl := z_mem 185 _ (by decide +kernel)
set_option maxRecDepth 100000 in
theorem wd_186 : Cond.fieldLink RX3 30 (TX6 6).1 (TX6 6).2.1 (TX6 6).2.2.1 ∈ z_tbl := z_mem 186 _ (by decide +kernel)
set_option maxRecDepth 100000 in
theorem wd_187 : Cond.fieldLink RX9 136 (TX6 6).1 (TX6 6).2.1 (TX6 6).2.2.1 ∈ z_tbl := z_mem 187 _ (by decide +kernel)
set_option maxRecDepth 100000 in
theorem wd_188 : Cond.fieldLink RX4 90 (TX6 6).1 (TX6 6).2.1 (TX6 6).2.2.1 ∈ z_tbl := z_mem 188 _ (by decide +kernel)
set_option maxRecDepth 100000 in
theorem wd_210 : Cond.fieldLink RX7 9 (TX7 0).1 (TX7 0).2.1 (TX7 0).2.2.1 ∈ z_tbl := z_mem 210 _ (by decide +kernel)
set_option maxRecDepth 100000 in
theorem wd_211 : Cond.fieldLink RX8 95 (TX7 0).1 (TX7 0).2.1 (TX7 0).2.2.1 ∈ z_tbl := z_mem 211 _ (by decide +kernel)
set_option maxRecDepth 100000 in
theorem wd_212 : Cond.fieldLink RX7 15 (TX7 1).1 (TX7 1).2.1 (TX7 1).2.2.1 ∈ z_tbl := z_mem 212 _ (by decide +kernel)
set_option maxRecDepth 100000 in
theorem wd_213 : Cond.fieldLink RX8 102 (TX7 1).1 (TX7 1).2.1 (TX7 1).2.2.1 ∈ z_tbl := z_mem 213 _ (by decide +kernel)
set_option maxRecDepth 100000 in
theorem wd_214 : Cond.fieldLink RX7 18 (TX7 2).1 (TX7 2).2.1 (TX7 2).2.2.1 ∈ z_tbl := z_mem 214 _ (by decide +kernel)
set_option maxRecDepth 100000 in
theorem wd_215 : Cond.fieldLink RX9 232 (TX7 2).1 (TX7 2).2.1 (TX7 2).2.2.1 ∈ z_tbl := z_mem 215 _ (by decide +kernel)
set_option maxRecDepth 100000 in
theorem wd_216 : Cond.fieldLink RX7 21 (TX7 3).1 (TX7 3).2.1 (TX7 3).2.2.1 ∈ z_tbl := z_mem 216 _ (by decide +kernel)
set_option maxRecDepth 100000 in
theorem wd_217 : Cond.fieldLink RX8 40 (TX7 3).1 (TX7 3).2.1 (TX7 3).2.2.1 ∈ z_tbl := z_mem 217 _ (by decide +kernel)
set_option maxRecDepth 100000 in
theorem wd_218 : Cond.fieldLink RX4 104 (TX7 3).1 (TX7 3).2.1 (TX7 3).2.2.1 ∈ z_tbl := z_mem 218 _ (by decide +kernel)
set_option maxRecDepth 100000 in
theorem wd_219 : Cond.fieldLink RX9 231 (TX7 3).1 (TX7 3).2.1 (TX7 3).2.2.1 ∈ z_tbl := z_mem 219 _ (by decide +kernel)
set_option maxRecDepth 100000 in
theorem wd_235 : Cond.fieldLink RX2 9 (TX2 0).1 (TX2 0).2.1 (TX2 0).2.2.1 ∈ z_tbl := z_mem 235 _ (by decide +kernel)
set_option maxRecDepth 100000 in
theorem wd_236 : Cond.fieldLink RX8 109 (TX2 0).1 (TX2 0).2.1 (TX2 0).2.2.1 ∈ z_tbl := z_mem 236 _ (by decide +kernel)
set_option maxRecDepth 100000 in
theorem wd_237 : Cond.fieldLink RX2 15 (TX2 1).1 (TX2 1).2.1 (TX2 1).2.2.1 ∈ z_tbl := z_mem 237 _ (by decide +kernel)
set_option maxRecDepth 100000 in
theorem wd_238 : Cond.fieldLink RX8 112 (TX2 1).1 (TX2 1).2.1 (TX2 1).2.2.1 ∈ z_tbl := z_mem 238 _ (by decide +kernel)
set_option maxRecDepth 100000 in
theorem wd_239 : Cond.fieldLink RX2 18 (TX2 2).1 (TX2 2).2.1 (TX2 2).2.2.1 ∈ z_tbl := z_mem 239 _ (by decide +kernel)
set_option maxRecDepth 100000 in
theorem wd_240 : Cond.fieldLink RX8 115 (TX2 2).1 (TX2 2).2.1 (TX2 2).2.2.1 ∈ z_tbl := z_mem 240 _ (by decide +kernel)
set_option maxRecDepth 100000 in
theorem wd_241 : Cond.fieldLink RX2 21 (TX2 3).1 (TX2 3).2.1 (TX2 3).2.2.1 ∈ z_tbl := z_mem 241 _ (by decide +kernel)
set_option maxRecDepth 100000 in
theorem wd_242 : Cond.fieldLink RX8 41 (TX2 3).1 (TX2 3).2.1 (TX2 3).2.2.1 ∈ z_tbl := z_mem 242 _ (by decide +kernel)
set_option maxRecDepth 100000 in
theorem wd_243 : Cond.fieldLink RX4 35 (TX2 3).1 (TX2 3).2.1 (TX2 3).2.2.1 ∈ z_tbl := z_mem 243 _ (by decide +kernel)
set_option maxRecDepth 100000 in
theorem wd_244 : Cond.fieldLink RX9 149 (TX2 3).1 (TX2 3).2.1 (TX2 3).2.2.1 ∈ z_tbl := z_mem 244 _ (by decide +kernel)
set_option maxRecDepth 100000 in
theorem wd_254 : Cond.fieldLink RX8 12 (TX8 0).1 (TX8 0).2.1 (TX8 0).2.2.1 ∈ z_tbl := z_mem 254 _ (by decide +kernel)
set_option maxRecDepth 100000 in
theorem wd_255 : Cond.fieldLink RX3 25 (TX8 0).1 (TX8 0).2.1 (TX8 0).2.2.1 ∈ z_tbl := z_mem 255 _ (by decide +kernel)
set_option maxRecDepth 100000 in
theorem wd_256 : Cond.fieldLink RX1 25 (TX8 0).1 (TX8 0).2.1 (TX8 0).2.2.1 ∈ z_tbl := z_mem 256 _ (by decide +kernel)
set_option maxRecDepth 100000 in
theorem wd_257 : Cond.fieldLink RX4 62 (TX8 0).1 (TX8 0).2.1 (TX8 0).2.2.1 ∈ z_tbl := z_mem 257 _ (by decide +kernel)
set_option maxRecDepth 100000 in
theorem wd_258 : Cond.fieldLink RX9 132 (TX8 0).1 (TX8 0).2.1 (TX8 0).2.2.1 ∈ z_tbl := z_mem 258 _ (by decide +kernel)
set_option maxRecDepth 100000 in
theorem wd_259 : Cond.fieldLink RX8 21 (TX8 1).1 (TX8 1).2.1 (TX8 1).2.2.1 ∈ z_tbl := z_mem 259 _ (by decide +kernel)
set_option maxRecDepth 100000 in
theorem wd_260 : Cond.fieldLink RX4 72 (TX8 1).1 (TX8 1).2.1 (TX8 1).2.2.1 ∈ z_tbl := z_mem 260 _ (by decide +kernel)
set_option maxRecDepth 100000 in
theorem wd_261 : Cond.fieldLink RX9 194 (TX8 1).1 (TX8 1).2.1 (TX8 1).2.2.1 ∈ z_tbl := z_mem 261 _ (by decide +kernel)
set_option maxRecDepth 100000 in
theorem wd_262 : Cond.fieldLink RX8 28 (TX8 2).1 (TX8 2).2.1 (TX8 2).2.2.1 ∈ z_tbl := z_mem 262 _ (by decide +kernel)
set_option maxRecDepth 100000 in
theorem wd_263 : Cond.fieldLink RX9 150 (TX8 2).1 (TX8 2).2.1 (TX8 2).2.2.1 ∈ z_tbl := z_mem 263 _ (by decide +kernel)
set_option maxRecDepth 100000 in
theorem wd_264 : Cond.fieldLink RX8 32 (TX8 3).1 (TX8 3).2.1 (TX8 3).2.2.1 ∈ z_tbl := z_mem 264 _ (by decide +kernel)
set_option maxRecDepth 100000 in
theorem wd_265 : Cond.fieldLink RX9 304 (TX8 3).1 (TX8 3).2.1 (TX8 3).2.2.1 ∈ z_tbl := z_mem 265 _ (by decide +kernel)
set_option maxRecDepth 100000 in
theorem wd_266 : Cond.fieldLink RX8 42 (TX8 4).1 (TX8 4).2.1 (TX8 4).2.2.1 ∈ z_tbl := z_mem 266 _ (by decide +kernel)
set_option maxRecDepth 100000 in
theorem wd_267 : Cond.fieldLink RX4 113 (TX8 4).1 (TX8 4).2.1 (TX8 4).2.2.1 ∈ z_tbl := z_mem 267 _ (by decide +kernel)
set_option maxRecDepth 100000 in
theorem wd_268 : Cond.fieldLink RX9 290 (TX8 4).1 (TX8 4).2.1 (TX8 4).2.2.1 ∈ z_tbl := z_mem 268 _ (by decide +kernel)
set_option maxRecDepth 100000 in
theorem wd_269 : Cond.fieldLink RX8 45 (TX8 5).1 (TX8 5).2.1 (TX8 5).2.2.1 ∈ z_tbl := z_mem 269 _ (by decide +kernel)
set_option maxRecDepth 100000 in
theorem wd_270 : Cond.fieldLink RX9 167 (TX8 5).1 (TX8 5).2.1 (TX8 5).2.2.1 ∈ z_tbl := z_mem 270 _ (by decide +kernel)
set_option maxRecDepth 100000 in
theorem wd_271 : Cond.fieldLink RX8 48 (TX8 6).1 (TX8 6).2.1 (TX8 6).2.2.1 ∈ z_tbl := z_mem 271 _ (by decide +kernel)
set_option maxRecDepth 100000 in
theorem wd_272 : Cond.fieldLink RX9 293 (TX8 6).1 (TX8 6).2.1 (TX8 6).2.2.1 ∈ z_tbl := z_mem 272 _ (by decide +kernel)
set_option maxRecDepth 100000 in
theorem wd_273 : Cond.fieldLink RX8 51 (TX8 7).1 (TX8 7).2.1 (TX8 7).2.2.1 ∈ z_tbl := z_mem 273 _ (by decide +kernel)
set_option maxRecDepth 100000 in
theorem wd_274 : Cond.fieldLink RX9 141 (TX8 7).1 (TX8 7).2.1 (TX8 7).2.2.1 ∈ z_tbl := z_mem 274 _ (by decide +kernel)
set_option maxRecDepth 100000 in
theorem wd_300 : Cond.fieldLink RX3 9 (TX3 0).1 (TX3 0).2.1 (TX3 0).2.2.1 ∈ z_tbl := z_mem 300 _ (by decide +kernel)
set_option maxRecDepth 100000 in
theorem wd_301 : Cond.fieldLink RX9 206 (TX3 0).1 (TX3 0).2.1 (TX3 0).2.2.1 ∈ z_tbl := z_mem 301 _ (by decide +kernel)
set_option maxRecDepth 100000 in
theorem wd_302 : Cond.fieldLink RX3 15 (TX3 1).1 (TX3 1).2.1 (TX3 1).2.2.1 ∈ z_tbl := z_mem 302 _ (by decide +kernel)
set_option maxRecDepth 100000 in
theorem wd_303 : Cond.fieldLink RX1 22 (TX3 1).1 (TX3 1).2.1 (TX3 1).2.2.1 ∈ z_tbl := z_mem 303 _ (by decide +kernel)
set_option maxRecDepth 100000 in
theorem wd_304 : Cond.fieldLink RX3 18 (TX3 2).1 (TX3 2).2.1 (TX3 2).2.2.1 ∈ z_tbl := z_mem 304 _ (by decide +kernel)
set_option maxRecDepth 100000 in
theorem wd_305 : Cond.fieldLink RX3 21 (TX3 3).1 (TX3 3).2.1 (TX3 3).2.2.1 ∈ z_tbl := z_mem 305 _ (by decide +kernel)
set_option maxRecDepth 100000 in
theorem wd_306 : Cond.fieldLink RX1 19 (TX3 3).1 (TX3 3).2.1 (TX3 3).2.2.1 ∈ z_tbl := z_mem 306 _ (by decide +kernel)
set_option maxRecDepth 100000 in
theorem wd_307 : Cond.fieldLink RX9 205 (TX3 3).1 (TX3 3).2.1 (TX3 3).2.2.1 ∈ z_tbl := z_mem 307 _ (by decide +kernel)
set_option maxRecDepth 100000 in
theorem wd_323 : Cond.fieldLink RX1 11 (TX1 0).1 (TX1 0).2.1 (TX1 0).2.2.1 ∈ z_tbl := z_mem 323 _ (by decide +kernel)
set_option maxRecDepth 100000 in
theorem wd_324 : Cond.fieldLink RX1 15 (TX1 1).1 (TX1 1).2.1 (TX1 1).2.2.1 ∈ z_tbl := z_mem 324 _ (by decide +kernel)
set_option maxRecDepth 100000 in
theorem wd_336 : Cond.fieldLink RX0 11 (TX0 0).1 (TX0 0).2.1 (TX0 0).2.2.1 ∈ z_tbl := z_mem 336 _ (by decide +kernel)
set_option maxRecDepth 100000 in
theorem wd_337 : Cond.fieldLink RX9 284 (TX0 0).1 (TX0 0).2.1 (TX0 0).2.2.1 ∈ z_tbl := z_mem 337 _ (by decide +kernel)
set_option maxRecDepth 100000 in
theorem wd_338 : Cond.fieldLink RX0 15 (TX0 1).1 (TX0 1).2.1 (TX0 1).2.2.1 ∈ z_tbl := z_mem 338 _ (by decide +kernel)
set_option maxRecDepth 100000 in
theorem wd_339 : Cond.fieldLink RX9 283 (TX0 1).1 (TX0 1).2.1 (TX0 1).2.2.1 ∈ z_tbl := z_mem 339 _ (by decide +kernel)
set_option maxRecDepth 100000 in
theorem wd_340 : Cond.fieldLink RX0 19 (TX0 2).1 (TX0 2).2.1 (TX0 2).2.2.1 ∈ z_tbl := z_mem 340 _ (by decide +kernel)
set_option maxRecDepth 100000 in
theorem wd_341 : Cond.fieldLink RX0 22 (TX0 3).1 (TX0 3).2.1 (TX0 3).2.2.1 ∈ z_tbl := z_mem 341 _ (by decide +kernel)
set_option maxRecDepth 100000 in
theorem wd_342 : Cond.fieldLink RX0 25 (TX0 4).1 (TX0 4).2.1 (TX0 4).2.2.1 ∈ z_tbl := z_mem 342 _ (by decide +kernel)
set_option maxRecDepth 100000 in
theorem wd_343 : Cond.fieldLink RX0 28 (TX0 5).1 (TX0 5).2.1 (TX0 5).2.2.1 ∈ z_tbl := z_mem 343 _ (by decide +kernel)
set_option maxRecDepth 100000 in
theorem wd_357 : Cond.fieldLink RX9 10 (TX9 0).1 (TX9 0).2.1 (TX9 0).2.2.1 ∈ z_tbl := z_mem 357 _ (by decide +kernel)
set_option maxRecDepth 100000 in
theorem wd_358 : Cond.fieldLink RX9 19 (TX9 1).1 (TX9 1).2.1 (TX9 1).2.2.1 ∈ z_tbl := z_mem 358 _ (by decide +kernel)
set_option maxRecDepth 100000 in
theorem wd_359 : Cond.fieldLink RX9 26 (TX9 2).1 (TX9 2).2.1 (TX9 2).2.2.1 ∈ z_tbl := z_mem 359 _ (by decide +kernel)
set_option maxRecDepth 100000 in
theorem wd_360 : Cond.fieldLink RX9 30 (TX9 3).1 (TX9 3).2.1 (TX9 3).2.2.1 ∈ z_tbl := z_mem 360 _ (by decide +kernel)
set_option maxRecDepth 100000 in
theorem wd_361 : Cond.fieldLink RX9 33 (TX9 4).1 (TX9 4).2.1 (TX9 4).2.2.1 ∈ z_tbl := z_mem 361 _ (by decide +kernel)
set_option maxRecDepth 100000 in
theorem wd_362 : Cond.fieldLink RX9 36 (TX9 5).1 (TX9 5).2.1 (TX9 5).2.2.1 ∈ z_tbl := z_mem 362 _ (by decide +kernel)
set_option maxRecDepth 100000 in
theorem wd_363 : Cond.fieldLink RX9 42 (TX9 6).1 (TX9 6).2.1 (TX9 6).2.2.1 ∈ z_tbl := z_mem 363 _ (by decide +kernel)
set_option maxRecDepth 100000 in
theorem wd_364 : Cond.fieldLink RX9 49 (TX9 7).1 (TX9 7).2.1 (TX9 7).2.2.1 ∈ z_tbl := z_mem 364 _ (by decide +kernel)
set_option maxRecDepth 100000 in
theorem wd_365 : Cond.fieldLink RX9 56 (TX9 8).1 (TX9 8).2.1 (TX9 8).2.2.1 ∈ z_tbl := z_mem 365 _ (by decide +kernel)
set_option maxRecDepth 100000 in
theorem wd_366 : Cond.fieldLink RX9 63 (TX9 9).1 (TX9 9).2.1 (TX9 9).2.2.1 ∈ z_tbl := z_mem 366 _ (by decide +kernel)
set_option maxRecDepth 100000 in
theorem wd_367 : Cond.fieldLink RX9 67 (TX9 10).1 (TX9 10).2.1 (TX9 10).2.2.1 ∈ z_tbl := z_mem 367 _ (by decide +kernel)
set_option maxRecDepth 100000 in
theorem wd_368 : Cond.fieldLink RX9 157 (TX9 11).1 (TX9 11).2.1 (TX9 11).2.2.1 ∈ z_tbl := z_mem 368 _ (by decide +kernel)
set_option maxRecDepth 100000 in
theorem wd_369 : Cond.fieldLink RX9 296 (TX9 12).1 (TX9 12).2.1 (TX9 12).2.2.1 ∈ z_tbl := z_mem 369 _ (by decide +kernel)
set_option maxRecDepth 100000 in
theorem wd_401 : Cond.methodLink RX9 71 yX5_isRow ∈ z_tbl := z_mem 401 _ (by decide +kernel)
set_option maxRecDepth 100000 in
theorem wd_402 : Cond.static yX5_isRow ∈ z_tbl := z_mem 402 _ (by decide +kernel)
set_option maxRecDepth 100000 in
theorem wd_403 : Cond.code yX5_isRow cX5_isRow 1 (some .boolean) ∈ z_tbl := z_mem 403 _ (by decide +kernel)
set_option maxRecDepth 100000 in
theorem wd_404 : Cond.constant RX9 75 (Int32.ofInt (-1000001)) ∈ z_tbl := z_mem 404 _ (by decide +kernel)
set_option maxRecDepth 100000 in
theorem wd_405 : Cond.methodLink RX9 76 yX9_found ∈ z_tbl := z_mem 405 _ (by decide +kernel)
set_option maxRecDepth 100000 in
theorem wd_407 : Cond.instanceMethod yX9_found ∈ z_tbl := z_mem 407 _ (by decide +kernel)
set_option maxRecDepth 100000 in
theorem wd_408 : Cond.code yX9_found cX9_found 2 (some .int) ∈ z_tbl := z_mem 408 _ (by decide +kernel)
set_option maxRecDepth 100000 in
theorem wd_409 : Cond.constant RX9 299 (Int32.ofInt (-1000010)) ∈ z_tbl := z_mem 409 _ (by decide +kernel)
set_option maxRecDepth 100000 in
theorem wd_410 : Cond.methodLink RX9 80 yX5_make ∈ z_tbl := z_mem 410 _ (by decide +kernel)
set_option maxRecDepth 100000 in
theorem wd_411 : Cond.instanceMethod yX5_make ∈ z_tbl := z_mem 411 _ (by decide +kernel)
set_option maxRecDepth 100000 in
theorem wd_412 : Cond.selects yX5_make.cls yX5_make yX5_make ∈ z_tbl := z_mem 412 _ (by decide +kernel)
set_option maxRecDepth 100000 in
theorem wd_413 : Cond.code yX5_make cX5_make 5 none ∈ z_tbl := z_mem 413 _ (by decide +kernel)
set_option maxRecDepth 100000 in
theorem wd_414 : Cond.methodLink RX5 23 yX5_isRow ∈ z_tbl := z_mem 414 _ (by decide +kernel)
set_option maxRecDepth 100000 in
theorem wd_415 : Cond.methodLink RX9 84 yX9_passed ∈ z_tbl := z_mem 415 _ (by decide +kernel)
set_option maxRecDepth 100000 in
theorem wd_417 : Cond.instanceMethod yX9_passed ∈ z_tbl := z_mem 417 _ (by decide +kernel)
set_option maxRecDepth 100000 in
theorem wd_418 : Cond.code yX9_passed cX9_passed 2 (some .int) ∈ z_tbl := z_mem 418 _ (by decide +kernel)
set_option maxRecDepth 100000 in
theorem wd_423 : Cond.methodLink RX9 87 yX5_isThere ∈ z_tbl := z_mem 423 _ (by decide +kernel)
set_option maxRecDepth 100000 in
theorem wd_424 : Cond.instanceMethod yX5_isThere ∈ z_tbl := z_mem 424 _ (by decide +kernel)
set_option maxRecDepth 100000 in
theorem wd_425 : Cond.selects yX5_isThere.cls yX5_isThere yX5_isThere ∈ z_tbl := z_mem 425 _ (by decide +kernel)
set_option maxRecDepth 100000 in
theorem wd_426 : Cond.code yX5_isThere cX5_isThere 2 (some .boolean) ∈ z_tbl := z_mem 426 _ (by decide +kernel)
set_option maxRecDepth 100000 in
theorem wd_427 : Cond.methodLink RX9 90 yX5_hasPlaces ∈ z_tbl := z_mem 427 _ (by decide +kernel)
set_option maxRecDepth 100000 in
theorem wd_428 : Cond.instanceMethod yX5_hasPlaces ∈ z_tbl := z_mem 428 _ (by decide +kernel)
set_option maxRecDepth 100000 in
theorem wd_429 : Cond.selects yX5_hasPlaces.cls yX5_hasPlaces yX5_hasPlaces ∈ z_tbl := z_mem 429 _ (by decide +kernel)
set_option maxRecDepth 100000 in
theorem wd_430 : Cond.code yX5_hasPlaces cX5_hasPlaces 4 (some .boolean) ∈ z_tbl := z_mem 430 _ (by decide +kernel)
set_option maxRecDepth 100000 in
theorem wd_431 : Cond.methodLink RX5 27 yX5_isThere ∈ z_tbl := z_mem 431 _ (by decide +kernel)
set_option maxRecDepth 100000 in
theorem wd_432 : Cond.methodLink RX9 94 yX5_put ∈ z_tbl := z_mem 432 _ (by decide +kernel)
set_option maxRecDepth 100000 in
theorem wd_433 : Cond.instanceMethod yX5_put ∈ z_tbl := z_mem 433 _ (by decide +kernel)
set_option maxRecDepth 100000 in
theorem wd_434 : Cond.selects yX5_put.cls yX5_put yX5_put ∈ z_tbl := z_mem 434 _ (by decide +kernel)
set_option maxRecDepth 100000 in
theorem wd_435 : Cond.code yX5_put cX5_put 5 (some .int) ∈ z_tbl := z_mem 435 _ (by decide +kernel)
set_option maxRecDepth 100000 in
theorem wd_436 : Cond.methodLink RX5 30 yX5_hasPlaces ∈ z_tbl := z_mem 436 _ (by decide +kernel)
set_option maxRecDepth 100000 in
theorem wd_441 : Cond.methodLink RX9 98 yX5_areAlike ∈ z_tbl := z_mem 441 _ (by decide +kernel)
set_option maxRecDepth 100000 in
theorem wd_442 : Cond.instanceMethod yX5_areAlike ∈ z_tbl := z_mem 442 _ (by decide +kernel)
set_option maxRecDepth 100000 in
theorem wd_443 : Cond.selects yX5_areAlike.cls yX5_areAlike yX5_areAlike ∈ z_tbl := z_mem 443 _ (by decide +kernel)
set_option maxRecDepth 100000 in
theorem wd_444 : Cond.code yX5_areAlike cX5_areAlike 3 (some .boolean) ∈ z_tbl := z_mem 444 _ (by decide +kernel)
set_option maxRecDepth 100000 in
theorem wd_445 : Cond.methodLink RX9 102 yX5_move ∈ z_tbl := z_mem 445 _ (by decide +kernel)
set_option maxRecDepth 100000 in
theorem wd_446 : Cond.instanceMethod yX5_move ∈ z_tbl := z_mem 446 _ (by decide +kernel)
set_option maxRecDepth 100000 in
theorem wd_447 : Cond.selects yX5_move.cls yX5_move yX5_move ∈ z_tbl := z_mem 447 _ (by decide +kernel)
set_option maxRecDepth 100000 in
theorem wd_448 : Cond.code yX5_move cX5_move 6 none ∈ z_tbl := z_mem 448 _ (by decide +kernel)
set_option maxRecDepth 100000 in
theorem wd_449 : Cond.methodLink RX5 34 arraycopyName ∈ z_tbl := z_mem 449 _ (by decide +kernel)
set_option maxRecDepth 100000 in
theorem wd_450 : Cond.static arraycopyName ∈ z_tbl := z_mem 450 _ (by decide +kernel)
set_option maxRecDepth 100000 in
theorem wd_451 : Cond.native arraycopyName ∈ z_tbl := z_mem 451 _ (by decide +kernel)
set_option maxRecDepth 100000 in
theorem wd_456 : Cond.methodLink RX9 106 yX5_takeAway ∈ z_tbl := z_mem 456 _ (by decide +kernel)
set_option maxRecDepth 100000 in
theorem wd_457 : Cond.instanceMethod yX5_takeAway ∈ z_tbl := z_mem 457 _ (by decide +kernel)
set_option maxRecDepth 100000 in
theorem wd_458 : Cond.selects yX5_takeAway.cls yX5_takeAway yX5_takeAway ∈ z_tbl := z_mem 458 _ (by decide +kernel)
set_option maxRecDepth 100000 in
theorem wd_459 : Cond.code yX5_takeAway cX5_takeAway 2 (some .int) ∈ z_tbl := z_mem 459 _ (by decide +kernel)
set_option maxRecDepth 100000 in
theorem wd_464 : Cond.constant RX9 113 (Int32.ofInt (-1000003)) ∈ z_tbl := z_mem 464 _ (by decide +kernel)
set_option maxRecDepth 100000 in
theorem wd_465 : Cond.methodLink RX9 114 yX4_addBytes ∈ z_tbl := z_mem 465 _ (by decide +kernel)
set_option maxRecDepth 100000 in
theorem wd_466 : Cond.instanceMethod yX4_addBytes ∈ z_tbl := z_mem 466 _ (by decide +kernel)
set_option maxRecDepth 100000 in
theorem wd_467 : Cond.selects yX4_addBytes.cls yX4_addBytes yX4_addBytes ∈ z_tbl := z_mem 467 _ (by decide +kernel)
set_option maxRecDepth 100000 in
theorem wd_468 : Cond.code yX4_addBytes cX4_addBytes 5 none ∈ z_tbl := z_mem 468 _ (by decide +kernel)
set_option maxRecDepth 100000 in
theorem wd_473 : Cond.methodLink RX9 118 yX4_readWood ∈ z_tbl := z_mem 473 _ (by decide +kernel)
set_option maxRecDepth 100000 in
theorem wd_474 : Cond.instanceMethod yX4_readWood ∈ z_tbl := z_mem 474 _ (by decide +kernel)
set_option maxRecDepth 100000 in
theorem wd_475 : Cond.selects yX4_readWood.cls yX4_readWood yX4_readWood ∈ z_tbl := z_mem 475 _ (by decide +kernel)
set_option maxRecDepth 100000 in
theorem wd_476 : Cond.code yX4_readWood cX4_readWood 4 none ∈ z_tbl := z_mem 476 _ (by decide +kernel)
set_option maxRecDepth 100000 in
theorem wd_477 : Cond.methodLink RX4 19 yX8_beginAnew ∈ z_tbl := z_mem 477 _ (by decide +kernel)
set_option maxRecDepth 100000 in
theorem wd_478 : Cond.instanceMethod yX8_beginAnew ∈ z_tbl := z_mem 478 _ (by decide +kernel)
set_option maxRecDepth 100000 in
theorem wd_479 : Cond.selects yX8_beginAnew.cls yX8_beginAnew yX8_beginAnew ∈ z_tbl := z_mem 479 _ (by decide +kernel)
set_option maxRecDepth 100000 in
theorem wd_480 : Cond.code yX8_beginAnew cX8_beginAnew 1 none ∈ z_tbl := z_mem 480 _ (by decide +kernel)
set_option maxRecDepth 100000 in
theorem wd_481 : Cond.methodLink RX4 24 yX4_begin ∈ z_tbl := z_mem 481 _ (by decide +kernel)
set_option maxRecDepth 100000 in
theorem wd_483 : Cond.instanceMethod yX4_begin ∈ z_tbl := z_mem 483 _ (by decide +kernel)
set_option maxRecDepth 100000 in
theorem wd_484 : Cond.code yX4_begin cX4_begin 1 none ∈ z_tbl := z_mem 484 _ (by decide +kernel)
set_option maxRecDepth 100000 in
theorem wd_485 : Cond.methodLink RX4 50 yX4_next ∈ z_tbl := z_mem 485 _ (by decide +kernel)
set_option maxRecDepth 100000 in
theorem wd_487 : Cond.instanceMethod yX4_next ∈ z_tbl := z_mem 487 _ (by decide +kernel)
set_option maxRecDepth 100000 in
theorem wd_488 : Cond.code yX4_next cX4_next 2 none ∈ z_tbl := z_mem 488 _ (by decide +kernel)
set_option maxRecDepth 100000 in
theorem wd_489 : Cond.methodLink RX4 152 yX4_byteAt ∈ z_tbl := z_mem 489 _ (by decide +kernel)
set_option maxRecDepth 100000 in
theorem wd_491 : Cond.instanceMethod yX4_byteAt ∈ z_tbl := z_mem 491 _ (by decide +kernel)
set_option maxRecDepth 100000 in
theorem wd_492 : Cond.code yX4_byteAt cX4_byteAt 2 (some .int) ∈ z_tbl := z_mem 492 _ (by decide +kernel)
set_option maxRecDepth 100000 in
theorem wd_493 : Cond.methodLink RX4 160 yX4_isBlank ∈ z_tbl := z_mem 493 _ (by decide +kernel)
set_option maxRecDepth 100000 in
theorem wd_494 : Cond.static yX4_isBlank ∈ z_tbl := z_mem 494 _ (by decide +kernel)
set_option maxRecDepth 100000 in
theorem wd_495 : Cond.code yX4_isBlank cX4_isBlank 1 (some .boolean) ∈ z_tbl := z_mem 495 _ (by decide +kernel)
set_option maxRecDepth 100000 in
theorem wd_496 : Cond.methodLink RX4 164 yX4_isLetter ∈ z_tbl := z_mem 496 _ (by decide +kernel)
set_option maxRecDepth 100000 in
theorem wd_497 : Cond.static yX4_isLetter ∈ z_tbl := z_mem 497 _ (by decide +kernel)
set_option maxRecDepth 100000 in
theorem wd_498 : Cond.code yX4_isLetter cX4_isLetter 1 (some .boolean) ∈ z_tbl := z_mem 498 _ (by decide +kernel)
set_option maxRecDepth 100000 in
theorem wd_499 : Cond.methodLink RX4 167 yX4_isFigure ∈ z_tbl := z_mem 499 _ (by decide +kernel)
set_option maxRecDepth 100000 in
theorem wd_500 : Cond.static yX4_isFigure ∈ z_tbl := z_mem 500 _ (by decide +kernel)
set_option maxRecDepth 100000 in
theorem wd_501 : Cond.code yX4_isFigure cX4_isFigure 1 (some .boolean) ∈ z_tbl := z_mem 501 _ (by decide +kernel)
set_option maxRecDepth 100000 in
theorem wd_502 : Cond.methodLink RX4 27 yX4_isMore ∈ z_tbl := z_mem 502 _ (by decide +kernel)
set_option maxRecDepth 100000 in
theorem wd_504 : Cond.instanceMethod yX4_isMore ∈ z_tbl := z_mem 504 _ (by decide +kernel)
set_option maxRecDepth 100000 in
theorem wd_505 : Cond.code yX4_isMore cX4_isMore 1 (some .boolean) ∈ z_tbl := z_mem 505 _ (by decide +kernel)
set_option maxRecDepth 100000 in
theorem wd_506 : Cond.methodLink RX4 31 yX4_readPart ∈ z_tbl := z_mem 506 _ (by decide +kernel)
set_option maxRecDepth 100000 in
theorem wd_508 : Cond.instanceMethod yX4_readPart ∈ z_tbl := z_mem 508 _ (by decide +kernel)
set_option maxRecDepth 100000 in
theorem wd_509 : Cond.code yX4_readPart cX4_readPart 4 (some .int) ∈ z_tbl := z_mem 509 _ (by decide +kernel)
set_option maxRecDepth 100000 in
theorem wd_511 : Cond.methodLink RX4 58 yX4_isWord ∈ z_tbl := z_mem 511 _ (by decide +kernel)
set_option maxRecDepth 100000 in
theorem wd_513 : Cond.instanceMethod yX4_isWord ∈ z_tbl := z_mem 513 _ (by decide +kernel)
set_option maxRecDepth 100000 in
theorem wd_514 : Cond.code yX4_isWord cX4_isWord 3 (some .boolean) ∈ z_tbl := z_mem 514 _ (by decide +kernel)
set_option maxRecDepth 100000 in
theorem wd_515 : Cond.methodLink RX4 147 yJ0_length_8abf5 ∈ z_tbl := z_mem 515 _ (by decide +kernel)
set_option maxRecDepth 100000 in
theorem wd_516 : Cond.instanceMethod yJ0_length_8abf5 ∈ z_tbl := z_mem 516 _ (by decide +kernel)
set_option maxRecDepth 100000 in
theorem wd_517 : Cond.selects yJ0_length_8abf5.cls yJ0_length_8abf5 yJ0_length_8abf5 ∈ z_tbl := z_mem 517 _ (by decide +kernel)
set_option maxRecDepth 100000 in
theorem wd_518 : Cond.code yJ0_length_8abf5 cJ0_length_8abf5 1 (some .int) ∈ z_tbl := z_mem 518 _ (by decide +kernel)
set_option maxRecDepth 100000 in
theorem wd_519 : Cond.methodLink "java/lang/String" 335 yJ0_coder_7d493 ∈ z_tbl := z_mem 519 _ (by decide +kernel)
set_option maxRecDepth 100000 in
theorem wd_520 : Cond.instanceMethod yJ0_coder_7d493 ∈ z_tbl := z_mem 520 _ (by decide +kernel)
set_option maxRecDepth 100000 in
theorem wd_521 : Cond.selects yJ0_coder_7d493.cls yJ0_coder_7d493 yJ0_coder_7d493 ∈ z_tbl := z_mem 521 _ (by decide +kernel)
set_option maxRecDepth 100000 in
theorem wd_522 : Cond.code yJ0_coder_7d493 cJ0_coder_7d493 1 (some .byte) ∈ z_tbl := z_mem 522 _ (by decide +kernel)
set_option maxRecDepth 100000 in
theorem wd_523 : Cond.fieldLink "java/lang/String" 38 "java/lang/String" "COMPACT_STRINGS" "Z" ∈ z_tbl := z_mem 523 _ (by decide +kernel)
set_option maxRecDepth 100000 in
theorem wd_525 : Cond.methodLink RX4 156 yJ0_charAt_5068e ∈ z_tbl := z_mem 525 _ (by decide +kernel)
set_option maxRecDepth 100000 in
theorem wd_526 : Cond.instanceMethod yJ0_charAt_5068e ∈ z_tbl := z_mem 526 _ (by decide +kernel)
set_option maxRecDepth 100000 in
theorem wd_527 : Cond.selects yJ0_charAt_5068e.cls yJ0_charAt_5068e yJ0_charAt_5068e ∈ z_tbl := z_mem 527 _ (by decide +kernel)
set_option maxRecDepth 100000 in
theorem wd_528 : Cond.code yJ0_charAt_5068e cJ0_charAt_5068e 2 (some .char) ∈ z_tbl := z_mem 528 _ (by decide +kernel)
set_option maxRecDepth 100000 in
theorem wd_529 : Cond.methodLink "java/lang/String" 492 yJ0_isLatin1_aae02 ∈ z_tbl := z_mem 529 _ (by decide +kernel)
set_option maxRecDepth 100000 in
theorem wd_530 : Cond.instanceMethod yJ0_isLatin1_aae02 ∈ z_tbl := z_mem 530 _ (by decide +kernel)
set_option maxRecDepth 100000 in
theorem wd_531 : Cond.selects yJ0_isLatin1_aae02.cls yJ0_isLatin1_aae02 yJ0_isLatin1_aae02 ∈ z_tbl := z_mem 531 _ (by decide +kernel)
set_option maxRecDepth 100000 in
theorem wd_532 : Cond.code yJ0_isLatin1_aae02 cJ0_isLatin1_aae02 1 (some .boolean) ∈ z_tbl := z_mem 532 _ (by decide +kernel)
set_option maxRecDepth 100000 in
theorem wd_533 : Cond.methodLink "java/lang/String" 495 yJ1_charAt_3b067 ∈ z_tbl := z_mem 533 _ (by decide +kernel)
set_option maxRecDepth 100000 in
theorem wd_534 : Cond.static yJ1_charAt_3b067 ∈ z_tbl := z_mem 534 _ (by decide +kernel)
set_option maxRecDepth 100000 in
theorem wd_535 : Cond.code yJ1_charAt_3b067 cJ1_charAt_3b067 2 (some .char) ∈ z_tbl := z_mem 535 _ (by decide +kernel)
set_option maxRecDepth 100000 in
theorem wd_536 : Cond.methodLink "java/lang/StringLatin1" 9 yJ0_checkIndex_df160 ∈ z_tbl := z_mem 536 _ (by decide +kernel)
set_option maxRecDepth 100000 in
theorem wd_537 : Cond.static yJ0_checkIndex_df160 ∈ z_tbl := z_mem 537 _ (by decide +kernel)
set_option maxRecDepth 100000 in
theorem wd_538 : Cond.code yJ0_checkIndex_df160 cJ0_checkIndex_df160 2 none ∈ z_tbl := z_mem 538 _ (by decide +kernel)
set_option maxRecDepth 100000 in
theorem wd_539 : Cond.fieldLink "java/lang/String" 1053 "jdk/internal/util/Preconditions" "SIOOBE_FORMATTER" "Ljava/util/function/BiFunction;" ∈ z_tbl := z_mem 539 _ (by decide +kernel)
set_option maxRecDepth 100000 in
theorem wd_541 : Cond.methodLink "java/lang/String" 1059 yJ3_checkIndex_8e157 ∈ z_tbl := z_mem 541 _ (by decide +kernel)
set_option maxRecDepth 100000 in
theorem wd_542 : Cond.static yJ3_checkIndex_8e157 ∈ z_tbl := z_mem 542 _ (by decide +kernel)
set_option maxRecDepth 100000 in
theorem wd_543 : Cond.code yJ3_checkIndex_8e157 cJ3_checkIndex_8e157 3 (some .int) ∈ z_tbl := z_mem 543 _ (by decide +kernel)
set_option maxRecDepth 100000 in
theorem wd_563 : Cond.methodLink RX4 66 yX4_readTree ∈ z_tbl := z_mem 563 _ (by decide +kernel)
set_option maxRecDepth 100000 in
theorem wd_565 : Cond.instanceMethod yX4_readTree ∈ z_tbl := z_mem 565 _ (by decide +kernel)
set_option maxRecDepth 100000 in
theorem wd_566 : Cond.code yX4_readTree cX4_readTree 6 none ∈ z_tbl := z_mem 566 _ (by decide +kernel)
set_option maxRecDepth 100000 in
theorem wd_567 : Cond.methodLink RX4 86 yX4_fail ∈ z_tbl := z_mem 567 _ (by decide +kernel)
set_option maxRecDepth 100000 in
theorem wd_569 : Cond.instanceMethod yX4_fail ∈ z_tbl := z_mem 569 _ (by decide +kernel)
set_option maxRecDepth 100000 in
theorem wd_570 : Cond.code yX4_fail cX4_fail 2 none ∈ z_tbl := z_mem 570 _ (by decide +kernel)
set_option maxRecDepth 100000 in
theorem wd_571 : Cond.methodLink RX4 93 yX4_takeNumber ∈ z_tbl := z_mem 571 _ (by decide +kernel)
set_option maxRecDepth 100000 in
theorem wd_573 : Cond.instanceMethod yX4_takeNumber ∈ z_tbl := z_mem 573 _ (by decide +kernel)
set_option maxRecDepth 100000 in
theorem wd_574 : Cond.code yX4_takeNumber cX4_takeNumber 4 (some .int) ∈ z_tbl := z_mem 574 _ (by decide +kernel)
set_option maxRecDepth 100000 in
theorem wd_575 : Cond.methodLink RX4 97 yX4_takeSign ∈ z_tbl := z_mem 575 _ (by decide +kernel)
set_option maxRecDepth 100000 in
theorem wd_577 : Cond.instanceMethod yX4_takeSign ∈ z_tbl := z_mem 577 _ (by decide +kernel)
set_option maxRecDepth 100000 in
theorem wd_578 : Cond.code yX4_takeSign cX4_takeSign 1 none ∈ z_tbl := z_mem 578 _ (by decide +kernel)
set_option maxRecDepth 100000 in
theorem wd_579 : Cond.methodLink RX4 100 yX6_add ∈ z_tbl := z_mem 579 _ (by decide +kernel)
set_option maxRecDepth 100000 in
theorem wd_580 : Cond.instanceMethod yX6_add ∈ z_tbl := z_mem 580 _ (by decide +kernel)
set_option maxRecDepth 100000 in
theorem wd_581 : Cond.selects yX6_add.cls yX6_add yX6_add ∈ z_tbl := z_mem 581 _ (by decide +kernel)
set_option maxRecDepth 100000 in
theorem wd_582 : Cond.code yX6_add cX6_add 5 none ∈ z_tbl := z_mem 582 _ (by decide +kernel)
set_option maxRecDepth 100000 in
theorem wd_584 : Cond.methodLink RX4 76 yX4_readWind ∈ z_tbl := z_mem 584 _ (by decide +kernel)
set_option maxRecDepth 100000 in
theorem wd_586 : Cond.instanceMethod yX4_readWind ∈ z_tbl := z_mem 586 _ (by decide +kernel)
set_option maxRecDepth 100000 in
theorem wd_587 : Cond.code yX4_readWind cX4_readWind 5 none ∈ z_tbl := z_mem 587 _ (by decide +kernel)
set_option maxRecDepth 100000 in
theorem wd_588 : Cond.methodLink RX4 107 yX7_add ∈ z_tbl := z_mem 588 _ (by decide +kernel)
set_option maxRecDepth 100000 in
theorem wd_589 : Cond.instanceMethod yX7_add ∈ z_tbl := z_mem 589 _ (by decide +kernel)
set_option maxRecDepth 100000 in
theorem wd_590 : Cond.selects yX7_add.cls yX7_add yX7_add ∈ z_tbl := z_mem 590 _ (by decide +kernel)
set_option maxRecDepth 100000 in
theorem wd_591 : Cond.code yX7_add cX7_add 4 none ∈ z_tbl := z_mem 591 _ (by decide +kernel)
set_option maxRecDepth 100000 in
theorem wd_593 : Cond.methodLink RX4 82 yX4_readTune ∈ z_tbl := z_mem 593 _ (by decide +kernel)
set_option maxRecDepth 100000 in
theorem wd_595 : Cond.instanceMethod yX4_readTune ∈ z_tbl := z_mem 595 _ (by decide +kernel)
set_option maxRecDepth 100000 in
theorem wd_596 : Cond.code yX4_readTune cX4_readTune 3 none ∈ z_tbl := z_mem 596 _ (by decide +kernel)
set_option maxRecDepth 100000 in
theorem wd_597 : Cond.methodLink RX4 110 yX8_addTone ∈ z_tbl := z_mem 597 _ (by decide +kernel)
set_option maxRecDepth 100000 in
theorem wd_598 : Cond.instanceMethod yX8_addTone ∈ z_tbl := z_mem 598 _ (by decide +kernel)
set_option maxRecDepth 100000 in
theorem wd_599 : Cond.selects yX8_addTone.cls yX8_addTone yX8_addTone ∈ z_tbl := z_mem 599 _ (by decide +kernel)
set_option maxRecDepth 100000 in
theorem wd_600 : Cond.code yX8_addTone cX8_addTone 2 none ∈ z_tbl := z_mem 600 _ (by decide +kernel)
set_option maxRecDepth 100000 in
theorem wd_601 : Cond.methodLink RX9 125 yX9_faulted ∈ z_tbl := z_mem 601 _ (by decide +kernel)
set_option maxRecDepth 100000 in
theorem wd_603 : Cond.instanceMethod yX9_faulted ∈ z_tbl := z_mem 603 _ (by decide +kernel)
set_option maxRecDepth 100000 in
theorem wd_604 : Cond.code yX9_faulted cX9_faulted 1 (some .int) ∈ z_tbl := z_mem 604 _ (by decide +kernel)
set_option maxRecDepth 100000 in
theorem wd_605 : Cond.constant RX9 300 (Int32.ofInt (-1000100)) ∈ z_tbl := z_mem 605 _ (by decide +kernel)
set_option maxRecDepth 100000 in
theorem wd_606 : Cond.methodLink RX9 129 yX8_takeOver ∈ z_tbl := z_mem 606 _ (by decide +kernel)
set_option maxRecDepth 100000 in
theorem wd_607 : Cond.instanceMethod yX8_takeOver ∈ z_tbl := z_mem 607 _ (by decide +kernel)
set_option maxRecDepth 100000 in
theorem wd_608 : Cond.selects yX8_takeOver.cls yX8_takeOver yX8_takeOver ∈ z_tbl := z_mem 608 _ (by decide +kernel)
set_option maxRecDepth 100000 in
theorem wd_609 : Cond.code yX8_takeOver cX8_takeOver 2 none ∈ z_tbl := z_mem 609 _ (by decide +kernel)
set_option maxRecDepth 100000 in
theorem wd_610 : Cond.methodLink RX8 55 yX6_takeOver ∈ z_tbl := z_mem 610 _ (by decide +kernel)
set_option maxRecDepth 100000 in
theorem wd_611 : Cond.instanceMethod yX6_takeOver ∈ z_tbl := z_mem 611 _ (by decide +kernel)
set_option maxRecDepth 100000 in
theorem wd_612 : Cond.selects yX6_takeOver.cls yX6_takeOver yX6_takeOver ∈ z_tbl := z_mem 612 _ (by decide +kernel)
set_option maxRecDepth 100000 in
theorem wd_613 : Cond.code yX6_takeOver cX6_takeOver 2 none ∈ z_tbl := z_mem 613 _ (by decide +kernel)
set_option maxRecDepth 100000 in
theorem wd_614 : Cond.methodLink RX6 53 arraycopyName ∈ z_tbl := z_mem 614 _ (by decide +kernel)
set_option maxRecDepth 100000 in
theorem wd_615 : Cond.methodLink RX8 59 yX7_takeOver ∈ z_tbl := z_mem 615 _ (by decide +kernel)
set_option maxRecDepth 100000 in
theorem wd_616 : Cond.instanceMethod yX7_takeOver ∈ z_tbl := z_mem 616 _ (by decide +kernel)
set_option maxRecDepth 100000 in
theorem wd_617 : Cond.selects yX7_takeOver.cls yX7_takeOver yX7_takeOver ∈ z_tbl := z_mem 617 _ (by decide +kernel)
set_option maxRecDepth 100000 in
theorem wd_618 : Cond.code yX7_takeOver cX7_takeOver 2 none ∈ z_tbl := z_mem 618 _ (by decide +kernel)
set_option maxRecDepth 100000 in
theorem wd_619 : Cond.methodLink RX7 25 arraycopyName ∈ z_tbl := z_mem 619 _ (by decide +kernel)
set_option maxRecDepth 100000 in
theorem wd_620 : Cond.methodLink RX8 62 yX2_takeOver ∈ z_tbl := z_mem 620 _ (by decide +kernel)
set_option maxRecDepth 100000 in
theorem wd_621 : Cond.instanceMethod yX2_takeOver ∈ z_tbl := z_mem 621 _ (by decide +kernel)
set_option maxRecDepth 100000 in
theorem wd_622 : Cond.selects yX2_takeOver.cls yX2_takeOver yX2_takeOver ∈ z_tbl := z_mem 622 _ (by decide +kernel)
set_option maxRecDepth 100000 in
theorem wd_623 : Cond.code yX2_takeOver cX2_takeOver 2 none ∈ z_tbl := z_mem 623 _ (by decide +kernel)
set_option maxRecDepth 100000 in
theorem wd_624 : Cond.methodLink RX2 25 arraycopyName ∈ z_tbl := z_mem 624 _ (by decide +kernel)
set_option maxRecDepth 100000 in
theorem wd_625 : Cond.methodLink RX8 65 arraycopyName ∈ z_tbl := z_mem 625 _ (by decide +kernel)
set_option maxRecDepth 100000 in
theorem wd_630 : Cond.constant RX9 144 (Int32.ofInt (-1000002)) ∈ z_tbl := z_mem 630 _ (by decide +kernel)
set_option maxRecDepth 100000 in
theorem wd_631 : Cond.methodLink RX9 145 yX4_readOrders ∈ z_tbl := z_mem 631 _ (by decide +kernel)
set_option maxRecDepth 100000 in
theorem wd_632 : Cond.instanceMethod yX4_readOrders ∈ z_tbl := z_mem 632 _ (by decide +kernel)
set_option maxRecDepth 100000 in
theorem wd_633 : Cond.selects yX4_readOrders.cls yX4_readOrders yX4_readOrders ∈ z_tbl := z_mem 633 _ (by decide +kernel)
set_option maxRecDepth 100000 in
theorem wd_634 : Cond.code yX4_readOrders cX4_readOrders 4 none ∈ z_tbl := z_mem 634 _ (by decide +kernel)
set_option maxRecDepth 100000 in
theorem wd_635 : Cond.methodLink RX4 40 yX4_readOrder ∈ z_tbl := z_mem 635 _ (by decide +kernel)
set_option maxRecDepth 100000 in
theorem wd_637 : Cond.instanceMethod yX4_readOrder ∈ z_tbl := z_mem 637 _ (by decide +kernel)
set_option maxRecDepth 100000 in
theorem wd_638 : Cond.code yX4_readOrder cX4_readOrder 6 none ∈ z_tbl := z_mem 638 _ (by decide +kernel)
set_option maxRecDepth 100000 in
theorem wd_639 : Cond.methodLink RX4 116 yX4_orderHere ∈ z_tbl := z_mem 639 _ (by decide +kernel)
set_option maxRecDepth 100000 in
theorem wd_641 : Cond.instanceMethod yX4_orderHere ∈ z_tbl := z_mem 641 _ (by decide +kernel)
set_option maxRecDepth 100000 in
theorem wd_642 : Cond.code yX4_orderHere cX4_orderHere 2 (some .int) ∈ z_tbl := z_mem 642 _ (by decide +kernel)
set_option maxRecDepth 100000 in
theorem wd_643 : Cond.methodLink RX4 121 yX4_wordOf ∈ z_tbl := z_mem 643 _ (by decide +kernel)
set_option maxRecDepth 100000 in
theorem wd_644 : Cond.static yX4_wordOf ∈ z_tbl := z_mem 644 _ (by decide +kernel)
set_option maxRecDepth 100000 in
theorem wd_645 : Cond.code yX4_wordOf cX4_wordOf 1 (some (.object "java/lang/String")) ∈ z_tbl := z_mem 645 _ (by decide +kernel)
set_option maxRecDepth 100000 in
theorem wd_654 : Cond.methodLink RX4 120 yX2_add ∈ z_tbl := z_mem 654 _ (by decide +kernel)
set_option maxRecDepth 100000 in
theorem wd_655 : Cond.instanceMethod yX2_add ∈ z_tbl := z_mem 655 _ (by decide +kernel)
set_option maxRecDepth 100000 in
theorem wd_656 : Cond.selects yX2_add.cls yX2_add yX2_add ∈ z_tbl := z_mem 656 _ (by decide +kernel)
set_option maxRecDepth 100000 in
theorem wd_657 : Cond.code yX2_add cX2_add 4 none ∈ z_tbl := z_mem 657 _ (by decide +kernel)
set_option maxRecDepth 100000 in
theorem wd_658 : Cond.methodLink RX9 153 yX8_carryOutAll ∈ z_tbl := z_mem 658 _ (by decide +kernel)
set_option maxRecDepth 100000 in
theorem wd_659 : Cond.instanceMethod yX8_carryOutAll ∈ z_tbl := z_mem 659 _ (by decide +kernel)
set_option maxRecDepth 100000 in
theorem wd_660 : Cond.selects yX8_carryOutAll.cls yX8_carryOutAll yX8_carryOutAll ∈ z_tbl := z_mem 660 _ (by decide +kernel)
set_option maxRecDepth 100000 in
theorem wd_661 : Cond.code yX8_carryOutAll cX8_carryOutAll 3 none ∈ z_tbl := z_mem 661 _ (by decide +kernel)
set_option maxRecDepth 100000 in
theorem wd_662 : Cond.methodLink RX8 118 yX8_carryOut ∈ z_tbl := z_mem 662 _ (by decide +kernel)
set_option maxRecDepth 100000 in
theorem wd_664 : Cond.instanceMethod yX8_carryOut ∈ z_tbl := z_mem 664 _ (by decide +kernel)
set_option maxRecDepth 100000 in
theorem wd_665 : Cond.code yX8_carryOut cX8_carryOut 5 none ∈ z_tbl := z_mem 665 _ (by decide +kernel)
set_option maxRecDepth 100000 in
theorem wd_666 : Cond.methodLink RX8 71 yX6_has ∈ z_tbl := z_mem 666 _ (by decide +kernel)
set_option maxRecDepth 100000 in
theorem wd_667 : Cond.instanceMethod yX6_has ∈ z_tbl := z_mem 667 _ (by decide +kernel)
set_option maxRecDepth 100000 in
theorem wd_668 : Cond.selects yX6_has.cls yX6_has yX6_has ∈ z_tbl := z_mem 668 _ (by decide +kernel)
set_option maxRecDepth 100000 in
theorem wd_669 : Cond.code yX6_has cX6_has 2 (some .boolean) ∈ z_tbl := z_mem 669 _ (by decide +kernel)
set_option maxRecDepth 100000 in
theorem wd_670 : Cond.methodLink RX8 122 yX6_stretch ∈ z_tbl := z_mem 670 _ (by decide +kernel)
set_option maxRecDepth 100000 in
theorem wd_671 : Cond.instanceMethod yX6_stretch ∈ z_tbl := z_mem 671 _ (by decide +kernel)
set_option maxRecDepth 100000 in
theorem wd_672 : Cond.selects yX6_stretch.cls yX6_stretch yX6_stretch ∈ z_tbl := z_mem 672 _ (by decide +kernel)
set_option maxRecDepth 100000 in
theorem wd_673 : Cond.code yX6_stretch cX6_stretch 4 (some .int) ∈ z_tbl := z_mem 673 _ (by decide +kernel)
set_option maxRecDepth 100000 in
theorem wd_674 : Cond.methodLink RX6 43 yX6_has ∈ z_tbl := z_mem 674 _ (by decide +kernel)
set_option maxRecDepth 100000 in
theorem wd_675 : Cond.methodLink RX6 47 yX6_longer ∈ z_tbl := z_mem 675 _ (by decide +kernel)
set_option maxRecDepth 100000 in
theorem wd_676 : Cond.static yX6_longer ∈ z_tbl := z_mem 676 _ (by decide +kernel)
set_option maxRecDepth 100000 in
theorem wd_677 : Cond.code yX6_longer cX6_longer 2 (some .int) ∈ z_tbl := z_mem 677 _ (by decide +kernel)
set_option maxRecDepth 100000 in
theorem wd_678 : Cond.methodLink RX6 34 yJ9_min_7cf53 ∈ z_tbl := z_mem 678 _ (by decide +kernel)
set_option maxRecDepth 100000 in
theorem wd_679 : Cond.static yJ9_min_7cf53 ∈ z_tbl := z_mem 679 _ (by decide +kernel)
set_option maxRecDepth 100000 in
theorem wd_680 : Cond.code Lib.Math.min.name Lib.Math.min.code 2 (some .int) ∈ z_tbl := z_mem 680 _ (by decide +kernel)
set_option maxRecDepth 100000 in
theorem wd_681 : Cond.methodLink RX6 40 yJ9_max_7cf53 ∈ z_tbl := z_mem 681 _ (by decide +kernel)
set_option maxRecDepth 100000 in
theorem wd_682 : Cond.static yJ9_max_7cf53 ∈ z_tbl := z_mem 682 _ (by decide +kernel)
set_option maxRecDepth 100000 in
theorem wd_683 : Cond.code Lib.Math.max.name Lib.Math.max.code 2 (some .int) ∈ z_tbl := z_mem 683 _ (by decide +kernel)
set_option maxRecDepth 100000 in
theorem wd_684 : Cond.methodLink RX8 125 yX2_add ∈ z_tbl := z_mem 684 _ (by decide +kernel)
set_option maxRecDepth 100000 in
theorem wd_693 : Cond.methodLink RX9 160 yX8_takeBack ∈ z_tbl := z_mem 693 _ (by decide +kernel)
set_option maxRecDepth 100000 in
theorem wd_694 : Cond.instanceMethod yX8_takeBack ∈ z_tbl := z_mem 694 _ (by decide +kernel)
set_option maxRecDepth 100000 in
theorem wd_695 : Cond.selects yX8_takeBack.cls yX8_takeBack yX8_takeBack ∈ z_tbl := z_mem 695 _ (by decide +kernel)
set_option maxRecDepth 100000 in
theorem wd_696 : Cond.code yX8_takeBack cX8_takeBack 4 none ∈ z_tbl := z_mem 696 _ (by decide +kernel)
set_option maxRecDepth 100000 in
theorem wd_701 : Cond.methodLink RX9 163 yX8_grow ∈ z_tbl := z_mem 701 _ (by decide +kernel)
set_option maxRecDepth 100000 in
theorem wd_702 : Cond.instanceMethod yX8_grow ∈ z_tbl := z_mem 702 _ (by decide +kernel)
set_option maxRecDepth 100000 in
theorem wd_703 : Cond.selects yX8_grow.cls yX8_grow yX8_grow ∈ z_tbl := z_mem 703 _ (by decide +kernel)
set_option maxRecDepth 100000 in
theorem wd_704 : Cond.code yX8_grow cX8_grow 2 none ∈ z_tbl := z_mem 704 _ (by decide +kernel)
set_option maxRecDepth 100000 in
theorem wd_705 : Cond.methodLink RX8 105 yX6_growAll ∈ z_tbl := z_mem 705 _ (by decide +kernel)
set_option maxRecDepth 100000 in
theorem wd_706 : Cond.instanceMethod yX6_growAll ∈ z_tbl := z_mem 706 _ (by decide +kernel)
set_option maxRecDepth 100000 in
theorem wd_707 : Cond.selects yX6_growAll.cls yX6_growAll yX6_growAll ∈ z_tbl := z_mem 707 _ (by decide +kernel)
set_option maxRecDepth 100000 in
theorem wd_708 : Cond.code yX6_growAll cX6_growAll 3 none ∈ z_tbl := z_mem 708 _ (by decide +kernel)
set_option maxRecDepth 100000 in
theorem wd_709 : Cond.methodLink RX6 50 yX6_stretch ∈ z_tbl := z_mem 709 _ (by decide +kernel)
set_option maxRecDepth 100000 in
theorem wd_714 : Cond.methodLink RX9 170 yX6_has ∈ z_tbl := z_mem 714 _ (by decide +kernel)
set_option maxRecDepth 100000 in
theorem wd_715 : Cond.methodLink RX9 191 yX8_toneOf ∈ z_tbl := z_mem 715 _ (by decide +kernel)
set_option maxRecDepth 100000 in
theorem wd_716 : Cond.instanceMethod yX8_toneOf ∈ z_tbl := z_mem 716 _ (by decide +kernel)
set_option maxRecDepth 100000 in
theorem wd_717 : Cond.selects yX8_toneOf.cls yX8_toneOf yX8_toneOf ∈ z_tbl := z_mem 717 _ (by decide +kernel)
set_option maxRecDepth 100000 in
theorem wd_718 : Cond.code yX8_toneOf cX8_toneOf 3 (some .int) ∈ z_tbl := z_mem 718 _ (by decide +kernel)
set_option maxRecDepth 100000 in
theorem wd_719 : Cond.methodLink RX8 81 yX8_dryTone ∈ z_tbl := z_mem 719 _ (by decide +kernel)
set_option maxRecDepth 100000 in
theorem wd_720 : Cond.static yX8_dryTone ∈ z_tbl := z_mem 720 _ (by decide +kernel)
set_option maxRecDepth 100000 in
theorem wd_721 : Cond.code yX8_dryTone cX8_dryTone 2 (some .int) ∈ z_tbl := z_mem 721 _ (by decide +kernel)
set_option maxRecDepth 100000 in
theorem wd_726 : Cond.methodLink RX9 198 yX7_has ∈ z_tbl := z_mem 726 _ (by decide +kernel)
set_option maxRecDepth 100000 in
theorem wd_727 : Cond.instanceMethod yX7_has ∈ z_tbl := z_mem 727 _ (by decide +kernel)
set_option maxRecDepth 100000 in
theorem wd_728 : Cond.selects yX7_has.cls yX7_has yX7_has ∈ z_tbl := z_mem 728 _ (by decide +kernel)
set_option maxRecDepth 100000 in
theorem wd_729 : Cond.code yX7_has cX7_has 2 (some .boolean) ∈ z_tbl := z_mem 729 _ (by decide +kernel)
set_option maxRecDepth 100000 in
theorem wd_730 : Cond.methodLink RX9 201 yX3_listen ∈ z_tbl := z_mem 730 _ (by decide +kernel)
set_option maxRecDepth 100000 in
theorem wd_731 : Cond.instanceMethod yX3_listen ∈ z_tbl := z_mem 731 _ (by decide +kernel)
set_option maxRecDepth 100000 in
theorem wd_732 : Cond.selects yX3_listen.cls yX3_listen yX3_listen ∈ z_tbl := z_mem 732 _ (by decide +kernel)
set_option maxRecDepth 100000 in
theorem wd_733 : Cond.code yX3_listen cX3_listen 4 none ∈ z_tbl := z_mem 733 _ (by decide +kernel)
set_option maxRecDepth 100000 in
theorem wd_734 : Cond.methodLink RX3 33 yX8_sounds ∈ z_tbl := z_mem 734 _ (by decide +kernel)
set_option maxRecDepth 100000 in
theorem wd_735 : Cond.instanceMethod yX8_sounds ∈ z_tbl := z_mem 735 _ (by decide +kernel)
set_option maxRecDepth 100000 in
theorem wd_736 : Cond.selects yX8_sounds.cls yX8_sounds yX8_sounds ∈ z_tbl := z_mem 736 _ (by decide +kernel)
set_option maxRecDepth 100000 in
theorem wd_737 : Cond.code yX8_sounds cX8_sounds 5 (some .boolean) ∈ z_tbl := z_mem 737 _ (by decide +kernel)
set_option maxRecDepth 100000 in
theorem wd_738 : Cond.methodLink RX8 85 yX7_has ∈ z_tbl := z_mem 738 _ (by decide +kernel)
set_option maxRecDepth 100000 in
theorem wd_739 : Cond.methodLink RX8 96 yJ9_abs_0f7a4 ∈ z_tbl := z_mem 739 _ (by decide +kernel)
set_option maxRecDepth 100000 in
theorem wd_740 : Cond.static yJ9_abs_0f7a4 ∈ z_tbl := z_mem 740 _ (by decide +kernel)
set_option maxRecDepth 100000 in
theorem wd_741 : Cond.code Lib.Math.abs.name Lib.Math.abs.code 1 (some .int) ∈ z_tbl := z_mem 741 _ (by decide +kernel)
set_option maxRecDepth 100000 in
theorem wd_742 : Cond.methodLink RX3 37 yX8_toneOf ∈ z_tbl := z_mem 742 _ (by decide +kernel)
set_option maxRecDepth 100000 in
theorem wd_743 : Cond.constant RX9 209 (Int32.ofInt (-1000000)) ∈ z_tbl := z_mem 743 _ (by decide +kernel)
set_option maxRecDepth 100000 in
theorem wd_748 : Cond.methodLink RX9 210 yX9_isApart ∈ z_tbl := z_mem 748 _ (by decide +kernel)
set_option maxRecDepth 100000 in
theorem wd_749 : Cond.static yX9_isApart ∈ z_tbl := z_mem 749 _ (by decide +kernel)
set_option maxRecDepth 100000 in
theorem wd_750 : Cond.code yX9_isApart cX9_isApart 1 (some .boolean) ∈ z_tbl := z_mem 750 _ (by decide +kernel)
set_option maxRecDepth 100000 in
theorem wd_751 : Cond.methodLink RX9 213 yX9_slipsIn ∈ z_tbl := z_mem 751 _ (by decide +kernel)
set_option maxRecDepth 100000 in
theorem wd_753 : Cond.instanceMethod yX9_slipsIn ∈ z_tbl := z_mem 753 _ (by decide +kernel)
set_option maxRecDepth 100000 in
theorem wd_754 : Cond.code yX9_slipsIn cX9_slipsIn 4 (some .int) ∈ z_tbl := z_mem 754 _ (by decide +kernel)
set_option maxRecDepth 100000 in
theorem wd_755 : Cond.methodLink RX9 307 yX3_slipsFrom ∈ z_tbl := z_mem 755 _ (by decide +kernel)
set_option maxRecDepth 100000 in
theorem wd_756 : Cond.instanceMethod yX3_slipsFrom ∈ z_tbl := z_mem 756 _ (by decide +kernel)
set_option maxRecDepth 100000 in
theorem wd_757 : Cond.selects yX3_slipsFrom.cls yX3_slipsFrom yX3_slipsFrom ∈ z_tbl := z_mem 757 _ (by decide +kernel)
set_option maxRecDepth 100000 in
theorem wd_758 : Cond.code yX3_slipsFrom cX3_slipsFrom 9 (some .int) ∈ z_tbl := z_mem 758 _ (by decide +kernel)
set_option maxRecDepth 100000 in
theorem wd_759 : Cond.methodLink RX3 47 yX3_areSame ∈ z_tbl := z_mem 759 _ (by decide +kernel)
set_option maxRecDepth 100000 in
theorem wd_760 : Cond.static yX3_areSame ∈ z_tbl := z_mem 760 _ (by decide +kernel)
set_option maxRecDepth 100000 in
theorem wd_761 : Cond.code yX3_areSame cX3_areSame 3 (some .boolean) ∈ z_tbl := z_mem 761 _ (by decide +kernel)
set_option maxRecDepth 100000 in
theorem wd_762 : Cond.methodLink RX3 41 yJ9_abs_067f4 ∈ z_tbl := z_mem 762 _ (by decide +kernel)
set_option maxRecDepth 100000 in
theorem wd_763 : Cond.static yJ9_abs_067f4 ∈ z_tbl := z_mem 763 _ (by decide +kernel)
set_option maxRecDepth 100000 in
theorem wd_764 : Cond.code Lib.MathLoose.abs_long.x Lib.MathLoose.abs_long.code 2 (some .long) ∈ z_tbl := z_mem 764 _ (by decide +kernel)
set_option maxRecDepth 100000 in
theorem wd_765 : Cond.methodLink RX3 51 yJ9_min_7cf53 ∈ z_tbl := z_mem 765 _ (by decide +kernel)
set_option maxRecDepth 100000 in
theorem wd_770 : Cond.methodLink RX9 217 yX9_isSlack ∈ z_tbl := z_mem 770 _ (by decide +kernel)
set_option maxRecDepth 100000 in
theorem wd_771 : Cond.static yX9_isSlack ∈ z_tbl := z_mem 771 _ (by decide +kernel)
set_option maxRecDepth 100000 in
theorem wd_772 : Cond.code yX9_isSlack cX9_isSlack 1 (some .boolean) ∈ z_tbl := z_mem 772 _ (by decide +kernel)
set_option maxRecDepth 100000 in
theorem wd_773 : Cond.methodLink RX9 220 yX9_cheapestSteps ∈ z_tbl := z_mem 773 _ (by decide +kernel)
set_option maxRecDepth 100000 in
theorem wd_775 : Cond.instanceMethod yX9_cheapestSteps ∈ z_tbl := z_mem 775 _ (by decide +kernel)
set_option maxRecDepth 100000 in
theorem wd_776 : Cond.code yX9_cheapestSteps cX9_cheapestSteps 8 (some .int) ∈ z_tbl := z_mem 776 _ (by decide +kernel)
set_option maxRecDepth 100000 in
theorem wd_777 : Cond.methodLink RX9 310 yX1_choose ∈ z_tbl := z_mem 777 _ (by decide +kernel)
set_option maxRecDepth 100000 in
theorem wd_778 : Cond.instanceMethod yX1_choose ∈ z_tbl := z_mem 778 _ (by decide +kernel)
set_option maxRecDepth 100000 in
theorem wd_779 : Cond.selects yX1_choose.cls yX1_choose yX1_choose ∈ z_tbl := z_mem 779 _ (by decide +kernel)
set_option maxRecDepth 100000 in
theorem wd_780 : Cond.code yX1_choose cX1_choose 3 none ∈ z_tbl := z_mem 780 _ (by decide +kernel)
set_option maxRecDepth 100000 in
theorem wd_781 : Cond.methodLink RX9 314 yX9_bestOfSum ∈ z_tbl := z_mem 781 _ (by decide +kernel)
set_option maxRecDepth 100000 in
theorem wd_783 : Cond.instanceMethod yX9_bestOfSum ∈ z_tbl := z_mem 783 _ (by decide +kernel)
set_option maxRecDepth 100000 in
theorem wd_784 : Cond.code yX9_bestOfSum cX9_bestOfSum 12 (some .int) ∈ z_tbl := z_mem 784 _ (by decide +kernel)
set_option maxRecDepth 100000 in
theorem wd_785 : Cond.methodLink RX9 318 yX1_rowsOfSteps ∈ z_tbl := z_mem 785 _ (by decide +kernel)
set_option maxRecDepth 100000 in
theorem wd_786 : Cond.instanceMethod yX1_rowsOfSteps ∈ z_tbl := z_mem 786 _ (by decide +kernel)
set_option maxRecDepth 100000 in
theorem wd_787 : Cond.selects yX1_rowsOfSteps.cls yX1_rowsOfSteps yX1_rowsOfSteps ∈ z_tbl := z_mem 787 _ (by decide +kernel)
set_option maxRecDepth 100000 in
theorem wd_788 : Cond.code yX1_rowsOfSteps cX1_rowsOfSteps 1 (some .int) ∈ z_tbl := z_mem 788 _ (by decide +kernel)
set_option maxRecDepth 100000 in
theorem wd_789 : Cond.methodLink RX9 224 yX1_sumOf ∈ z_tbl := z_mem 789 _ (by decide +kernel)
set_option maxRecDepth 100000 in
theorem wd_790 : Cond.static yX1_sumOf ∈ z_tbl := z_mem 790 _ (by decide +kernel)
set_option maxRecDepth 100000 in
theorem wd_791 : Cond.code yX1_sumOf cX1_sumOf 3 (some .int) ∈ z_tbl := z_mem 791 _ (by decide +kernel)
set_option maxRecDepth 100000 in
theorem wd_792 : Cond.methodLink RX9 227 yX1_tryOn ∈ z_tbl := z_mem 792 _ (by decide +kernel)
set_option maxRecDepth 100000 in
theorem wd_793 : Cond.instanceMethod yX1_tryOn ∈ z_tbl := z_mem 793 _ (by decide +kernel)
set_option maxRecDepth 100000 in
theorem wd_794 : Cond.selects yX1_tryOn.cls yX1_tryOn yX1_tryOn ∈ z_tbl := z_mem 794 _ (by decide +kernel)
set_option maxRecDepth 100000 in
theorem wd_795 : Cond.code yX1_tryOn cX1_tryOn 8 (some .boolean) ∈ z_tbl := z_mem 795 _ (by decide +kernel)
set_option maxRecDepth 100000 in
theorem wd_796 : Cond.methodLink RX1 30 yX6_has ∈ z_tbl := z_mem 796 _ (by decide +kernel)
set_option maxRecDepth 100000 in
theorem wd_805 : Cond.methodLink RX9 235 yX9_sharedDivisor ∈ z_tbl := z_mem 805 _ (by decide +kernel)
set_option maxRecDepth 100000 in
theorem wd_806 : Cond.static yX9_sharedDivisor ∈ z_tbl := z_mem 806 _ (by decide +kernel)
set_option maxRecDepth 100000 in
theorem wd_807 : Cond.code yX9_sharedDivisor cX9_sharedDivisor 6 (some .int) ∈ z_tbl := z_mem 807 _ (by decide +kernel)
set_option maxRecDepth 100000 in
theorem wd_812 : Cond.methodLink RX9 239 yX3_buzzing ∈ z_tbl := z_mem 812 _ (by decide +kernel)
set_option maxRecDepth 100000 in
theorem wd_813 : Cond.instanceMethod yX3_buzzing ∈ z_tbl := z_mem 813 _ (by decide +kernel)
set_option maxRecDepth 100000 in
theorem wd_814 : Cond.selects yX3_buzzing.cls yX3_buzzing yX3_buzzing ∈ z_tbl := z_mem 814 _ (by decide +kernel)
set_option maxRecDepth 100000 in
theorem wd_815 : Cond.code yX3_buzzing cX3_buzzing 4 (some .int) ∈ z_tbl := z_mem 815 _ (by decide +kernel)
set_option maxRecDepth 100000 in
theorem wd_820 : Cond.methodLink RX9 242 yX5_read ∈ z_tbl := z_mem 820 _ (by decide +kernel)
set_option maxRecDepth 100000 in
theorem wd_821 : Cond.instanceMethod yX5_read ∈ z_tbl := z_mem 821 _ (by decide +kernel)
set_option maxRecDepth 100000 in
theorem wd_822 : Cond.selects yX5_read.cls yX5_read yX5_read ∈ z_tbl := z_mem 822 _ (by decide +kernel)
set_option maxRecDepth 100000 in
theorem wd_823 : Cond.code yX5_read cX5_read 5 none ∈ z_tbl := z_mem 823 _ (by decide +kernel)
set_option maxRecDepth 100000 in
theorem wd_824 : Cond.methodLink RX9 246 yX3_sharedWith ∈ z_tbl := z_mem 824 _ (by decide +kernel)
set_option maxRecDepth 100000 in
theorem wd_825 : Cond.instanceMethod yX3_sharedWith ∈ z_tbl := z_mem 825 _ (by decide +kernel)
set_option maxRecDepth 100000 in
theorem wd_826 : Cond.selects yX3_sharedWith.cls yX3_sharedWith yX3_sharedWith ∈ z_tbl := z_mem 826 _ (by decide +kernel)
set_option maxRecDepth 100000 in
theorem wd_827 : Cond.code yX3_sharedWith cX3_sharedWith 8 (some .int) ∈ z_tbl := z_mem 827 _ (by decide +kernel)
set_option maxRecDepth 100000 in
theorem wd_828 : Cond.methodLink RX3 55 yJ9_max_7cf53 ∈ z_tbl := z_mem 828 _ (by decide +kernel)
set_option maxRecDepth 100000 in
theorem wd_833 : Cond.methodLink RX9 250 yX6_longer ∈ z_tbl := z_mem 833 _ (by decide +kernel)
set_option maxRecDepth 100000 in
theorem wd_834 : Cond.methodLink RX9 253 yX8_dryTone ∈ z_tbl := z_mem 834 _ (by decide +kernel)
set_option maxRecDepth 100000 in
theorem wd_839 : Cond.methodLink RX9 256 yX3_countMissing ∈ z_tbl := z_mem 839 _ (by decide +kernel)
set_option maxRecDepth 100000 in
theorem wd_840 : Cond.instanceMethod yX3_countMissing ∈ z_tbl := z_mem 840 _ (by decide +kernel)
set_option maxRecDepth 100000 in
theorem wd_841 : Cond.selects yX3_countMissing.cls yX3_countMissing yX3_countMissing ∈ z_tbl := z_mem 841 _ (by decide +kernel)
set_option maxRecDepth 100000 in
theorem wd_842 : Cond.code yX3_countMissing cX3_countMissing 5 (some .int) ∈ z_tbl := z_mem 842 _ (by decide +kernel)
set_option maxRecDepth 100000 in
theorem wd_843 : Cond.methodLink RX3 58 yX3_isLeftBy ∈ z_tbl := z_mem 843 _ (by decide +kernel)
set_option maxRecDepth 100000 in
theorem wd_845 : Cond.instanceMethod yX3_isLeftBy ∈ z_tbl := z_mem 845 _ (by decide +kernel)
set_option maxRecDepth 100000 in
theorem wd_846 : Cond.code yX3_isLeftBy cX3_isLeftBy 7 (some .boolean) ∈ z_tbl := z_mem 846 _ (by decide +kernel)
set_option maxRecDepth 100000 in
theorem wd_847 : Cond.methodLink RX3 63 yJ6_bitCount_0f7a4 ∈ z_tbl := z_mem 847 _ (by decide +kernel)
set_option maxRecDepth 100000 in
theorem wd_848 : Cond.static yJ6_bitCount_0f7a4 ∈ z_tbl := z_mem 848 _ (by decide +kernel)
set_option maxRecDepth 100000 in
theorem wd_849 : Cond.code yJ6_bitCount_0f7a4 cJ6_bitCount_0f7a4 1 (some .int) ∈ z_tbl := z_mem 849 _ (by decide +kernel)
set_option maxRecDepth 100000 in
theorem wd_850 : Cond.constant "java/lang/Integer" 265 (Int32.ofInt (1431655765)) ∈ z_tbl := z_mem 850 _ (by decide +kernel)
set_option maxRecDepth 100000 in
theorem wd_851 : Cond.constant "java/lang/Integer" 266 (Int32.ofInt (858993459)) ∈ z_tbl := z_mem 851 _ (by decide +kernel)
set_option maxRecDepth 100000 in
theorem wd_852 : Cond.constant "java/lang/Integer" 267 (Int32.ofInt (252645135)) ∈ z_tbl := z_mem 852 _ (by decide +kernel)
set_option maxRecDepth 100000 in
theorem wd_853 : Cond.methodLink RX9 260 yX3_missingSet ∈ z_tbl := z_mem 853 _ (by decide +kernel)
set_option maxRecDepth 100000 in
theorem wd_854 : Cond.instanceMethod yX3_missingSet ∈ z_tbl := z_mem 854 _ (by decide +kernel)
set_option maxRecDepth 100000 in
theorem wd_855 : Cond.selects yX3_missingSet.cls yX3_missingSet yX3_missingSet ∈ z_tbl := z_mem 855 _ (by decide +kernel)
set_option maxRecDepth 100000 in
theorem wd_856 : Cond.code yX3_missingSet cX3_missingSet 6 (some .int) ∈ z_tbl := z_mem 856 _ (by decide +kernel)
set_option maxRecDepth 100000 in
theorem wd_857 : Cond.constant RX3 62 (Int32.ofInt (-1000000)) ∈ z_tbl := z_mem 857 _ (by decide +kernel)
set_option maxRecDepth 100000 in
theorem wd_862 : Cond.methodLink RX9 263 yX9_imageAt ∈ z_tbl := z_mem 862 _ (by decide +kernel)
set_option maxRecDepth 100000 in
theorem wd_864 : Cond.instanceMethod yX9_imageAt ∈ z_tbl := z_mem 864 _ (by decide +kernel)
set_option maxRecDepth 100000 in
theorem wd_865 : Cond.code yX9_imageAt cX9_imageAt 2 (some (.object "WindHarp$Wood")) ∈ z_tbl := z_mem 865 _ (by decide +kernel)
set_option maxRecDepth 100000 in
theorem wd_874 : Cond.methodLink RX9 267 yX9_kindIn ∈ z_tbl := z_mem 874 _ (by decide +kernel)
set_option maxRecDepth 100000 in
theorem wd_876 : Cond.instanceMethod yX9_kindIn ∈ z_tbl := z_mem 876 _ (by decide +kernel)
set_option maxRecDepth 100000 in
theorem wd_877 : Cond.code yX9_kindIn cX9_kindIn 3 (some .int) ∈ z_tbl := z_mem 877 _ (by decide +kernel)
set_option maxRecDepth 100000 in
theorem wd_878 : Cond.methodLink RX9 321 yX8_sounds ∈ z_tbl := z_mem 878 _ (by decide +kernel)
set_option maxRecDepth 100000 in
theorem wd_883 : Cond.methodLink RX9 270 yX9_isOfKind ∈ z_tbl := z_mem 883 _ (by decide +kernel)
set_option maxRecDepth 100000 in
theorem wd_884 : Cond.static yX9_isOfKind ∈ z_tbl := z_mem 884 _ (by decide +kernel)
set_option maxRecDepth 100000 in
theorem wd_885 : Cond.code yX9_isOfKind cX9_isOfKind 2 (some .boolean) ∈ z_tbl := z_mem 885 _ (by decide +kernel)
set_option maxRecDepth 100000 in
theorem wd_890 : Cond.methodLink RX9 273 yX0_begin ∈ z_tbl := z_mem 890 _ (by decide +kernel)
set_option maxRecDepth 100000 in
theorem wd_891 : Cond.instanceMethod yX0_begin ∈ z_tbl := z_mem 891 _ (by decide +kernel)
set_option maxRecDepth 100000 in
theorem wd_892 : Cond.selects yX0_begin.cls yX0_begin yX0_begin ∈ z_tbl := z_mem 892 _ (by decide +kernel)
set_option maxRecDepth 100000 in
theorem wd_893 : Cond.code yX0_begin cX0_begin 5 none ∈ z_tbl := z_mem 893 _ (by decide +kernel)
set_option maxRecDepth 100000 in
theorem wd_894 : Cond.methodLink RX9 277 yX0_sizeAsked ∈ z_tbl := z_mem 894 _ (by decide +kernel)
set_option maxRecDepth 100000 in
theorem wd_895 : Cond.instanceMethod yX0_sizeAsked ∈ z_tbl := z_mem 895 _ (by decide +kernel)
set_option maxRecDepth 100000 in
theorem wd_896 : Cond.selects yX0_sizeAsked.cls yX0_sizeAsked yX0_sizeAsked ∈ z_tbl := z_mem 896 _ (by decide +kernel)
set_option maxRecDepth 100000 in
theorem wd_897 : Cond.code yX0_sizeAsked cX0_sizeAsked 1 (some .int) ∈ z_tbl := z_mem 897 _ (by decide +kernel)
set_option maxRecDepth 100000 in
theorem wd_898 : Cond.methodLink RX0 31 yX0_body11 ∈ z_tbl := z_mem 898 _ (by decide +kernel)
set_option maxRecDepth 100000 in
theorem wd_900 : Cond.instanceMethod yX0_body11 ∈ z_tbl := z_mem 900 _ (by decide +kernel)
set_option maxRecDepth 100000 in
theorem wd_901 : Cond.code yX0_body11 cX0_body11 2 (some .int) ∈ z_tbl := z_mem 901 _ (by decide +kernel)
set_option maxRecDepth 100000 in
theorem wd_902 : Cond.methodLink RX0 62 yX0_leave ∈ z_tbl := z_mem 902 _ (by decide +kernel)
set_option maxRecDepth 100000 in
theorem wd_904 : Cond.instanceMethod yX0_leave ∈ z_tbl := z_mem 904 _ (by decide +kernel)
set_option maxRecDepth 100000 in
theorem wd_905 : Cond.code yX0_leave cX0_leave 2 none ∈ z_tbl := z_mem 905 _ (by decide +kernel)
set_option maxRecDepth 100000 in
theorem wd_906 : Cond.methodLink RX0 44 yX0_body10 ∈ z_tbl := z_mem 906 _ (by decide +kernel)
set_option maxRecDepth 100000 in
theorem wd_908 : Cond.instanceMethod yX0_body10 ∈ z_tbl := z_mem 908 _ (by decide +kernel)
set_option maxRecDepth 100000 in
theorem wd_909 : Cond.code yX0_body10 cX0_body10 1 (some .int) ∈ z_tbl := z_mem 909 _ (by decide +kernel)
set_option maxRecDepth 100000 in
theorem wd_910 : Cond.methodLink RX0 47 yX0_body21 ∈ z_tbl := z_mem 910 _ (by decide +kernel)
set_option maxRecDepth 100000 in
theorem wd_912 : Cond.instanceMethod yX0_body21 ∈ z_tbl := z_mem 912 _ (by decide +kernel)
set_option maxRecDepth 100000 in
theorem wd_913 : Cond.code yX0_body21 cX0_body21 1 (some .int) ∈ z_tbl := z_mem 913 _ (by decide +kernel)
set_option maxRecDepth 100000 in
theorem wd_914 : Cond.methodLink RX0 59 yX0_body20 ∈ z_tbl := z_mem 914 _ (by decide +kernel)
set_option maxRecDepth 100000 in
theorem wd_916 : Cond.instanceMethod yX0_body20 ∈ z_tbl := z_mem 916 _ (by decide +kernel)
set_option maxRecDepth 100000 in
theorem wd_917 : Cond.code yX0_body20 cX0_body20 1 (some .int) ∈ z_tbl := z_mem 917 _ (by decide +kernel)
set_option maxRecDepth 100000 in
theorem wd_918 : Cond.methodLink RX0 35 yX0_body12 ∈ z_tbl := z_mem 918 _ (by decide +kernel)
set_option maxRecDepth 100000 in
theorem wd_920 : Cond.instanceMethod yX0_body12 ∈ z_tbl := z_mem 920 _ (by decide +kernel)
set_option maxRecDepth 100000 in
theorem wd_921 : Cond.code yX0_body12 cX0_body12 1 (some .int) ∈ z_tbl := z_mem 921 _ (by decide +kernel)
set_option maxRecDepth 100000 in
theorem wd_922 : Cond.methodLink RX0 38 yX0_body13 ∈ z_tbl := z_mem 922 _ (by decide +kernel)
set_option maxRecDepth 100000 in
theorem wd_924 : Cond.instanceMethod yX0_body13 ∈ z_tbl := z_mem 924 _ (by decide +kernel)
set_option maxRecDepth 100000 in
theorem wd_925 : Cond.code yX0_body13 cX0_body13 1 (some .int) ∈ z_tbl := z_mem 925 _ (by decide +kernel)
set_option maxRecDepth 100000 in
theorem wd_926 : Cond.methodLink RX0 41 yX0_body14 ∈ z_tbl := z_mem 926 _ (by decide +kernel)
set_option maxRecDepth 100000 in
theorem wd_928 : Cond.instanceMethod yX0_body14 ∈ z_tbl := z_mem 928 _ (by decide +kernel)
set_option maxRecDepth 100000 in
theorem wd_929 : Cond.code yX0_body14 cX0_body14 1 (some .int) ∈ z_tbl := z_mem 929 _ (by decide +kernel)
set_option maxRecDepth 100000 in
theorem wd_930 : Cond.methodLink RX9 280 yX0_markAsked ∈ z_tbl := z_mem 930 _ (by decide +kernel)
set_option maxRecDepth 100000 in
theorem wd_931 : Cond.instanceMethod yX0_markAsked ∈ z_tbl := z_mem 931 _ (by decide +kernel)
set_option maxRecDepth 100000 in
theorem wd_932 : Cond.selects yX0_markAsked.cls yX0_markAsked yX0_markAsked ∈ z_tbl := z_mem 932 _ (by decide +kernel)
set_option maxRecDepth 100000 in
theorem wd_933 : Cond.code yX0_markAsked cX0_markAsked 1 (some .int) ∈ z_tbl := z_mem 933 _ (by decide +kernel)
set_option maxRecDepth 100000 in
theorem wd_934 : Cond.methodLink RX0 50 yX0_body22 ∈ z_tbl := z_mem 934 _ (by decide +kernel)
set_option maxRecDepth 100000 in
theorem wd_936 : Cond.instanceMethod yX0_body22 ∈ z_tbl := z_mem 936 _ (by decide +kernel)
set_option maxRecDepth 100000 in
theorem wd_937 : Cond.code yX0_body22 cX0_body22 2 (some .int) ∈ z_tbl := z_mem 937 _ (by decide +kernel)
set_option maxRecDepth 100000 in
theorem wd_938 : Cond.methodLink RX0 53 yX0_body23 ∈ z_tbl := z_mem 938 _ (by decide +kernel)
set_option maxRecDepth 100000 in
theorem wd_940 : Cond.instanceMethod yX0_body23 ∈ z_tbl := z_mem 940 _ (by decide +kernel)
set_option maxRecDepth 100000 in
theorem wd_941 : Cond.code yX0_body23 cX0_body23 1 (some .int) ∈ z_tbl := z_mem 941 _ (by decide +kernel)
set_option maxRecDepth 100000 in
theorem wd_942 : Cond.methodLink RX0 56 yX0_body24 ∈ z_tbl := z_mem 942 _ (by decide +kernel)
set_option maxRecDepth 100000 in
theorem wd_944 : Cond.instanceMethod yX0_body24 ∈ z_tbl := z_mem 944 _ (by decide +kernel)
set_option maxRecDepth 100000 in
theorem wd_945 : Cond.code yX0_body24 cX0_body24 1 (some .int) ∈ z_tbl := z_mem 945 _ (by decide +kernel)
set_option maxRecDepth 100000 in
theorem wd_954 : Cond.methodLink RX9 287 yX5_countThere ∈ z_tbl := z_mem 954 _ (by decide +kernel)
set_option maxRecDepth 100000 in
theorem wd_955 : Cond.instanceMethod yX5_countThere ∈ z_tbl := z_mem 955 _ (by decide +kernel)
set_option maxRecDepth 100000 in
theorem wd_956 : Cond.selects yX5_countThere.cls yX5_countThere yX5_countThere ∈ z_tbl := z_mem 956 _ (by decide +kernel)
set_option maxRecDepth 100000 in
theorem wd_957 : Cond.code yX5_countThere cX5_countThere 3 (some .int) ∈ z_tbl := z_mem 957 _ (by decide +kernel)
set_option maxRecDepth 100000 in
theorem wd_968 : Cond.fieldLink RX10 65 (TX10 0).1 (TX10 0).2.1 (TX10 0).2.2.1 ∈ z_tbl := z_mem 968 _ (by decide +kernel)
set_option maxRecDepth 100000 in
theorem wd_969 : Cond.fieldLink RX10 69 (TX10 1).1 (TX10 1).2.1 (TX10 1).2.2.1 ∈ z_tbl := z_mem 969 _ (by decide +kernel)
set_option maxRecDepth 100000 in
theorem wd_970 : Cond.fieldLink RX10 7 (TX10 2).1 (TX10 2).2.1 (TX10 2).2.2.1 ∈ z_tbl := z_mem 970 _ (by decide +kernel)
set_option maxRecDepth 100000 in
theorem wd_971 : Cond.fieldLink RX10 13 (TX10 3).1 (TX10 3).2.1 (TX10 3).2.2.1 ∈ z_tbl := z_mem 971 _ (by decide +kernel)
set_option maxRecDepth 100000 in
theorem wd_972 : Cond.fieldLink RX10 16 (TX10 4).1 (TX10 4).2.1 (TX10 4).2.2.1 ∈ z_tbl := z_mem 972 _ (by decide +kernel)
set_option maxRecDepth 100000 in
theorem wd_973 : Cond.fieldLink RX10 19 (TX10 5).1 (TX10 5).2.1 (TX10 5).2.2.1 ∈ z_tbl := z_mem 973 _ (by decide +kernel)
set_option maxRecDepth 100000 in
theorem wd_974 : Cond.fieldLink RX10 22 (TX10 6).1 (TX10 6).2.1 (TX10 6).2.2.1 ∈ z_tbl := z_mem 974 _ (by decide +kernel)
set_option maxRecDepth 100000 in
theorem wd_975 : Cond.fieldLink RX10 205 (TX10 7).1 (TX10 7).2.1 (TX10 7).2.2.1 ∈ z_tbl := z_mem 975 _ (by decide +kernel)
set_option maxRecDepth 100000 in
theorem wd_976 : Cond.fieldLink RX10 25 (TX10 8).1 (TX10 8).2.1 (TX10 8).2.2.1 ∈ z_tbl := z_mem 976 _ (by decide +kernel)
set_option maxRecDepth 100000 in
theorem wd_977 : Cond.fieldLink RX10 28 (TX10 9).1 (TX10 9).2.1 (TX10 9).2.2.1 ∈ z_tbl := z_mem 977 _ (by decide +kernel)
set_option maxRecDepth 100000 in
theorem wd_978 : Cond.fieldLink RX10 213 (TX10 10).1 (TX10 10).2.1 (TX10 10).2.2.1 ∈ z_tbl := z_mem 978 _ (by decide +kernel)
set_option maxRecDepth 100000 in
theorem wd_979 : Cond.fieldLink RX10 31 (TX10 11).1 (TX10 11).2.1 (TX10 11).2.2.1 ∈ z_tbl := z_mem 979 _ (by decide +kernel)
set_option maxRecDepth 100000 in
theorem wd_980 : Cond.fieldLink RX10 92 (TX10 12).1 (TX10 12).2.1 (TX10 12).2.2.1 ∈ z_tbl := z_mem 980 _ (by decide +kernel)
set_option maxRecDepth 100000 in
theorem wd_981 : Cond.fieldLink RX10 176 (TX10 13).1 (TX10 13).2.1 (TX10 13).2.2.1 ∈ z_tbl := z_mem 981 _ (by decide +kernel)
set_option maxRecDepth 100000 in
theorem wd_982 : Cond.fieldLink RX10 98 (TX10 14).1 (TX10 14).2.1 (TX10 14).2.2.1 ∈ z_tbl := z_mem 982 _ (by decide +kernel)
set_option maxRecDepth 100000 in
theorem wd_983 : Cond.fieldLink RX10 102 (TX10 15).1 (TX10 15).2.1 (TX10 15).2.2.1 ∈ z_tbl := z_mem 983 _ (by decide +kernel)
set_option maxRecDepth 100000 in
theorem wd_984 : Cond.fieldLink RX10 111 (TX10 16).1 (TX10 16).2.1 (TX10 16).2.2.1 ∈ z_tbl := z_mem 984 _ (by decide +kernel)
set_option maxRecDepth 100000 in
theorem wd_985 : Cond.fieldLink RX10 108 (TX10 17).1 (TX10 17).2.1 (TX10 17).2.2.1 ∈ z_tbl := z_mem 985 _ (by decide +kernel)
set_option maxRecDepth 100000 in
theorem wd_986 : Cond.fieldLink RX10 120 (TX10 18).1 (TX10 18).2.1 (TX10 18).2.2.1 ∈ z_tbl := z_mem 986 _ (by decide +kernel)
set_option maxRecDepth 100000 in
theorem wd_987 : Cond.fieldLink RX10 123 (TX10 19).1 (TX10 19).2.1 (TX10 19).2.2.1 ∈ z_tbl := z_mem 987 _ (by decide +kernel)
set_option maxRecDepth 100000 in
theorem wd_988 : Cond.fieldLink RX10 129 (TX10 20).1 (TX10 20).2.1 (TX10 20).2.2.1 ∈ z_tbl := z_mem 988 _ (by decide +kernel)
set_option maxRecDepth 100000 in
theorem wd_989 : Cond.fieldLink RX10 34 (TX10 21).1 (TX10 21).2.1 (TX10 21).2.2.1 ∈ z_tbl := z_mem 989 _ (by decide +kernel)
set_option maxRecDepth 100000 in
theorem wd_990 : Cond.fieldLink RX10 37 (TX10 22).1 (TX10 22).2.1 (TX10 22).2.2.1 ∈ z_tbl := z_mem 990 _ (by decide +kernel)
set_option maxRecDepth 100000 in
theorem wd_991 : Cond.fieldLink RX10 40 (TX10 23).1 (TX10 23).2.1 (TX10 23).2.2.1 ∈ z_tbl := z_mem 991 _ (by decide +kernel)
set_option maxRecDepth 100000 in
theorem wd_992 : Cond.fieldLink RX10 246 (TX10 24).1 (TX10 24).2.1 (TX10 24).2.2.1 ∈ z_tbl := z_mem 992 _ (by decide +kernel)
set_option maxRecDepth 100000 in
theorem wd_993 : Cond.fieldLink RX10 43 (TX10 25).1 (TX10 25).2.1 (TX10 25).2.2.1 ∈ z_tbl := z_mem 993 _ (by decide +kernel)
set_option maxRecDepth 100000 in
theorem wd_994 : Cond.fieldLink RX10 46 (TX10 26).1 (TX10 26).2.1 (TX10 26).2.2.1 ∈ z_tbl := z_mem 994 _ (by decide +kernel)
set_option maxRecDepth 100000 in
theorem wd_995 : Cond.fieldLink RX10 49 (TX10 27).1 (TX10 27).2.1 (TX10 27).2.2.1 ∈ z_tbl := z_mem 995 _ (by decide +kernel)
set_option maxRecDepth 100000 in
theorem wd_996 : Cond.fieldLink RX10 282 (TX10 28).1 (TX10 28).2.1 (TX10 28).2.2.1 ∈ z_tbl := z_mem 996 _ (by decide +kernel)
set_option maxRecDepth 100000 in
theorem wd_997 : Cond.fieldLink RX10 279 (TX10 29).1 (TX10 29).2.1 (TX10 29).2.2.1 ∈ z_tbl := z_mem 997 _ (by decide +kernel)
set_option maxRecDepth 100000 in
theorem wd_998 : Cond.fieldLink RX10 52 (TX10 30).1 (TX10 30).2.1 (TX10 30).2.2.1 ∈ z_tbl := z_mem 998 _ (by decide +kernel)
set_option maxRecDepth 100000 in
theorem wd_999 : Cond.fieldLink RX10 56 (TX10 31).1 (TX10 31).2.1 (TX10 31).2.2.1 ∈ z_tbl := z_mem 999 _ (by decide +kernel)
set_option maxRecDepth 100000 in
theorem wd_1000 : Cond.fieldLink RX10 59 (TX10 32).1 (TX10 32).2.1 (TX10 32).2.2.1 ∈ z_tbl := z_mem 1000 _ (by decide +kernel)
set_option maxRecDepth 100000 in
theorem wd_1001 : Cond.fieldLink RX10 62 (TX10 33).1 (TX10 33).2.1 (TX10 33).2.2.1 ∈ z_tbl := z_mem 1001 _ (by decide +kernel)
set_option maxRecDepth 100000 in
theorem wd_1002 : Cond.fieldLink RX10 316 (TX10 34).1 (TX10 34).2.1 (TX10 34).2.2.1 ∈ z_tbl := z_mem 1002 _ (by decide +kernel)
set_option maxRecDepth 100000 in
theorem wd_1078 : Cond.methodLink RX10 79 yX10_isRow ∈ z_tbl := z_mem 1078 _ (by decide +kernel)
set_option maxRecDepth 100000 in
theorem wd_1079 : Cond.static yX10_isRow ∈ z_tbl := z_mem 1079 _ (by decide +kernel)
set_option maxRecDepth 100000 in
theorem wd_1080 : Cond.code yX10_isRow cX10_isRow 1 (some .boolean) ∈ z_tbl := z_mem 1080 _ (by decide +kernel)
set_option maxRecDepth 100000 in
theorem wd_1081 : Cond.constantLong RX10 73 (Int64.ofInt (7)) ∈ z_tbl := z_mem 1081 _ (by decide +kernel)
set_option maxRecDepth 100000 in
theorem wd_1082 : Cond.methodLink RX10 75 yX10_in ∈ z_tbl := z_mem 1082 _ (by decide +kernel)
set_option maxRecDepth 100000 in
theorem wd_1083 : Cond.static yX10_in ∈ z_tbl := z_mem 1083 _ (by decide +kernel)
set_option maxRecDepth 100000 in
theorem wd_1084 : Cond.code yX10_in cX10_in 6 (some .boolean) ∈ z_tbl := z_mem 1084 _ (by decide +kernel)
set_option maxRecDepth 100000 in
theorem wd_1085 : Cond.constantLong RX10 83 (Int64.ofInt (2)) ∈ z_tbl := z_mem 1085 _ (by decide +kernel)
set_option maxRecDepth 100000 in
theorem wd_1086 : Cond.constant RX10 85 (Int32.ofInt (-1000001)) ∈ z_tbl := z_mem 1086 _ (by decide +kernel)
set_option maxRecDepth 100000 in
theorem wd_1087 : Cond.methodLink RX10 86 yX10_finding ∈ z_tbl := z_mem 1087 _ (by decide +kernel)
set_option maxRecDepth 100000 in
theorem wd_1089 : Cond.instanceMethod yX10_finding ∈ z_tbl := z_mem 1089 _ (by decide +kernel)
set_option maxRecDepth 100000 in
theorem wd_1090 : Cond.code yX10_finding cX10_finding 2 (some .int) ∈ z_tbl := z_mem 1090 _ (by decide +kernel)
set_option maxRecDepth 100000 in
theorem wd_1091 : Cond.constant RX10 72 (Int32.ofInt (-1000010)) ∈ z_tbl := z_mem 1091 _ (by decide +kernel)
set_option maxRecDepth 100000 in
theorem wd_1108 : Cond.constantLong RX10 90 (Int64.ofInt (8)) ∈ z_tbl := z_mem 1108 _ (by decide +kernel)
set_option maxRecDepth 100000 in
theorem wd_1109 : Cond.constant RX10 95 (Int32.ofInt (-1000003)) ∈ z_tbl := z_mem 1109 _ (by decide +kernel)
set_option maxRecDepth 100000 in
theorem wd_1110 : Cond.constantLong RX10 96 (Int64.ofInt (255)) ∈ z_tbl := z_mem 1110 _ (by decide +kernel)
set_option maxRecDepth 100000 in
theorem wd_1115 : Cond.methodLink RX10 180 yX10_begin ∈ z_tbl := z_mem 1115 _ (by decide +kernel)
set_option maxRecDepth 100000 in
theorem wd_1117 : Cond.instanceMethod yX10_begin ∈ z_tbl := z_mem 1117 _ (by decide +kernel)
set_option maxRecDepth 100000 in
theorem wd_1118 : Cond.code yX10_begin cX10_begin 1 none ∈ z_tbl := z_mem 1118 _ (by decide +kernel)
set_option maxRecDepth 100000 in
theorem wd_1119 : Cond.methodLink RX10 126 yX10_next ∈ z_tbl := z_mem 1119 _ (by decide +kernel)
set_option maxRecDepth 100000 in
theorem wd_1121 : Cond.instanceMethod yX10_next ∈ z_tbl := z_mem 1121 _ (by decide +kernel)
set_option maxRecDepth 100000 in
theorem wd_1122 : Cond.code yX10_next cX10_next 2 none ∈ z_tbl := z_mem 1122 _ (by decide +kernel)
set_option maxRecDepth 100000 in
theorem wd_1123 : Cond.methodLink RX10 105 yX10_byteAt ∈ z_tbl := z_mem 1123 _ (by decide +kernel)
set_option maxRecDepth 100000 in
theorem wd_1125 : Cond.instanceMethod yX10_byteAt ∈ z_tbl := z_mem 1125 _ (by decide +kernel)
set_option maxRecDepth 100000 in
theorem wd_1126 : Cond.code yX10_byteAt cX10_byteAt 2 (some .int) ∈ z_tbl := z_mem 1126 _ (by decide +kernel)
set_option maxRecDepth 100000 in
theorem wd_1127 : Cond.constant RX10 101 (Int32.ofInt (-1000000)) ∈ z_tbl := z_mem 1127 _ (by decide +kernel)
set_option maxRecDepth 100000 in
theorem wd_1128 : Cond.methodLink RX10 114 yX10_isLetter ∈ z_tbl := z_mem 1128 _ (by decide +kernel)
set_option maxRecDepth 100000 in
theorem wd_1129 : Cond.static yX10_isLetter ∈ z_tbl := z_mem 1129 _ (by decide +kernel)
set_option maxRecDepth 100000 in
theorem wd_1130 : Cond.code yX10_isLetter cX10_isLetter 1 (some .boolean) ∈ z_tbl := z_mem 1130 _ (by decide +kernel)
set_option maxRecDepth 100000 in
theorem wd_1131 : Cond.methodLink RX10 117 yX10_isFigure ∈ z_tbl := z_mem 1131 _ (by decide +kernel)
set_option maxRecDepth 100000 in
theorem wd_1132 : Cond.static yX10_isFigure ∈ z_tbl := z_mem 1132 _ (by decide +kernel)
set_option maxRecDepth 100000 in
theorem wd_1133 : Cond.code yX10_isFigure cX10_isFigure 1 (some .boolean) ∈ z_tbl := z_mem 1133 _ (by decide +kernel)
set_option maxRecDepth 100000 in
theorem wd_1134 : Cond.methodLink RX10 183 yX10_name ∈ z_tbl := z_mem 1134 _ (by decide +kernel)
set_option maxRecDepth 100000 in
theorem wd_1136 : Cond.instanceMethod yX10_name ∈ z_tbl := z_mem 1136 _ (by decide +kernel)
set_option maxRecDepth 100000 in
theorem wd_1137 : Cond.code yX10_name cX10_name 4 (some .long) ∈ z_tbl := z_mem 1137 _ (by decide +kernel)
set_option maxRecDepth 100000 in
theorem wd_1138 : Cond.constantLong RX10 187 (Int64.ofInt (1953654117)) ∈ z_tbl := z_mem 1138 _ (by decide +kernel)
set_option maxRecDepth 100000 in
theorem wd_1139 : Cond.methodLink RX10 132 yX10_bad ∈ z_tbl := z_mem 1139 _ (by decide +kernel)
set_option maxRecDepth 100000 in
theorem wd_1141 : Cond.instanceMethod yX10_bad ∈ z_tbl := z_mem 1141 _ (by decide +kernel)
set_option maxRecDepth 100000 in
theorem wd_1142 : Cond.code yX10_bad cX10_bad 2 none ∈ z_tbl := z_mem 1142 _ (by decide +kernel)
set_option maxRecDepth 100000 in
theorem wd_1143 : Cond.methodLink RX10 189 yX10_readTree ∈ z_tbl := z_mem 1143 _ (by decide +kernel)
set_option maxRecDepth 100000 in
theorem wd_1145 : Cond.instanceMethod yX10_readTree ∈ z_tbl := z_mem 1145 _ (by decide +kernel)
set_option maxRecDepth 100000 in
theorem wd_1146 : Cond.code yX10_readTree cX10_readTree 6 none ∈ z_tbl := z_mem 1146 _ (by decide +kernel)
set_option maxRecDepth 100000 in
theorem wd_1147 : Cond.methodLink RX10 160 yX10_begins ∈ z_tbl := z_mem 1147 _ (by decide +kernel)
set_option maxRecDepth 100000 in
theorem wd_1149 : Cond.instanceMethod yX10_begins ∈ z_tbl := z_mem 1149 _ (by decide +kernel)
set_option maxRecDepth 100000 in
theorem wd_1150 : Cond.code yX10_begins cX10_begins 3 none ∈ z_tbl := z_mem 1150 _ (by decide +kernel)
set_option maxRecDepth 100000 in
theorem wd_1151 : Cond.methodLink RX10 140 yX10_must ∈ z_tbl := z_mem 1151 _ (by decide +kernel)
set_option maxRecDepth 100000 in
theorem wd_1153 : Cond.instanceMethod yX10_must ∈ z_tbl := z_mem 1153 _ (by decide +kernel)
set_option maxRecDepth 100000 in
theorem wd_1154 : Cond.code yX10_must cX10_must 2 none ∈ z_tbl := z_mem 1154 _ (by decide +kernel)
set_option maxRecDepth 100000 in
theorem wd_1155 : Cond.methodLink RX10 164 yX10_number ∈ z_tbl := z_mem 1155 _ (by decide +kernel)
set_option maxRecDepth 100000 in
theorem wd_1157 : Cond.instanceMethod yX10_number ∈ z_tbl := z_mem 1157 _ (by decide +kernel)
set_option maxRecDepth 100000 in
theorem wd_1158 : Cond.code yX10_number cX10_number 4 (some .int) ∈ z_tbl := z_mem 1158 _ (by decide +kernel)
set_option maxRecDepth 100000 in
theorem wd_1159 : Cond.methodLink RX10 136 yX10_figures ∈ z_tbl := z_mem 1159 _ (by decide +kernel)
set_option maxRecDepth 100000 in
theorem wd_1161 : Cond.instanceMethod yX10_figures ∈ z_tbl := z_mem 1161 _ (by decide +kernel)
set_option maxRecDepth 100000 in
theorem wd_1162 : Cond.code yX10_figures cX10_figures 3 (some .int) ∈ z_tbl := z_mem 1162 _ (by decide +kernel)
set_option maxRecDepth 100000 in
theorem wd_1163 : Cond.methodLink RX10 168 yX10_mustEnd ∈ z_tbl := z_mem 1163 _ (by decide +kernel)
set_option maxRecDepth 100000 in
theorem wd_1165 : Cond.instanceMethod yX10_mustEnd ∈ z_tbl := z_mem 1165 _ (by decide +kernel)
set_option maxRecDepth 100000 in
theorem wd_1166 : Cond.code yX10_mustEnd cX10_mustEnd 1 none ∈ z_tbl := z_mem 1166 _ (by decide +kernel)
set_option maxRecDepth 100000 in
theorem wd_1167 : Cond.constantLong RX10 192 (Int64.ofInt (2003398244)) ∈ z_tbl := z_mem 1167 _ (by decide +kernel)
set_option maxRecDepth 100000 in
theorem wd_1168 : Cond.methodLink RX10 194 yX10_readWind ∈ z_tbl := z_mem 1168 _ (by decide +kernel)
set_option maxRecDepth 100000 in
theorem wd_1170 : Cond.instanceMethod yX10_readWind ∈ z_tbl := z_mem 1170 _ (by decide +kernel)
set_option maxRecDepth 100000 in
theorem wd_1171 : Cond.code yX10_readWind cX10_readWind 5 none ∈ z_tbl := z_mem 1171 _ (by decide +kernel)
set_option maxRecDepth 100000 in
theorem wd_1172 : Cond.constantLong RX10 197 (Int64.ofInt (1953853029)) ∈ z_tbl := z_mem 1172 _ (by decide +kernel)
set_option maxRecDepth 100000 in
theorem wd_1173 : Cond.methodLink RX10 199 yX10_readTune ∈ z_tbl := z_mem 1173 _ (by decide +kernel)
set_option maxRecDepth 100000 in
theorem wd_1175 : Cond.instanceMethod yX10_readTune ∈ z_tbl := z_mem 1175 _ (by decide +kernel)
set_option maxRecDepth 100000 in
theorem wd_1176 : Cond.code yX10_readTune cX10_readTune 1 none ∈ z_tbl := z_mem 1176 _ (by decide +kernel)
set_option maxRecDepth 100000 in
theorem wd_1177 : Cond.methodLink RX10 173 yX10_readTone ∈ z_tbl := z_mem 1177 _ (by decide +kernel)
set_option maxRecDepth 100000 in
theorem wd_1179 : Cond.instanceMethod yX10_readTone ∈ z_tbl := z_mem 1179 _ (by decide +kernel)
set_option maxRecDepth 100000 in
theorem wd_1180 : Cond.code yX10_readTone cX10_readTone 2 none ∈ z_tbl := z_mem 1180 _ (by decide +kernel)
set_option maxRecDepth 100000 in
theorem wd_1181 : Cond.constantLong RX10 171 (Int64.ofInt (999)) ∈ z_tbl := z_mem 1181 _ (by decide +kernel)
set_option maxRecDepth 100000 in
theorem wd_1182 : Cond.methodLink RX10 202 yX10_ends ∈ z_tbl := z_mem 1182 _ (by decide +kernel)
set_option maxRecDepth 100000 in
theorem wd_1184 : Cond.instanceMethod yX10_ends ∈ z_tbl := z_mem 1184 _ (by decide +kernel)
set_option maxRecDepth 100000 in
theorem wd_1185 : Cond.code yX10_ends cX10_ends 2 (some .int) ∈ z_tbl := z_mem 1185 _ (by decide +kernel)
set_option maxRecDepth 100000 in
theorem wd_1186 : Cond.constant RX10 179 (Int32.ofInt (-1000100)) ∈ z_tbl := z_mem 1186 _ (by decide +kernel)
set_option maxRecDepth 100000 in
theorem wd_1191 : Cond.constant RX10 219 (Int32.ofInt (-1000002)) ∈ z_tbl := z_mem 1191 _ (by decide +kernel)
set_option maxRecDepth 100000 in
theorem wd_1192 : Cond.methodLink RX10 209 yX10_orderOf ∈ z_tbl := z_mem 1192 _ (by decide +kernel)
set_option maxRecDepth 100000 in
theorem wd_1193 : Cond.static yX10_orderOf ∈ z_tbl := z_mem 1193 _ (by decide +kernel)
set_option maxRecDepth 100000 in
theorem wd_1194 : Cond.code yX10_orderOf cX10_orderOf 3 (some .int) ∈ z_tbl := z_mem 1194 _ (by decide +kernel)
set_option maxRecDepth 100000 in
theorem wd_1195 : Cond.constantLong RX10 144 (Int64.ofInt (6518132)) ∈ z_tbl := z_mem 1195 _ (by decide +kernel)
set_option maxRecDepth 100000 in
theorem wd_1196 : Cond.constantLong RX10 146 (Int64.ofInt (7103860)) ∈ z_tbl := z_mem 1196 _ (by decide +kernel)
set_option maxRecDepth 100000 in
theorem wd_1197 : Cond.constantLong RX10 148 (Int64.ofInt (1953854062)) ∈ z_tbl := z_mem 1197 _ (by decide +kernel)
set_option maxRecDepth 100000 in
theorem wd_1198 : Cond.constantLong RX10 150 (Int64.ofInt (6906725)) ∈ z_tbl := z_mem 1198 _ (by decide +kernel)
set_option maxRecDepth 100000 in
theorem wd_1199 : Cond.constantLong RX10 152 (Int64.ofInt (1952997751)) ∈ z_tbl := z_mem 1199 _ (by decide +kernel)
set_option maxRecDepth 100000 in
theorem wd_1200 : Cond.constantLong RX10 154 (Int64.ofInt (1717922924)) ∈ z_tbl := z_mem 1200 _ (by decide +kernel)
set_option maxRecDepth 100000 in
theorem wd_1201 : Cond.constantLong RX10 156 (Int64.ofInt (7824756)) ∈ z_tbl := z_mem 1201 _ (by decide +kernel)
set_option maxRecDepth 100000 in
theorem wd_1202 : Cond.constantLong RX10 158 (Int64.ofInt (6582905)) ∈ z_tbl := z_mem 1202 _ (by decide +kernel)
set_option maxRecDepth 100000 in
theorem wd_1203 : Cond.methodLink RX10 220 yX10_readOrder ∈ z_tbl := z_mem 1203 _ (by decide +kernel)
set_option maxRecDepth 100000 in
theorem wd_1205 : Cond.instanceMethod yX10_readOrder ∈ z_tbl := z_mem 1205 _ (by decide +kernel)
set_option maxRecDepth 100000 in
theorem wd_1206 : Cond.code yX10_readOrder cX10_readOrder 4 none ∈ z_tbl := z_mem 1206 _ (by decide +kernel)
set_option maxRecDepth 100000 in
theorem wd_1207 : Cond.methodLink RX10 223 yX10_does ∈ z_tbl := z_mem 1207 _ (by decide +kernel)
set_option maxRecDepth 100000 in
theorem wd_1209 : Cond.instanceMethod yX10_does ∈ z_tbl := z_mem 1209 _ (by decide +kernel)
set_option maxRecDepth 100000 in
theorem wd_1210 : Cond.code yX10_does cX10_does 8 none ∈ z_tbl := z_mem 1210 _ (by decide +kernel)
set_option maxRecDepth 100000 in
theorem wd_1211 : Cond.methodLink RX10 216 yX10_lengthOf ∈ z_tbl := z_mem 1211 _ (by decide +kernel)
set_option maxRecDepth 100000 in
theorem wd_1213 : Cond.instanceMethod yX10_lengthOf ∈ z_tbl := z_mem 1213 _ (by decide +kernel)
set_option maxRecDepth 100000 in
theorem wd_1214 : Cond.code yX10_lengthOf cX10_lengthOf 2 (some .int) ∈ z_tbl := z_mem 1214 _ (by decide +kernel)
set_option maxRecDepth 100000 in
theorem wd_1227 : Cond.constantLong RX10 230 (Int64.ofInt (60)) ∈ z_tbl := z_mem 1227 _ (by decide +kernel)
set_option maxRecDepth 100000 in
theorem wd_1228 : Cond.methodLink RX10 232 yX10_layLengths ∈ z_tbl := z_mem 1228 _ (by decide +kernel)
set_option maxRecDepth 100000 in
theorem wd_1230 : Cond.instanceMethod yX10_layLengths ∈ z_tbl := z_mem 1230 _ (by decide +kernel)
set_option maxRecDepth 100000 in
theorem wd_1231 : Cond.code yX10_layLengths cX10_layLengths 2 none ∈ z_tbl := z_mem 1231 _ (by decide +kernel)
set_option maxRecDepth 100000 in
theorem wd_1232 : Cond.methodLink RX10 227 yX10_of ∈ z_tbl := z_mem 1232 _ (by decide +kernel)
set_option maxRecDepth 100000 in
theorem wd_1234 : Cond.instanceMethod yX10_of ∈ z_tbl := z_mem 1234 _ (by decide +kernel)
set_option maxRecDepth 100000 in
theorem wd_1235 : Cond.code yX10_of cX10_of 3 (some .int) ∈ z_tbl := z_mem 1235 _ (by decide +kernel)
set_option maxRecDepth 100000 in
theorem wd_1236 : Cond.methodLink RX10 235 yX10_grow ∈ z_tbl := z_mem 1236 _ (by decide +kernel)
set_option maxRecDepth 100000 in
theorem wd_1238 : Cond.instanceMethod yX10_grow ∈ z_tbl := z_mem 1238 _ (by decide +kernel)
set_option maxRecDepth 100000 in
theorem wd_1239 : Cond.code yX10_grow cX10_grow 2 none ∈ z_tbl := z_mem 1239 _ (by decide +kernel)
set_option maxRecDepth 100000 in
theorem wd_1244 : Cond.methodLink RX10 238 yX10_isTree ∈ z_tbl := z_mem 1244 _ (by decide +kernel)
set_option maxRecDepth 100000 in
theorem wd_1246 : Cond.instanceMethod yX10_isTree ∈ z_tbl := z_mem 1246 _ (by decide +kernel)
set_option maxRecDepth 100000 in
theorem wd_1247 : Cond.code yX10_isTree cX10_isTree 2 (some .boolean) ∈ z_tbl := z_mem 1247 _ (by decide +kernel)
set_option maxRecDepth 100000 in
theorem wd_1248 : Cond.constantLong RX10 241 (Int64.ofInt (6)) ∈ z_tbl := z_mem 1248 _ (by decide +kernel)
set_option maxRecDepth 100000 in
theorem wd_1249 : Cond.methodLink RX10 243 yX10_tone ∈ z_tbl := z_mem 1249 _ (by decide +kernel)
set_option maxRecDepth 100000 in
theorem wd_1251 : Cond.instanceMethod yX10_tone ∈ z_tbl := z_mem 1251 _ (by decide +kernel)
set_option maxRecDepth 100000 in
theorem wd_1252 : Cond.code yX10_tone cX10_tone 3 (some .int) ∈ z_tbl := z_mem 1252 _ (by decide +kernel)
set_option maxRecDepth 100000 in
theorem wd_1257 : Cond.methodLink RX10 253 yX10_isWind ∈ z_tbl := z_mem 1257 _ (by decide +kernel)
set_option maxRecDepth 100000 in
theorem wd_1259 : Cond.instanceMethod yX10_isWind ∈ z_tbl := z_mem 1259 _ (by decide +kernel)
set_option maxRecDepth 100000 in
theorem wd_1260 : Cond.code yX10_isWind cX10_isWind 2 (some .boolean) ∈ z_tbl := z_mem 1260 _ (by decide +kernel)
set_option maxRecDepth 100000 in
theorem wd_1261 : Cond.methodLink RX10 256 yX10_listen ∈ z_tbl := z_mem 1261 _ (by decide +kernel)
set_option maxRecDepth 100000 in
theorem wd_1263 : Cond.instanceMethod yX10_listen ∈ z_tbl := z_mem 1263 _ (by decide +kernel)
set_option maxRecDepth 100000 in
theorem wd_1264 : Cond.code yX10_listen cX10_listen 3 none ∈ z_tbl := z_mem 1264 _ (by decide +kernel)
set_option maxRecDepth 100000 in
theorem wd_1265 : Cond.methodLink RX10 249 yX10_sounds ∈ z_tbl := z_mem 1265 _ (by decide +kernel)
set_option maxRecDepth 100000 in
theorem wd_1267 : Cond.instanceMethod yX10_sounds ∈ z_tbl := z_mem 1267 _ (by decide +kernel)
set_option maxRecDepth 100000 in
theorem wd_1268 : Cond.code yX10_sounds cX10_sounds 5 (some .boolean) ∈ z_tbl := z_mem 1268 _ (by decide +kernel)
set_option maxRecDepth 100000 in
theorem wd_1273 : Cond.methodLink RX10 273 yX10_isApart ∈ z_tbl := z_mem 1273 _ (by decide +kernel)
set_option maxRecDepth 100000 in
theorem wd_1274 : Cond.static yX10_isApart ∈ z_tbl := z_mem 1274 _ (by decide +kernel)
set_option maxRecDepth 100000 in
theorem wd_1275 : Cond.code yX10_isApart cX10_isApart 1 (some .boolean) ∈ z_tbl := z_mem 1275 _ (by decide +kernel)
set_option maxRecDepth 100000 in
theorem wd_1276 : Cond.constantLong RX10 269 (Int64.ofInt (99)) ∈ z_tbl := z_mem 1276 _ (by decide +kernel)
set_option maxRecDepth 100000 in
theorem wd_1277 : Cond.methodLink RX10 276 yX10_slipsIn ∈ z_tbl := z_mem 1277 _ (by decide +kernel)
set_option maxRecDepth 100000 in
theorem wd_1279 : Cond.instanceMethod yX10_slipsIn ∈ z_tbl := z_mem 1279 _ (by decide +kernel)
set_option maxRecDepth 100000 in
theorem wd_1280 : Cond.code yX10_slipsIn cX10_slipsIn 3 (some .int) ∈ z_tbl := z_mem 1280 _ (by decide +kernel)
set_option maxRecDepth 100000 in
theorem wd_1281 : Cond.methodLink RX10 266 yX10_slipsNow ∈ z_tbl := z_mem 1281 _ (by decide +kernel)
set_option maxRecDepth 100000 in
theorem wd_1283 : Cond.instanceMethod yX10_slipsNow ∈ z_tbl := z_mem 1283 _ (by decide +kernel)
set_option maxRecDepth 100000 in
theorem wd_1284 : Cond.code yX10_slipsNow cX10_slipsNow 6 (some .int) ∈ z_tbl := z_mem 1284 _ (by decide +kernel)
set_option maxRecDepth 100000 in
theorem wd_1285 : Cond.methodLink RX10 259 yX10_isNear ∈ z_tbl := z_mem 1285 _ (by decide +kernel)
set_option maxRecDepth 100000 in
theorem wd_1286 : Cond.static yX10_isNear ∈ z_tbl := z_mem 1286 _ (by decide +kernel)
set_option maxRecDepth 100000 in
theorem wd_1287 : Cond.code yX10_isNear cX10_isNear 3 (some .boolean) ∈ z_tbl := z_mem 1287 _ (by decide +kernel)
set_option maxRecDepth 100000 in
theorem wd_1288 : Cond.methodLink RX10 263 yX10_lesser ∈ z_tbl := z_mem 1288 _ (by decide +kernel)
set_option maxRecDepth 100000 in
theorem wd_1289 : Cond.static yX10_lesser ∈ z_tbl := z_mem 1289 _ (by decide +kernel)
set_option maxRecDepth 100000 in
theorem wd_1290 : Cond.code yX10_lesser cX10_lesser 2 (some .int) ∈ z_tbl := z_mem 1290 _ (by decide +kernel)
set_option maxRecDepth 100000 in
theorem wd_1295 : Cond.constantLong RX10 271 (Int64.ofInt (20)) ∈ z_tbl := z_mem 1295 _ (by decide +kernel)
set_option maxRecDepth 100000 in
theorem wd_1296 : Cond.methodLink RX10 285 yX10_isSlips ∈ z_tbl := z_mem 1296 _ (by decide +kernel)
set_option maxRecDepth 100000 in
theorem wd_1297 : Cond.static yX10_isSlips ∈ z_tbl := z_mem 1297 _ (by decide +kernel)
set_option maxRecDepth 100000 in
theorem wd_1298 : Cond.code yX10_isSlips cX10_isSlips 1 (some .boolean) ∈ z_tbl := z_mem 1298 _ (by decide +kernel)
set_option maxRecDepth 100000 in
theorem wd_1299 : Cond.methodLink RX10 288 yX10_layCuts ∈ z_tbl := z_mem 1299 _ (by decide +kernel)
set_option maxRecDepth 100000 in
theorem wd_1301 : Cond.instanceMethod yX10_layCuts ∈ z_tbl := z_mem 1301 _ (by decide +kernel)
set_option maxRecDepth 100000 in
theorem wd_1302 : Cond.code yX10_layCuts cX10_layCuts 6 (some .boolean) ∈ z_tbl := z_mem 1302 _ (by decide +kernel)
set_option maxRecDepth 100000 in
theorem wd_1315 : Cond.methodLink RX10 291 yX10_buzzNow ∈ z_tbl := z_mem 1315 _ (by decide +kernel)
set_option maxRecDepth 100000 in
theorem wd_1317 : Cond.instanceMethod yX10_buzzNow ∈ z_tbl := z_mem 1317 _ (by decide +kernel)
set_option maxRecDepth 100000 in
theorem wd_1318 : Cond.code yX10_buzzNow cX10_buzzNow 5 (some .int) ∈ z_tbl := z_mem 1318 _ (by decide +kernel)
set_option maxRecDepth 100000 in
theorem wd_1323 : Cond.methodLink RX10 294 yX10_isNearLong ∈ z_tbl := z_mem 1323 _ (by decide +kernel)
set_option maxRecDepth 100000 in
theorem wd_1324 : Cond.static yX10_isNearLong ∈ z_tbl := z_mem 1324 _ (by decide +kernel)
set_option maxRecDepth 100000 in
theorem wd_1325 : Cond.code yX10_isNearLong cX10_isNearLong 5 (some .boolean) ∈ z_tbl := z_mem 1325 _ (by decide +kernel)
set_option maxRecDepth 100000 in
theorem wd_1330 : Cond.constantLong RX10 298 (Int64.ofInt (5)) ∈ z_tbl := z_mem 1330 _ (by decide +kernel)
set_option maxRecDepth 100000 in
theorem wd_1331 : Cond.constantLong RX10 300 (Int64.ofInt (2000)) ∈ z_tbl := z_mem 1331 _ (by decide +kernel)
set_option maxRecDepth 100000 in
theorem wd_1336 : Cond.constantLong RX10 302 (Int64.ofInt (12)) ∈ z_tbl := z_mem 1336 _ (by decide +kernel)
set_option maxRecDepth 100000 in
theorem wd_1337 : Cond.methodLink RX10 304 yX10_heardSet ∈ z_tbl := z_mem 1337 _ (by decide +kernel)
set_option maxRecDepth 100000 in
theorem wd_1339 : Cond.instanceMethod yX10_heardSet ∈ z_tbl := z_mem 1339 _ (by decide +kernel)
set_option maxRecDepth 100000 in
theorem wd_1340 : Cond.code yX10_heardSet cX10_heardSet 3 (some .int) ∈ z_tbl := z_mem 1340 _ (by decide +kernel)
set_option maxRecDepth 100000 in
theorem wd_1341 : Cond.methodLink RX10 307 yX10_isLeft ∈ z_tbl := z_mem 1341 _ (by decide +kernel)
set_option maxRecDepth 100000 in
theorem wd_1343 : Cond.instanceMethod yX10_isLeft ∈ z_tbl := z_mem 1343 _ (by decide +kernel)
set_option maxRecDepth 100000 in
theorem wd_1344 : Cond.code yX10_isLeft cX10_isLeft 6 (some .boolean) ∈ z_tbl := z_mem 1344 _ (by decide +kernel)
set_option maxRecDepth 100000 in
theorem wd_1357 : Cond.methodLink RX10 310 yX10_kindOf ∈ z_tbl := z_mem 1357 _ (by decide +kernel)
set_option maxRecDepth 100000 in
theorem wd_1359 : Cond.instanceMethod yX10_kindOf ∈ z_tbl := z_mem 1359 _ (by decide +kernel)
set_option maxRecDepth 100000 in
theorem wd_1360 : Cond.code yX10_kindOf cX10_kindOf 3 (some .int) ∈ z_tbl := z_mem 1360 _ (by decide +kernel)
set_option maxRecDepth 100000 in
theorem wd_1365 : Cond.methodLink RX10 313 yX10_isOf ∈ z_tbl := z_mem 1365 _ (by decide +kernel)
set_option maxRecDepth 100000 in
theorem wd_1366 : Cond.static yX10_isOf ∈ z_tbl := z_mem 1366 _ (by decide +kernel)
set_option maxRecDepth 100000 in
theorem wd_1367 : Cond.code yX10_isOf cX10_isOf 2 (some .boolean) ∈ z_tbl := z_mem 1367 _ (by decide +kernel)
set_option maxRecDepth 100000 in
theorem wd_1372 : Cond.methodLink RX10 331 yX10_sizeOf ∈ z_tbl := z_mem 1372 _ (by decide +kernel)
set_option maxRecDepth 100000 in
theorem wd_1374 : Cond.instanceMethod yX10_sizeOf ∈ z_tbl := z_mem 1374 _ (by decide +kernel)
set_option maxRecDepth 100000 in
theorem wd_1375 : Cond.code yX10_sizeOf cX10_sizeOf 4 (some .int) ∈ z_tbl := z_mem 1375 _ (by decide +kernel)
set_option maxRecDepth 100000 in
theorem wd_1376 : Cond.methodLink RX10 325 yX10_muteSize ∈ z_tbl := z_mem 1376 _ (by decide +kernel)
set_option maxRecDepth 100000 in
theorem wd_1378 : Cond.instanceMethod yX10_muteSize ∈ z_tbl := z_mem 1378 _ (by decide +kernel)
set_option maxRecDepth 100000 in
theorem wd_1379 : Cond.code yX10_muteSize cX10_muteSize 4 (some .int) ∈ z_tbl := z_mem 1379 _ (by decide +kernel)
set_option maxRecDepth 100000 in
theorem wd_1380 : Cond.methodLink RX10 319 yX10_began ∈ z_tbl := z_mem 1380 _ (by decide +kernel)
set_option maxRecDepth 100000 in
theorem wd_1382 : Cond.instanceMethod yX10_began ∈ z_tbl := z_mem 1382 _ (by decide +kernel)
set_option maxRecDepth 100000 in
theorem wd_1383 : Cond.code yX10_began cX10_began 2 none ∈ z_tbl := z_mem 1383 _ (by decide +kernel)
set_option maxRecDepth 100000 in
theorem wd_1384 : Cond.methodLink RX10 322 yX10_plainSize ∈ z_tbl := z_mem 1384 _ (by decide +kernel)
set_option maxRecDepth 100000 in
theorem wd_1386 : Cond.instanceMethod yX10_plainSize ∈ z_tbl := z_mem 1386 _ (by decide +kernel)
set_option maxRecDepth 100000 in
theorem wd_1387 : Cond.code yX10_plainSize cX10_plainSize 2 (some .int) ∈ z_tbl := z_mem 1387 _ (by decide +kernel)
set_option maxRecDepth 100000 in
theorem wd_1388 : Cond.methodLink RX10 328 yX10_markOf ∈ z_tbl := z_mem 1388 _ (by decide +kernel)
set_option maxRecDepth 100000 in
theorem wd_1390 : Cond.instanceMethod yX10_markOf ∈ z_tbl := z_mem 1390 _ (by decide +kernel)
set_option maxRecDepth 100000 in
theorem wd_1391 : Cond.code yX10_markOf cX10_markOf 3 (some .int) ∈ z_tbl := z_mem 1391 _ (by decide +kernel)
set_option maxRecDepth 100000 in
theorem wd_1405 : Cond.fieldLink "java/lang/String" 9 "java/lang/String" "value" "[B" ∈ z_tbl := z_mem 1405 _ (by decide +kernel)
set_option maxRecDepth 100000 in
theorem wd_1406 : Cond.fieldLink "java/lang/String" 15 "java/lang/String" "coder" "B" ∈ z_tbl := z_mem 1406 _ (by decide +kernel)
