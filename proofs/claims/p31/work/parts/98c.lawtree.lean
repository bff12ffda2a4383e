theorem w_low_if (v c : Int) {a b : Int} (ha : 1 ≤ a) (hb : 1 ≤ b) : 0 ≤ w_low v (if c = 0 then a else b) ∧ (c = 0 → w_low v (if c = 0 then a else b) < a) ∧ (¬ c = 0 → w_low v (if c = 0 then a else b) < b) := by
  by_cases h : c = 0
  · rw [if_pos h]
    have := w_low_in (v := v) ha
    omega
  · rw [if_neg h]
    have := w_low_in (v := v) hb
    omega
def w_tr (zx : zX) (t q : Nat) : Int := if q = 0 then 10 + w_low (w_cell zx (1 + t)) (if w_b1 (w_sar (w_cell zx (1 + t)) 30) = 0 then 20 else 90) else if q = 1 then 1 + w_low (w_sar (w_cell zx (1 + t)) 7) (if w_b1 (w_sar (w_cell zx (1 + t)) 29) = 0 then 4 else 20) else if q = 2 then w_low (w_sar (w_cell zx (1 + t)) 12) (if w_b1 (w_sar (w_cell zx (1 + t)) 28) = 0 then 3 else 8) else w_low (w_sar (w_cell zx (1 + t)) 16) 6
theorem w_tr_in (zx : zX) (t q : Nat) : 0 ≤ w_tr zx t q ∧ (q = 0 → 10 ≤ w_tr zx t q ∧ w_tr zx t q ≤ 99) ∧ (q = 1 → 1 ≤ w_tr zx t q ∧ w_tr zx t q ≤ 20) ∧ (q = 2 → w_tr zx t q ≤ 7) ∧ (2 < q → w_tr zx t q ≤ 5) := by
  unfold w_tr
  by_cases h0 : q = 0
  · rw [if_pos h0]
    have := w_low_if (w_cell zx (1 + t)) (w_b1 (w_sar (w_cell zx (1 + t)) 30)) (a := 20) (b := 90) (by omega) (by omega)
    omega
  rw [if_neg h0]
  by_cases h1 : q = 1
  · rw [if_pos h1]
    have := w_low_if (w_sar (w_cell zx (1 + t)) 7) (w_b1 (w_sar (w_cell zx (1 + t)) 29)) (a := 4) (b := 20) (by omega) (by omega)
    omega
  rw [if_neg h1]
  by_cases h2 : q = 2
  · rw [if_pos h2]
    have := w_low_if (w_sar (w_cell zx (1 + t)) 12) (w_b1 (w_sar (w_cell zx (1 + t)) 28)) (a := 3) (b := 8) (by omega) (by omega)
    omega
  rw [if_neg h2]
  have := w_low_in (v := w_sar (w_cell zx (1 + t)) 16) (n := 6) (by omega)
  omega
def w_wi (zx : zX) (t q : Nat) : Int := if q = 0 then w_low (w_cell zx (9 + t)) (if w_b1 (w_sar (w_cell zx (9 + t)) 28) = 0 then 3 else 8) else if q = 1 then 1 + w_low (w_sar (w_cell zx (9 + t)) 3) (if w_b1 (w_sar (w_cell zx (9 + t)) 30) = 0 then 4 else 20) else 1 + w_low (w_sar (w_cell zx (9 + t)) 8) 99
theorem w_wi_in (zx : zX) (t q : Nat) : 0 ≤ w_wi zx t q ∧ (q = 0 → w_wi zx t q ≤ 7) ∧ (q = 1 → 1 ≤ w_wi zx t q ∧ w_wi zx t q ≤ 20) ∧ (1 < q → 1 ≤ w_wi zx t q ∧ w_wi zx t q ≤ 99) := by
  unfold w_wi
  by_cases h0 : q = 0
  · rw [if_pos h0]
    have := w_low_if (w_cell zx (9 + t)) (w_b1 (w_sar (w_cell zx (9 + t)) 28)) (a := 3) (b := 8) (by omega) (by omega)
    omega
  rw [if_neg h0]
  by_cases h1 : q = 1
  · rw [if_pos h1]
    have := w_low_if (w_sar (w_cell zx (9 + t)) 3) (w_b1 (w_sar (w_cell zx (9 + t)) 30)) (a := 4) (b := 20) (by omega) (by omega)
    omega
  rw [if_neg h1]
  have := w_low_in (v := w_sar (w_cell zx (9 + t)) 8) (n := 99) (by omega)
  omega
def SL_tree (zx : zX) : zS := fun as σ Ret => match as with
  | [.inr (.inr (252, 0, _)), .inl t, .inl q] => ((0 ≤ t ∧ t ≤ 100) ∧ 0 ≤ q ∧ q ≤ 3) ∧ Ret (some (.inl (w_tr zx t.toNat q.toNat))) σ
  | _ => False
def tL_tree_0 (zx : zX) (X : Nat → zB) (Ret : zR) (L : zL) (st : List zV) (σ : zM) : Prop := (z_aload 0 (z_push 1 (z_iload 1 (z_iadd (z_cs2 (SL_cell zx) (z_istore 3 (z_iload 2 (z_ifne (z_iload 2 (z_push 1 (z_icne (z_iload 2 (z_push 2 (z_icne (z_iload 3 (z_push 16 (z_ishr (z_push 6 (z_cs2 (SL_low zx) (z_iret Ret)))))) (z_iload 3 (z_push 12 (z_ishr (z_iload 3 (z_push 28 (z_ishr (z_push 1 (z_iand (z_ifne (z_push 8 (z_cs2 (SL_low zx) (z_goto (z_iret Ret)))) (z_push 3 (z_goto (z_cs2 (SL_low zx) (z_goto (z_iret Ret))))))))))))))))) (z_push 1 (z_iload 3 (z_push 7 (z_ishr (z_iload 3 (z_push 29 (z_ishr (z_push 1 (z_iand (z_ifne (z_push 20 (z_cs2 (SL_low zx) (z_iadd (z_goto (z_iret Ret))))) (z_push 4 (z_goto (z_cs2 (SL_low zx) (z_iadd (z_goto (z_iret Ret))))))))))))))))))) (z_push 10 (z_iload 3 (z_iload 3 (z_push 30 (z_ishr (z_push 1 (z_iand (z_ifne (z_push 90 (z_cs2 (SL_low zx) (z_iadd (z_goto (z_iret Ret))))) (z_push 20 (z_goto (z_cs2 (SL_low zx) (z_iadd (z_goto (z_iret Ret)))))))))))))))))))))) L st σ
theorem pL_tree {zx : zX} {as : List zV} {σ : zM} {Ret : zR} (h : (SL_tree zx) as σ Ret) : ∃ (k1 : Nat) (x2 : Int) (x3 : Int), as = [.inr (.inr (252, 0, k1)), .inl x2, .inl x3] := by
  unfold SL_tree at h
  split at h
  · exact ⟨_, _, _, rfl⟩
  · exact h.elim
set_option maxRecDepth 10000 in
set_option maxHeartbeats 4000000 in
theorem vL_tree {zx : zX} {X : Nat → zB} {Ret : zR} (h0 : ∀ L st σ, tL_tree_0 zx X Ret L st σ → X 0 L st σ) (k1 : Nat) (x2 : Int) (x3 : Int) (σ : zM) (hk1 : z_kd k1 = (252, 0)) (hx2 : -2147483648 ≤ x2 ∧ x2 ≤ 2147483647) (hx3 : -2147483648 ≤ x3 ∧ x3 ≤ 2147483647) (hσ : z_okm σ) (h : (SL_tree zx) [.inr (.inr (252, 0, k1)), .inl x2, .inl x3] σ Ret) : X 0 [some (.inr (.inr (252, 0, k1))), some (.inl x2), some (.inl x3), none] [] σ := by
  obtain ⟨⟨c1, c2⟩, h⟩ := h
  obtain ⟨t, rfl⟩ := z_nat c1.1
  have b := w_tr_in zx t x3.toNat
  rw [Int.toNat_natCast] at h
  have e : (1 + (t : Int)).toNat = 1 + t := by omega
  refine h0 _ _ _ ?_
  have q : x3 = 0 ∨ x3 = 1 ∨ x3 = 2 ∨ x3 = 3 := by omega
  rcases q with rfl | rfl | rfl | rfl
  · simp only [w_tr, forall_const, true_implies, Int.reduceToNat, ↓reduceIte] at h b
    simp only [z_push, z_lpush, z_iload, z_lload, z_aload, z_istore, z_istoreP, z_lstore, z_astore, z_iinc, z_iincP, z_iadd, z_isub, z_imul, z_iaddW, z_isubW, z_imulW, z_idiv, z_irem, z_iand, z_ior, z_ixor, z_ishl, z_ishr, z_iushr, z_ineg, z_i2l, z_i2b, z_i2s, z_i2c, z_l2i, z_ladd, z_lsub, z_land, z_lor, z_lshl, z_lshr, z_lcmp, z_dup, z_pop, z_dup2, z_goto, z_tsw, z_cases, z_geti, z_getr, z_puti, z_putz, z_ald, z_iast, z_bast, z_zast, z_alen, z_acopy, z_mmax, z_mmin, z_mabs, z_mabsL, z_iret, z_zret, z_nret, z_lret, z_aret, z_vret, z_cat, z_xald, z_xlen, z_ldcs, z_strv, z_strc, z_gcs, z_gfm, z_sln, z_sald, z_ifeq, z_ifne, z_iflt, z_ifge, z_ifgt, z_ifle, z_iceq, z_icne, z_iclt, z_icge, z_icgt, z_icle, z_cs0, z_cs1, z_cs2, z_cs3, z_cs4, z_cs5, z_cs6, z_cs7, z_cv0, z_cv1, z_cv2, z_cv3, z_cv4, z_cv5, z_cv6, z_cv7, z_g0, z_s0, z_g1, z_s1, z_g2, z_s2, z_g3, z_s3, z_g4, z_s4, z_g5, z_s5, z_g6, z_s6, z_g7, z_s7, z_g8, z_s8, z_g9, z_s9, z_g10, z_s10, z_g11, z_s11, z_g12, z_s12, z_g13, z_s13, z_b0, z_b1, z_b0n, z_b1n, z_up_far1, z_up_far2, z_up_far3, z_up_far4, z_up_far5, z_up_far6, Classical.not_not, not_true_eq_false, z_in, z_inL, Int.cast_ofNat_Int, Nat.reduceLeDiff, List.length_cons, List.length_nil, Nat.reduceAdd, Nat.zero_add, Nat.le_refl, true_and, and_true, List.length, Nat.reduceLT, true_or, or_true, false_or, or_false, false_and, and_false, not_true_eq_false, not_false_eq_true, forall_const, false_implies, true_implies, Int.reduceEq, Int.reduceLT, Int.reduceLE, Int.reduceAdd, Int.reduceSub, Int.reduceMul, Int.reduceNeg, Int.reduceToNat, Int.toNat_natCast, ↓reduceIte, reduceIte, Nat.reduceEqDiff, Nat.reduceSub, Nat.reduceMul, ne_eq, Int.zero_add, Int.add_zero, Int.sub_zero, Nat.add_zero, Int.ofNat_eq_natCast, tL_tree_0, SL_cell, SL_low, e, w_sar_f, w_b1_f]
    refine ⟨by omega, by omega, fun c => ?_, fun c => ?_⟩
    · rw [if_neg c] at h b
      exact ⟨by omega, h⟩
    · rw [if_pos c] at h b
      exact ⟨by omega, h⟩
  · simp only [w_tr, forall_const, true_implies, Int.reduceToNat, ↓reduceIte, Nat.reduceEqDiff] at h b
    simp only [z_push, z_lpush, z_iload, z_lload, z_aload, z_istore, z_istoreP, z_lstore, z_astore, z_iinc, z_iincP, z_iadd, z_isub, z_imul, z_iaddW, z_isubW, z_imulW, z_idiv, z_irem, z_iand, z_ior, z_ixor, z_ishl, z_ishr, z_iushr, z_ineg, z_i2l, z_i2b, z_i2s, z_i2c, z_l2i, z_ladd, z_lsub, z_land, z_lor, z_lshl, z_lshr, z_lcmp, z_dup, z_pop, z_dup2, z_goto, z_tsw, z_cases, z_geti, z_getr, z_puti, z_putz, z_ald, z_iast, z_bast, z_zast, z_alen, z_acopy, z_mmax, z_mmin, z_mabs, z_mabsL, z_iret, z_zret, z_nret, z_lret, z_aret, z_vret, z_cat, z_xald, z_xlen, z_ldcs, z_strv, z_strc, z_gcs, z_gfm, z_sln, z_sald, z_ifeq, z_ifne, z_iflt, z_ifge, z_ifgt, z_ifle, z_iceq, z_icne, z_iclt, z_icge, z_icgt, z_icle, z_cs0, z_cs1, z_cs2, z_cs3, z_cs4, z_cs5, z_cs6, z_cs7, z_cv0, z_cv1, z_cv2, z_cv3, z_cv4, z_cv5, z_cv6, z_cv7, z_g0, z_s0, z_g1, z_s1, z_g2, z_s2, z_g3, z_s3, z_g4, z_s4, z_g5, z_s5, z_g6, z_s6, z_g7, z_s7, z_g8, z_s8, z_g9, z_s9, z_g10, z_s10, z_g11, z_s11, z_g12, z_s12, z_g13, z_s13, z_b0, z_b1, z_b0n, z_b1n, z_up_far1, z_up_far2, z_up_far3, z_up_far4, z_up_far5, z_up_far6, Classical.not_not, not_true_eq_false, z_in, z_inL, Int.cast_ofNat_Int, Nat.reduceLeDiff, List.length_cons, List.length_nil, Nat.reduceAdd, Nat.zero_add, Nat.le_refl, true_and, and_true, List.length, Nat.reduceLT, true_or, or_true, false_or, or_false, false_and, and_false, not_true_eq_false, not_false_eq_true, forall_const, false_implies, true_implies, Int.reduceEq, Int.reduceLT, Int.reduceLE, Int.reduceAdd, Int.reduceSub, Int.reduceMul, Int.reduceNeg, Int.reduceToNat, Int.toNat_natCast, ↓reduceIte, reduceIte, Nat.reduceEqDiff, Nat.reduceSub, Nat.reduceMul, ne_eq, Int.zero_add, Int.add_zero, Int.sub_zero, Nat.add_zero, Int.ofNat_eq_natCast, tL_tree_0, SL_cell, SL_low, e, w_sar_f, w_b1_f]
    refine ⟨by omega, by omega, fun c => ?_, fun c => ?_⟩
    · rw [if_neg c] at h b
      exact ⟨by omega, h⟩
    · rw [if_pos c] at h b
      exact ⟨by omega, h⟩
  · simp only [w_tr, forall_const, true_implies, Int.reduceToNat, ↓reduceIte, Nat.reduceEqDiff] at h b
    simp only [z_push, z_lpush, z_iload, z_lload, z_aload, z_istore, z_istoreP, z_lstore, z_astore, z_iinc, z_iincP, z_iadd, z_isub, z_imul, z_iaddW, z_isubW, z_imulW, z_idiv, z_irem, z_iand, z_ior, z_ixor, z_ishl, z_ishr, z_iushr, z_ineg, z_i2l, z_i2b, z_i2s, z_i2c, z_l2i, z_ladd, z_lsub, z_land, z_lor, z_lshl, z_lshr, z_lcmp, z_dup, z_pop, z_dup2, z_goto, z_tsw, z_cases, z_geti, z_getr, z_puti, z_putz, z_ald, z_iast, z_bast, z_zast, z_alen, z_acopy, z_mmax, z_mmin, z_mabs, z_mabsL, z_iret, z_zret, z_nret, z_lret, z_aret, z_vret, z_cat, z_xald, z_xlen, z_ldcs, z_strv, z_strc, z_gcs, z_gfm, z_sln, z_sald, z_ifeq, z_ifne, z_iflt, z_ifge, z_ifgt, z_ifle, z_iceq, z_icne, z_iclt, z_icge, z_icgt, z_icle, z_cs0, z_cs1, z_cs2, z_cs3, z_cs4, z_cs5, z_cs6, z_cs7, z_cv0, z_cv1, z_cv2, z_cv3, z_cv4, z_cv5, z_cv6, z_cv7, z_g0, z_s0, z_g1, z_s1, z_g2, z_s2, z_g3, z_s3, z_g4, z_s4, z_g5, z_s5, z_g6, z_s6, z_g7, z_s7, z_g8, z_s8, z_g9, z_s9, z_g10, z_s10, z_g11, z_s11, z_g12, z_s12, z_g13, z_s13, z_b0, z_b1, z_b0n, z_b1n, z_up_far1, z_up_far2, z_up_far3, z_up_far4, z_up_far5, z_up_far6, Classical.not_not, not_true_eq_false, z_in, z_inL, Int.cast_ofNat_Int, Nat.reduceLeDiff, List.length_cons, List.length_nil, Nat.reduceAdd, Nat.zero_add, Nat.le_refl, true_and, and_true, List.length, Nat.reduceLT, true_or, or_true, false_or, or_false, false_and, and_false, not_true_eq_false, not_false_eq_true, forall_const, false_implies, true_implies, Int.reduceEq, Int.reduceLT, Int.reduceLE, Int.reduceAdd, Int.reduceSub, Int.reduceMul, Int.reduceNeg, Int.reduceToNat, Int.toNat_natCast, ↓reduceIte, reduceIte, Nat.reduceEqDiff, Nat.reduceSub, Nat.reduceMul, ne_eq, Int.zero_add, Int.add_zero, Int.sub_zero, Nat.add_zero, Int.ofNat_eq_natCast, tL_tree_0, SL_cell, SL_low, e, w_sar_f, w_b1_f]
    refine ⟨by omega, by omega, fun c => ?_, fun c => ?_⟩
    · rw [if_neg c] at h b
      exact h
    · rw [if_pos c] at h b
      exact h
  · simp only [w_tr, forall_const, true_implies, Int.reduceToNat, ↓reduceIte, Nat.reduceEqDiff] at h b
    simp only [z_push, z_lpush, z_iload, z_lload, z_aload, z_istore, z_istoreP, z_lstore, z_astore, z_iinc, z_iincP, z_iadd, z_isub, z_imul, z_iaddW, z_isubW, z_imulW, z_idiv, z_irem, z_iand, z_ior, z_ixor, z_ishl, z_ishr, z_iushr, z_ineg, z_i2l, z_i2b, z_i2s, z_i2c, z_l2i, z_ladd, z_lsub, z_land, z_lor, z_lshl, z_lshr, z_lcmp, z_dup, z_pop, z_dup2, z_goto, z_tsw, z_cases, z_geti, z_getr, z_puti, z_putz, z_ald, z_iast, z_bast, z_zast, z_alen, z_acopy, z_mmax, z_mmin, z_mabs, z_mabsL, z_iret, z_zret, z_nret, z_lret, z_aret, z_vret, z_cat, z_xald, z_xlen, z_ldcs, z_strv, z_strc, z_gcs, z_gfm, z_sln, z_sald, z_ifeq, z_ifne, z_iflt, z_ifge, z_ifgt, z_ifle, z_iceq, z_icne, z_iclt, z_icge, z_icgt, z_icle, z_cs0, z_cs1, z_cs2, z_cs3, z_cs4, z_cs5, z_cs6, z_cs7, z_cv0, z_cv1, z_cv2, z_cv3, z_cv4, z_cv5, z_cv6, z_cv7, z_g0, z_s0, z_g1, z_s1, z_g2, z_s2, z_g3, z_s3, z_g4, z_s4, z_g5, z_s5, z_g6, z_s6, z_g7, z_s7, z_g8, z_s8, z_g9, z_s9, z_g10, z_s10, z_g11, z_s11, z_g12, z_s12, z_g13, z_s13, z_b0, z_b1, z_b0n, z_b1n, z_up_far1, z_up_far2, z_up_far3, z_up_far4, z_up_far5, z_up_far6, Classical.not_not, not_true_eq_false, z_in, z_inL, Int.cast_ofNat_Int, Nat.reduceLeDiff, List.length_cons, List.length_nil, Nat.reduceAdd, Nat.zero_add, Nat.le_refl, true_and, and_true, List.length, Nat.reduceLT, true_or, or_true, false_or, or_false, false_and, and_false, not_true_eq_false, not_false_eq_true, forall_const, false_implies, true_implies, Int.reduceEq, Int.reduceLT, Int.reduceLE, Int.reduceAdd, Int.reduceSub, Int.reduceMul, Int.reduceNeg, Int.reduceToNat, Int.toNat_natCast, ↓reduceIte, reduceIte, Nat.reduceEqDiff, Nat.reduceSub, Nat.reduceMul, ne_eq, Int.zero_add, Int.add_zero, Int.sub_zero, Nat.add_zero, Int.ofNat_eq_natCast, tL_tree_0, SL_cell, SL_low, e, w_sar_f, w_b1_f]
    exact ⟨by omega, by omega, h⟩
theorem dL_tree_0 : decode cL_tree 0 = .ok (.aload_n 0, 1) := by decide +kernel
theorem dL_tree_1 : decode cL_tree 1 = .ok (.iconst 1, 1) := by decide +kernel
theorem dL_tree_2 : decode cL_tree 2 = .ok (.iload_n 1, 1) := by decide +kernel
theorem dL_tree_3 : decode cL_tree 3 = .ok (.iadd, 1) := by decide +kernel
theorem dL_tree_4 : decode cL_tree 4 = .ok (.invokestatic 17, 3) := by decide +kernel
theorem dL_tree_7 : decode cL_tree 7 = .ok (.istore_n 3, 1) := by decide +kernel
theorem dL_tree_8 : decode cL_tree 8 = .ok (.iload_n 2, 1) := by decide +kernel
theorem dL_tree_9 : decode cL_tree 9 = .ok (.ifCond .ne 29, 3) := by decide +kernel
theorem dL_tree_12 : decode cL_tree 12 = .ok (.bipush 10, 2) := by decide +kernel
theorem dL_tree_14 : decode cL_tree 14 = .ok (.iload_n 3, 1) := by decide +kernel
theorem dL_tree_15 : decode cL_tree 15 = .ok (.iload_n 3, 1) := by decide +kernel
theorem dL_tree_16 : decode cL_tree 16 = .ok (.bipush 30, 2) := by decide +kernel
theorem dL_tree_18 : decode cL_tree 18 = .ok (.ishr, 1) := by decide +kernel
theorem dL_tree_19 : decode cL_tree 19 = .ok (.iconst 1, 1) := by decide +kernel
theorem dL_tree_20 : decode cL_tree 20 = .ok (.iand, 1) := by decide +kernel
theorem dL_tree_21 : decode cL_tree 21 = .ok (.ifCond .ne 8, 3) := by decide +kernel
theorem dL_tree_24 : decode cL_tree 24 = .ok (.bipush 20, 2) := by decide +kernel
theorem dL_tree_26 : decode cL_tree 26 = .ok (.goto 5, 3) := by decide +kernel
theorem dL_tree_29 : decode cL_tree 29 = .ok (.bipush 90, 2) := by decide +kernel
theorem dL_tree_31 : decode cL_tree 31 = .ok (.invokestatic 23, 3) := by decide +kernel
theorem dL_tree_34 : decode cL_tree 34 = .ok (.iadd, 1) := by decide +kernel
theorem dL_tree_35 : decode cL_tree 35 = .ok (.goto 74, 3) := by decide +kernel
theorem dL_tree_38 : decode cL_tree 38 = .ok (.iload_n 2, 1) := by decide +kernel
theorem dL_tree_39 : decode cL_tree 39 = .ok (.iconst 1, 1) := by decide +kernel
theorem dL_tree_40 : decode cL_tree 40 = .ok (.if_icmp .ne 30, 3) := by decide +kernel
theorem dL_tree_43 : decode cL_tree 43 = .ok (.iconst 1, 1) := by decide +kernel
theorem dL_tree_44 : decode cL_tree 44 = .ok (.iload_n 3, 1) := by decide +kernel
theorem dL_tree_45 : decode cL_tree 45 = .ok (.bipush 7, 2) := by decide +kernel
theorem dL_tree_47 : decode cL_tree 47 = .ok (.ishr, 1) := by decide +kernel
theorem dL_tree_48 : decode cL_tree 48 = .ok (.iload_n 3, 1) := by decide +kernel
theorem dL_tree_49 : decode cL_tree 49 = .ok (.bipush 29, 2) := by decide +kernel
theorem dL_tree_51 : decode cL_tree 51 = .ok (.ishr, 1) := by decide +kernel
theorem dL_tree_52 : decode cL_tree 52 = .ok (.iconst 1, 1) := by decide +kernel
theorem dL_tree_53 : decode cL_tree 53 = .ok (.iand, 1) := by decide +kernel
theorem dL_tree_54 : decode cL_tree 54 = .ok (.ifCond .ne 7, 3) := by decide +kernel
theorem dL_tree_57 : decode cL_tree 57 = .ok (.iconst 4, 1) := by decide +kernel
theorem dL_tree_58 : decode cL_tree 58 = .ok (.goto 5, 3) := by decide +kernel
theorem dL_tree_61 : decode cL_tree 61 = .ok (.bipush 20, 2) := by decide +kernel
theorem dL_tree_63 : decode cL_tree 63 = .ok (.invokestatic 23, 3) := by decide +kernel
theorem dL_tree_66 : decode cL_tree 66 = .ok (.iadd, 1) := by decide +kernel
theorem dL_tree_67 : decode cL_tree 67 = .ok (.goto 42, 3) := by decide +kernel
theorem dL_tree_70 : decode cL_tree 70 = .ok (.iload_n 2, 1) := by decide +kernel
theorem dL_tree_71 : decode cL_tree 71 = .ok (.iconst 2, 1) := by decide +kernel
theorem dL_tree_72 : decode cL_tree 72 = .ok (.if_icmp .ne 28, 3) := by decide +kernel
theorem dL_tree_75 : decode cL_tree 75 = .ok (.iload_n 3, 1) := by decide +kernel
theorem dL_tree_76 : decode cL_tree 76 = .ok (.bipush 12, 2) := by decide +kernel
theorem dL_tree_78 : decode cL_tree 78 = .ok (.ishr, 1) := by decide +kernel
theorem dL_tree_79 : decode cL_tree 79 = .ok (.iload_n 3, 1) := by decide +kernel
theorem dL_tree_80 : decode cL_tree 80 = .ok (.bipush 28, 2) := by decide +kernel
theorem dL_tree_82 : decode cL_tree 82 = .ok (.ishr, 1) := by decide +kernel
theorem dL_tree_83 : decode cL_tree 83 = .ok (.iconst 1, 1) := by decide +kernel
theorem dL_tree_84 : decode cL_tree 84 = .ok (.iand, 1) := by decide +kernel
theorem dL_tree_85 : decode cL_tree 85 = .ok (.ifCond .ne 7, 3) := by decide +kernel
theorem dL_tree_88 : decode cL_tree 88 = .ok (.iconst 3, 1) := by decide +kernel
theorem dL_tree_89 : decode cL_tree 89 = .ok (.goto 5, 3) := by decide +kernel
theorem dL_tree_92 : decode cL_tree 92 = .ok (.bipush 8, 2) := by decide +kernel
theorem dL_tree_94 : decode cL_tree 94 = .ok (.invokestatic 23, 3) := by decide +kernel
theorem dL_tree_97 : decode cL_tree 97 = .ok (.goto 12, 3) := by decide +kernel
theorem dL_tree_100 : decode cL_tree 100 = .ok (.iload_n 3, 1) := by decide +kernel
theorem dL_tree_101 : decode cL_tree 101 = .ok (.bipush 16, 2) := by decide +kernel
theorem dL_tree_103 : decode cL_tree 103 = .ok (.ishr, 1) := by decide +kernel
theorem dL_tree_104 : decode cL_tree 104 = .ok (.bipush 6, 2) := by decide +kernel
theorem dL_tree_106 : decode cL_tree 106 = .ok (.invokestatic 23, 3) := by decide +kernel
theorem dL_tree_109 : decode cL_tree 109 = .ok (.ireturn, 1) := by decide +kernel
set_option maxRecDepth 100000 in
theorem rL_tree_0 {zx : zX} {zn : Nat} {p : Program} {l : Launch} {e : Env} {s : State} {m : MethodId} {args : Array Value} {below : List Frame} {meth : Method} {c : Code} {D : va_G} {cA : Nat → ClassId} {ad : Nat → Nat} {Ret : zR} (C : z_Cx zx zn (z_A zn ad) 0 0 p { frames := 1, cells := 0, slots := 0, locals := 21 } s m args c cL_tree yL_tree.cls 4 D cA ad) (hr : meth.sig.returnType = (some .int)) (hlocks : meth.locks = false) : ∀ L st σ, tL_tree_0 zx (z_X zx zn (z_A zn ad) 0 0 p l e { frames := 1, cells := 0, slots := 0, locals := 21 } s m args below meth c (MQ below (z_Qc zn D cA ad Ret) args s 0 0 (z_A zn ad)) 4 D cA ad true) Ret L st σ → z_X zx zn (z_A zn ad) 0 0 p l e { frames := 1, cells := 0, slots := 0, locals := 21 } s m args below meth c (MQ below (z_Qc zn D cA ad Ret) args s 0 0 (z_A zn ad)) 4 D cA ad true 0 L st σ := (s_aload_n C dL_tree_0 rfl (s_iconst C dL_tree_1 rfl ⟨by decide, by decide⟩ (s_iload_n C dL_tree_2 rfl (s_iadd C dL_tree_3 (s_cs2 C dL_tree_4 (okL_cell l) wd_540 wd_541 wd_16 wd_542 ⟨by decide, by decide, by decide +kernel⟩ ⟨by decide, by decide⟩ (s_istore_n C dL_tree_7 (by decide) rfl rfl (s_iload_n C dL_tree_8 rfl (s_ifne C dL_tree_9 (by decide) (s_iload_n C dL_tree_38 rfl (s_iconst C dL_tree_39 rfl ⟨by decide, by decide⟩ (s_icne C dL_tree_40 (by decide) (s_iload_n C dL_tree_70 rfl (s_iconst C dL_tree_71 rfl ⟨by decide, by decide⟩ (s_icne C dL_tree_72 (by decide) (s_iload_n C dL_tree_100 rfl (s_bipush C dL_tree_101 rfl ⟨by decide, by decide⟩ (s_ishr C dL_tree_103 (s_bipush C dL_tree_104 rfl ⟨by decide, by decide⟩ (s_cs2 C dL_tree_106 (okL_low l) wd_544 wd_545 wd_16 wd_546 ⟨by decide, by decide, by decide +kernel⟩ ⟨by decide, by decide⟩ (s_iret C dL_tree_109 hr hlocks)))))) (s_iload_n C dL_tree_75 rfl (s_bipush C dL_tree_76 rfl ⟨by decide, by decide⟩ (s_ishr C dL_tree_78 (s_iload_n C dL_tree_79 rfl (s_bipush C dL_tree_80 rfl ⟨by decide, by decide⟩ (s_ishr C dL_tree_82 (s_iconst C dL_tree_83 rfl ⟨by decide, by decide⟩ (s_iand C dL_tree_84 (s_ifne C dL_tree_85 (by decide) (s_bipush C dL_tree_92 rfl ⟨by decide, by decide⟩ (s_cs2 C dL_tree_94 (okL_low l) wd_544 wd_545 wd_16 wd_546 ⟨by decide, by decide, by decide +kernel⟩ ⟨by decide, by decide⟩ (s_goto C dL_tree_97 (by decide) (s_iret C dL_tree_109 hr hlocks)))) (s_iconst C dL_tree_88 rfl ⟨by decide, by decide⟩ (s_goto C dL_tree_89 (by decide) (s_cs2 C dL_tree_94 (okL_low l) wd_544 wd_545 wd_16 wd_546 ⟨by decide, by decide, by decide +kernel⟩ ⟨by decide, by decide⟩ (s_goto C dL_tree_97 (by decide) (s_iret C dL_tree_109 hr hlocks))))))))))))))))) (s_iconst C dL_tree_43 rfl ⟨by decide, by decide⟩ (s_iload_n C dL_tree_44 rfl (s_bipush C dL_tree_45 rfl ⟨by decide, by decide⟩ (s_ishr C dL_tree_47 (s_iload_n C dL_tree_48 rfl (s_bipush C dL_tree_49 rfl ⟨by decide, by decide⟩ (s_ishr C dL_tree_51 (s_iconst C dL_tree_52 rfl ⟨by decide, by decide⟩ (s_iand C dL_tree_53 (s_ifne C dL_tree_54 (by decide) (s_bipush C dL_tree_61 rfl ⟨by decide, by decide⟩ (s_cs2 C dL_tree_63 (okL_low l) wd_544 wd_545 wd_16 wd_546 ⟨by decide, by decide, by decide +kernel⟩ ⟨by decide, by decide⟩ (s_iadd C dL_tree_66 (s_goto C dL_tree_67 (by decide) (s_iret C dL_tree_109 hr hlocks))))) (s_iconst C dL_tree_57 rfl ⟨by decide, by decide⟩ (s_goto C dL_tree_58 (by decide) (s_cs2 C dL_tree_63 (okL_low l) wd_544 wd_545 wd_16 wd_546 ⟨by decide, by decide, by decide +kernel⟩ ⟨by decide, by decide⟩ (s_iadd C dL_tree_66 (s_goto C dL_tree_67 (by decide) (s_iret C dL_tree_109 hr hlocks))))))))))))))))))) (s_bipush C dL_tree_12 rfl ⟨by decide, by decide⟩ (s_iload_n C dL_tree_14 rfl (s_iload_n C dL_tree_15 rfl (s_bipush C dL_tree_16 rfl ⟨by decide, by decide⟩ (s_ishr C dL_tree_18 (s_iconst C dL_tree_19 rfl ⟨by decide, by decide⟩ (s_iand C dL_tree_20 (s_ifne C dL_tree_21 (by decide) (s_bipush C dL_tree_29 rfl ⟨by decide, by decide⟩ (s_cs2 C dL_tree_31 (okL_low l) wd_544 wd_545 wd_16 wd_546 ⟨by decide, by decide, by decide +kernel⟩ ⟨by decide, by decide⟩ (s_iadd C dL_tree_34 (s_goto C dL_tree_35 (by decide) (s_iret C dL_tree_109 hr hlocks))))) (s_bipush C dL_tree_24 rfl ⟨by decide, by decide⟩ (s_goto C dL_tree_26 (by decide) (s_cs2 C dL_tree_31 (okL_low l) wd_544 wd_545 wd_16 wd_546 ⟨by decide, by decide, by decide +kernel⟩ ⟨by decide, by decide⟩ (s_iadd C dL_tree_34 (s_goto C dL_tree_35 (by decide) (s_iret C dL_tree_109 hr hlocks))))))))))))))))))))))
theorem okL_tree {zx : zX} {zn : Nat} (l : Launch) : z_OK zx zn l yL_tree cL_tree 4 (some .int) 1 21 (SL_tree zx) := by
  refine z_ok_of true (by decide +kernel) ?_ ?_
  · intro as σ Ret h
    obtain ⟨k1, x2, x3, rfl⟩ := pL_tree h
    exact ⟨Nat.le_of_ble_eq_true rfl, by simp⟩
  · intro p e s m args below meth c D cA ad Ret C hr hlocks as σ has hσ h
    obtain ⟨k1, x2, x3, rfl⟩ := pL_tree h
    exact vL_tree (rL_tree_0 C hr hlocks) k1 x2 x3 σ (has _ (List.mem_of_getElem? (i := 0) rfl)).1 (has _ (List.mem_of_getElem? (i := 1) rfl)) (has _ (List.mem_of_getElem? (i := 2) rfl)) hσ h
def SL_wind (zx : zX) : zS := fun as σ Ret => match as with
  | [.inr (.inr (252, 0, _)), .inl t, .inl q] => ((0 ≤ t ∧ t ≤ 100) ∧ 0 ≤ q ∧ q ≤ 2) ∧ Ret (some (.inl (w_wi zx t.toNat q.toNat))) σ
  | _ => False
def tL_wind_0 (zx : zX) (X : Nat → zB) (Ret : zR) (L : zL) (st : List zV) (σ : zM) : Prop := (z_aload 0 (z_push 9 (z_iload 1 (z_iadd (z_cs2 (SL_cell zx) (z_istore 3 (z_iload 2 (z_ifne (z_iload 2 (z_push 1 (z_icne (z_push 1 (z_iload 3 (z_push 8 (z_ishr (z_push 99 (z_cs2 (SL_low zx) (z_iadd (z_iret Ret)))))))) (z_push 1 (z_iload 3 (z_push 3 (z_ishr (z_iload 3 (z_push 30 (z_ishr (z_push 1 (z_iand (z_ifne (z_push 20 (z_cs2 (SL_low zx) (z_iadd (z_goto (z_iret Ret))))) (z_push 4 (z_goto (z_cs2 (SL_low zx) (z_iadd (z_goto (z_iret Ret))))))))))))))))))) (z_iload 3 (z_iload 3 (z_push 28 (z_ishr (z_push 1 (z_iand (z_ifne (z_push 8 (z_cs2 (SL_low zx) (z_goto (z_iret Ret)))) (z_push 3 (z_goto (z_cs2 (SL_low zx) (z_goto (z_iret Ret)))))))))))))))))))) L st σ
theorem pL_wind {zx : zX} {as : List zV} {σ : zM} {Ret : zR} (h : (SL_wind zx) as σ Ret) : ∃ (k1 : Nat) (x2 : Int) (x3 : Int), as = [.inr (.inr (252, 0, k1)), .inl x2, .inl x3] := by
  unfold SL_wind at h
  split at h
  · exact ⟨_, _, _, rfl⟩
  · exact h.elim
set_option maxRecDepth 10000 in
set_option maxHeartbeats 4000000 in
theorem vL_wind {zx : zX} {X : Nat → zB} {Ret : zR} (h0 : ∀ L st σ, tL_wind_0 zx X Ret L st σ → X 0 L st σ) (k1 : Nat) (x2 : Int) (x3 : Int) (σ : zM) (hk1 : z_kd k1 = (252, 0)) (hx2 : -2147483648 ≤ x2 ∧ x2 ≤ 2147483647) (hx3 : -2147483648 ≤ x3 ∧ x3 ≤ 2147483647) (hσ : z_okm σ) (h : (SL_wind zx) [.inr (.inr (252, 0, k1)), .inl x2, .inl x3] σ Ret) : X 0 [some (.inr (.inr (252, 0, k1))), some (.inl x2), some (.inl x3), none] [] σ := by
  obtain ⟨⟨c1, c2⟩, h⟩ := h
  obtain ⟨t, rfl⟩ := z_nat c1.1
  have b := w_wi_in zx t x3.toNat
  rw [Int.toNat_natCast] at h
  have e : (9 + (t : Int)).toNat = 9 + t := by omega
  refine h0 _ _ _ ?_
  have q : x3 = 0 ∨ x3 = 1 ∨ x3 = 2 := by omega
  rcases q with rfl | rfl | rfl
  · simp only [w_wi, forall_const, true_implies, Int.reduceToNat, ↓reduceIte] at h b
    simp only [z_push, z_lpush, z_iload, z_lload, z_aload, z_istore, z_istoreP, z_lstore, z_astore, z_iinc, z_iincP, z_iadd, z_isub, z_imul, z_iaddW, z_isubW, z_imulW, z_idiv, z_irem, z_iand, z_ior, z_ixor, z_ishl, z_ishr, z_iushr, z_ineg, z_i2l, z_i2b, z_i2s, z_i2c, z_l2i, z_ladd, z_lsub, z_land, z_lor, z_lshl, z_lshr, z_lcmp, z_dup, z_pop, z_dup2, z_goto, z_tsw, z_cases, z_geti, z_getr, z_puti, z_putz, z_ald, z_iast, z_bast, z_zast, z_alen, z_acopy, z_mmax, z_mmin, z_mabs, z_mabsL, z_iret, z_zret, z_nret, z_lret, z_aret, z_vret, z_cat, z_xald, z_xlen, z_ldcs, z_strv, z_strc, z_gcs, z_gfm, z_sln, z_sald, z_ifeq, z_ifne, z_iflt, z_ifge, z_ifgt, z_ifle, z_iceq, z_icne, z_iclt, z_icge, z_icgt, z_icle, z_cs0, z_cs1, z_cs2, z_cs3, z_cs4, z_cs5, z_cs6, z_cs7, z_cv0, z_cv1, z_cv2, z_cv3, z_cv4, z_cv5, z_cv6, z_cv7, z_g0, z_s0, z_g1, z_s1, z_g2, z_s2, z_g3, z_s3, z_g4, z_s4, z_g5, z_s5, z_g6, z_s6, z_g7, z_s7, z_g8, z_s8, z_g9, z_s9, z_g10, z_s10, z_g11, z_s11, z_g12, z_s12, z_g13, z_s13, z_b0, z_b1, z_b0n, z_b1n, z_up_far1, z_up_far2, z_up_far3, z_up_far4, z_up_far5, z_up_far6, Classical.not_not, not_true_eq_false, z_in, z_inL, Int.cast_ofNat_Int, Nat.reduceLeDiff, List.length_cons, List.length_nil, Nat.reduceAdd, Nat.zero_add, Nat.le_refl, true_and, and_true, List.length, Nat.reduceLT, true_or, or_true, false_or, or_false, false_and, and_false, not_true_eq_false, not_false_eq_true, forall_const, false_implies, true_implies, Int.reduceEq, Int.reduceLT, Int.reduceLE, Int.reduceAdd, Int.reduceSub, Int.reduceMul, Int.reduceNeg, Int.reduceToNat, Int.toNat_natCast, ↓reduceIte, reduceIte, Nat.reduceEqDiff, Nat.reduceSub, Nat.reduceMul, ne_eq, Int.zero_add, Int.add_zero, Int.sub_zero, Nat.add_zero, Int.ofNat_eq_natCast, tL_wind_0, SL_cell, SL_low, e, w_sar_f, w_b1_f]
    refine ⟨by omega, by omega, fun c => ?_, fun c => ?_⟩
    · rw [if_neg c] at h b
      exact h
    · rw [if_pos c] at h b
      exact h
  · simp only [w_wi, forall_const, true_implies, Int.reduceToNat, ↓reduceIte, Nat.reduceEqDiff] at h b
    simp only [z_push, z_lpush, z_iload, z_lload, z_aload, z_istore, z_istoreP, z_lstore, z_astore, z_iinc, z_iincP, z_iadd, z_isub, z_imul, z_iaddW, z_isubW, z_imulW, z_idiv, z_irem, z_iand, z_ior, z_ixor, z_ishl, z_ishr, z_iushr, z_ineg, z_i2l, z_i2b, z_i2s, z_i2c, z_l2i, z_ladd, z_lsub, z_land, z_lor, z_lshl, z_lshr, z_lcmp, z_dup, z_pop, z_dup2, z_goto, z_tsw, z_cases, z_geti, z_getr, z_puti, z_putz, z_ald, z_iast, z_bast, z_zast, z_alen, z_acopy, z_mmax, z_mmin, z_mabs, z_mabsL, z_iret, z_zret, z_nret, z_lret, z_aret, z_vret, z_cat, z_xald, z_xlen, z_ldcs, z_strv, z_strc, z_gcs, z_gfm, z_sln, z_sald, z_ifeq, z_ifne, z_iflt, z_ifge, z_ifgt, z_ifle, z_iceq, z_icne, z_iclt, z_icge, z_icgt, z_icle, z_cs0, z_cs1, z_cs2, z_cs3, z_cs4, z_cs5, z_cs6, z_cs7, z_cv0, z_cv1, z_cv2, z_cv3, z_cv4, z_cv5, z_cv6, z_cv7, z_g0, z_s0, z_g1, z_s1, z_g2, z_s2, z_g3, z_s3, z_g4, z_s4, z_g5, z_s5, z_g6, z_s6, z_g7, z_s7, z_g8, z_s8, z_g9, z_s9, z_g10, z_s10, z_g11, z_s11, z_g12, z_s12, z_g13, z_s13, z_b0, z_b1, z_b0n, z_b1n, z_up_far1, z_up_far2, z_up_far3, z_up_far4, z_up_far5, z_up_far6, Classical.not_not, not_true_eq_false, z_in, z_inL, Int.cast_ofNat_Int, Nat.reduceLeDiff, List.length_cons, List.length_nil, Nat.reduceAdd, Nat.zero_add, Nat.le_refl, true_and, and_true, List.length, Nat.reduceLT, true_or, or_true, false_or, or_false, false_and, and_false, not_true_eq_false, not_false_eq_true, forall_const, false_implies, true_implies, Int.reduceEq, Int.reduceLT, Int.reduceLE, Int.reduceAdd, Int.reduceSub, Int.reduceMul, Int.reduceNeg, Int.reduceToNat, Int.toNat_natCast, ↓reduceIte, reduceIte, Nat.reduceEqDiff, Nat.reduceSub, Nat.reduceMul, ne_eq, Int.zero_add, Int.add_zero, Int.sub_zero, Nat.add_zero, Int.ofNat_eq_natCast, tL_wind_0, SL_cell, SL_low, e, w_sar_f, w_b1_f]
    refine ⟨by omega, by omega, fun c => ?_, fun c => ?_⟩
    · rw [if_neg c] at h b
      exact ⟨by omega, h⟩
    · rw [if_pos c] at h b
      exact ⟨by omega, h⟩
  · simp only [w_wi, forall_const, true_implies, Int.reduceToNat, ↓reduceIte, Nat.reduceEqDiff] at h b
    simp only [z_push, z_lpush, z_iload, z_lload, z_aload, z_istore, z_istoreP, z_lstore, z_astore, z_iinc, z_iincP, z_iadd, z_isub, z_imul, z_iaddW, z_isubW, z_imulW, z_idiv, z_irem, z_iand, z_ior, z_ixor, z_ishl, z_ishr, z_iushr, z_ineg, z_i2l, z_i2b, z_i2s, z_i2c, z_l2i, z_ladd, z_lsub, z_land, z_lor, z_lshl, z_lshr, z_lcmp, z_dup, z_pop, z_dup2, z_goto, z_tsw, z_cases, z_geti, z_getr, z_puti, z_putz, z_ald, z_iast, z_bast, z_zast, z_alen, z_acopy, z_mmax, z_mmin, z_mabs, z_mabsL, z_iret, z_zret, z_nret, z_lret, z_aret, z_vret, z_cat, z_xald, z_xlen, z_ldcs, z_strv, z_strc, z_gcs, z_gfm, z_sln, z_sald, z_ifeq, z_ifne, z_iflt, z_ifge, z_ifgt, z_ifle, z_iceq, z_icne, z_iclt, z_icge, z_icgt, z_icle, z_cs0, z_cs1, z_cs2, z_cs3, z_cs4, z_cs5, z_cs6, z_cs7, z_cv0, z_cv1, z_cv2, z_cv3, z_cv4, z_cv5, z_cv6, z_cv7, z_g0, z_s0, z_g1, z_s1, z_g2, z_s2, z_g3, z_s3, z_g4, z_s4, z_g5, z_s5, z_g6, z_s6, z_g7, z_s7, z_g8, z_s8, z_g9, z_s9, z_g10, z_s10, z_g11, z_s11, z_g12, z_s12, z_g13, z_s13, z_b0, z_b1, z_b0n, z_b1n, z_up_far1, z_up_far2, z_up_far3, z_up_far4, z_up_far5, z_up_far6, Classical.not_not, not_true_eq_false, z_in, z_inL, Int.cast_ofNat_Int, Nat.reduceLeDiff, List.length_cons, List.length_nil, Nat.reduceAdd, Nat.zero_add, Nat.le_refl, true_and, and_true, List.length, Nat.reduceLT, true_or, or_true, false_or, or_false, false_and, and_false, not_true_eq_false, not_false_eq_true, forall_const, false_implies, true_implies, Int.reduceEq, Int.reduceLT, Int.reduceLE, Int.reduceAdd, Int.reduceSub, Int.reduceMul, Int.reduceNeg, Int.reduceToNat, Int.toNat_natCast, ↓reduceIte, reduceIte, Nat.reduceEqDiff, Nat.reduceSub, Nat.reduceMul, ne_eq, Int.zero_add, Int.add_zero, Int.sub_zero, Nat.add_zero, Int.ofNat_eq_natCast, tL_wind_0, SL_cell, SL_low, e, w_sar_f, w_b1_f]
    exact ⟨by omega, by omega, by omega, h⟩
theorem dL_wind_0 : decode cL_wind 0 = .ok (.aload_n 0, 1) := by decide +kernel
theorem dL_wind_1 : decode cL_wind 1 = .ok (.bipush 9, 2) := by decide +kernel
theorem dL_wind_3 : decode cL_wind 3 = .ok (.iload_n 1, 1) := by decide +kernel
theorem dL_wind_4 : decode cL_wind 4 = .ok (.iadd, 1) := by decide +kernel
theorem dL_wind_5 : decode cL_wind 5 = .ok (.invokestatic 17, 3) := by decide +kernel
theorem dL_wind_8 : decode cL_wind 8 = .ok (.istore_n 3, 1) := by decide +kernel
theorem dL_wind_9 : decode cL_wind 9 = .ok (.iload_n 2, 1) := by decide +kernel
theorem dL_wind_10 : decode cL_wind 10 = .ok (.ifCond .ne 25, 3) := by decide +kernel
theorem dL_wind_13 : decode cL_wind 13 = .ok (.iload_n 3, 1) := by decide +kernel
theorem dL_wind_14 : decode cL_wind 14 = .ok (.iload_n 3, 1) := by decide +kernel
theorem dL_wind_15 : decode cL_wind 15 = .ok (.bipush 28, 2) := by decide +kernel
theorem dL_wind_17 : decode cL_wind 17 = .ok (.ishr, 1) := by decide +kernel
theorem dL_wind_18 : decode cL_wind 18 = .ok (.iconst 1, 1) := by decide +kernel
theorem dL_wind_19 : decode cL_wind 19 = .ok (.iand, 1) := by decide +kernel
theorem dL_wind_20 : decode cL_wind 20 = .ok (.ifCond .ne 7, 3) := by decide +kernel
theorem dL_wind_23 : decode cL_wind 23 = .ok (.iconst 3, 1) := by decide +kernel
theorem dL_wind_24 : decode cL_wind 24 = .ok (.goto 5, 3) := by decide +kernel
theorem dL_wind_27 : decode cL_wind 27 = .ok (.bipush 8, 2) := by decide +kernel
theorem dL_wind_29 : decode cL_wind 29 = .ok (.invokestatic 23, 3) := by decide +kernel
theorem dL_wind_32 : decode cL_wind 32 = .ok (.goto 45, 3) := by decide +kernel
theorem dL_wind_35 : decode cL_wind 35 = .ok (.iload_n 2, 1) := by decide +kernel
theorem dL_wind_36 : decode cL_wind 36 = .ok (.iconst 1, 1) := by decide +kernel
theorem dL_wind_37 : decode cL_wind 37 = .ok (.if_icmp .ne 29, 3) := by decide +kernel
theorem dL_wind_40 : decode cL_wind 40 = .ok (.iconst 1, 1) := by decide +kernel
theorem dL_wind_41 : decode cL_wind 41 = .ok (.iload_n 3, 1) := by decide +kernel
theorem dL_wind_42 : decode cL_wind 42 = .ok (.iconst 3, 1) := by decide +kernel
theorem dL_wind_43 : decode cL_wind 43 = .ok (.ishr, 1) := by decide +kernel
theorem dL_wind_44 : decode cL_wind 44 = .ok (.iload_n 3, 1) := by decide +kernel
theorem dL_wind_45 : decode cL_wind 45 = .ok (.bipush 30, 2) := by decide +kernel
theorem dL_wind_47 : decode cL_wind 47 = .ok (.ishr, 1) := by decide +kernel
theorem dL_wind_48 : decode cL_wind 48 = .ok (.iconst 1, 1) := by decide +kernel
theorem dL_wind_49 : decode cL_wind 49 = .ok (.iand, 1) := by decide +kernel
theorem dL_wind_50 : decode cL_wind 50 = .ok (.ifCond .ne 7, 3) := by decide +kernel
theorem dL_wind_53 : decode cL_wind 53 = .ok (.iconst 4, 1) := by decide +kernel
theorem dL_wind_54 : decode cL_wind 54 = .ok (.goto 5, 3) := by decide +kernel
theorem dL_wind_57 : decode cL_wind 57 = .ok (.bipush 20, 2) := by decide +kernel
theorem dL_wind_59 : decode cL_wind 59 = .ok (.invokestatic 23, 3) := by decide +kernel
theorem dL_wind_62 : decode cL_wind 62 = .ok (.iadd, 1) := by decide +kernel
theorem dL_wind_63 : decode cL_wind 63 = .ok (.goto 14, 3) := by decide +kernel
theorem dL_wind_66 : decode cL_wind 66 = .ok (.iconst 1, 1) := by decide +kernel
theorem dL_wind_67 : decode cL_wind 67 = .ok (.iload_n 3, 1) := by decide +kernel
theorem dL_wind_68 : decode cL_wind 68 = .ok (.bipush 8, 2) := by decide +kernel
theorem dL_wind_70 : decode cL_wind 70 = .ok (.ishr, 1) := by decide +kernel
theorem dL_wind_71 : decode cL_wind 71 = .ok (.bipush 99, 2) := by decide +kernel
theorem dL_wind_73 : decode cL_wind 73 = .ok (.invokestatic 23, 3) := by decide +kernel
theorem dL_wind_76 : decode cL_wind 76 = .ok (.iadd, 1) := by decide +kernel
theorem dL_wind_77 : decode cL_wind 77 = .ok (.ireturn, 1) := by decide +kernel
set_option maxRecDepth 100000 in
theorem rL_wind_0 {zx : zX} {zn : Nat} {p : Program} {l : Launch} {e : Env} {s : State} {m : MethodId} {args : Array Value} {below : List Frame} {meth : Method} {c : Code} {D : va_G} {cA : Nat → ClassId} {ad : Nat → Nat} {Ret : zR} (C : z_Cx zx zn (z_A zn ad) 0 0 p { frames := 1, cells := 0, slots := 0, locals := 21 } s m args c cL_wind yL_wind.cls 4 D cA ad) (hr : meth.sig.returnType = (some .int)) (hlocks : meth.locks = false) : ∀ L st σ, tL_wind_0 zx (z_X zx zn (z_A zn ad) 0 0 p l e { frames := 1, cells := 0, slots := 0, locals := 21 } s m args below meth c (MQ below (z_Qc zn D cA ad Ret) args s 0 0 (z_A zn ad)) 4 D cA ad true) Ret L st σ → z_X zx zn (z_A zn ad) 0 0 p l e { frames := 1, cells := 0, slots := 0, locals := 21 } s m args below meth c (MQ below (z_Qc zn D cA ad Ret) args s 0 0 (z_A zn ad)) 4 D cA ad true 0 L st σ := (s_aload_n C dL_wind_0 rfl (s_bipush C dL_wind_1 rfl ⟨by decide, by decide⟩ (s_iload_n C dL_wind_3 rfl (s_iadd C dL_wind_4 (s_cs2 C dL_wind_5 (okL_cell l) wd_540 wd_541 wd_16 wd_542 ⟨by decide, by decide, by decide +kernel⟩ ⟨by decide, by decide⟩ (s_istore_n C dL_wind_8 (by decide) rfl rfl (s_iload_n C dL_wind_9 rfl (s_ifne C dL_wind_10 (by decide) (s_iload_n C dL_wind_35 rfl (s_iconst C dL_wind_36 rfl ⟨by decide, by decide⟩ (s_icne C dL_wind_37 (by decide) (s_iconst C dL_wind_66 rfl ⟨by decide, by decide⟩ (s_iload_n C dL_wind_67 rfl (s_bipush C dL_wind_68 rfl ⟨by decide, by decide⟩ (s_ishr C dL_wind_70 (s_bipush C dL_wind_71 rfl ⟨by decide, by decide⟩ (s_cs2 C dL_wind_73 (okL_low l) wd_544 wd_545 wd_16 wd_546 ⟨by decide, by decide, by decide +kernel⟩ ⟨by decide, by decide⟩ (s_iadd C dL_wind_76 (s_iret C dL_wind_77 hr hlocks)))))))) (s_iconst C dL_wind_40 rfl ⟨by decide, by decide⟩ (s_iload_n C dL_wind_41 rfl (s_iconst C dL_wind_42 rfl ⟨by decide, by decide⟩ (s_ishr C dL_wind_43 (s_iload_n C dL_wind_44 rfl (s_bipush C dL_wind_45 rfl ⟨by decide, by decide⟩ (s_ishr C dL_wind_47 (s_iconst C dL_wind_48 rfl ⟨by decide, by decide⟩ (s_iand C dL_wind_49 (s_ifne C dL_wind_50 (by decide) (s_bipush C dL_wind_57 rfl ⟨by decide, by decide⟩ (s_cs2 C dL_wind_59 (okL_low l) wd_544 wd_545 wd_16 wd_546 ⟨by decide, by decide, by decide +kernel⟩ ⟨by decide, by decide⟩ (s_iadd C dL_wind_62 (s_goto C dL_wind_63 (by decide) (s_iret C dL_wind_77 hr hlocks))))) (s_iconst C dL_wind_53 rfl ⟨by decide, by decide⟩ (s_goto C dL_wind_54 (by decide) (s_cs2 C dL_wind_59 (okL_low l) wd_544 wd_545 wd_16 wd_546 ⟨by decide, by decide, by decide +kernel⟩ ⟨by decide, by decide⟩ (s_iadd C dL_wind_62 (s_goto C dL_wind_63 (by decide) (s_iret C dL_wind_77 hr hlocks))))))))))))))))))) (s_iload_n C dL_wind_13 rfl (s_iload_n C dL_wind_14 rfl (s_bipush C dL_wind_15 rfl ⟨by decide, by decide⟩ (s_ishr C dL_wind_17 (s_iconst C dL_wind_18 rfl ⟨by decide, by decide⟩ (s_iand C dL_wind_19 (s_ifne C dL_wind_20 (by decide) (s_bipush C dL_wind_27 rfl ⟨by decide, by decide⟩ (s_cs2 C dL_wind_29 (okL_low l) wd_544 wd_545 wd_16 wd_546 ⟨by decide, by decide, by decide +kernel⟩ ⟨by decide, by decide⟩ (s_goto C dL_wind_32 (by decide) (s_iret C dL_wind_77 hr hlocks)))) (s_iconst C dL_wind_23 rfl ⟨by decide, by decide⟩ (s_goto C dL_wind_24 (by decide) (s_cs2 C dL_wind_29 (okL_low l) wd_544 wd_545 wd_16 wd_546 ⟨by decide, by decide, by decide +kernel⟩ ⟨by decide, by decide⟩ (s_goto C dL_wind_32 (by decide) (s_iret C dL_wind_77 hr hlocks))))))))))))))))))))
theorem okL_wind {zx : zX} {zn : Nat} (l : Launch) : z_OK zx zn l yL_wind cL_wind 4 (some .int) 1 21 (SL_wind zx) := by
  refine z_ok_of true (by decide +kernel) ?_ ?_
  · intro as σ Ret h
    obtain ⟨k1, x2, x3, rfl⟩ := pL_wind h
    exact ⟨Nat.le_of_ble_eq_true rfl, by simp⟩
  · intro p e s m args below meth c D cA ad Ret C hr hlocks as σ has hσ h
    obtain ⟨k1, x2, x3, rfl⟩ := pL_wind h
    exact vL_wind (rL_wind_0 C hr hlocks) k1 x2 x3 σ (has _ (List.mem_of_getElem? (i := 0) rfl)).1 (has _ (List.mem_of_getElem? (i := 1) rfl)) (has _ (List.mem_of_getElem? (i := 2) rfl)) hσ h
def w_tut (zx : zX) (k : Nat) : Nat := (w_low (w_cell zx (13 + k)) (w_nt zx)).toNat
def w_tu (zx : zX) (k : Nat) : Int := if w_b3 (w_sar (w_cell zx (13 + k)) 20) = 0 then w_low (w_sar (w_cell zx (13 + k)) 3) 1000 else w_low ((1000 * w_tr zx (w_tut zx k) 1).tdiv (w_tr zx (w_tut zx k) 0) + w_low (w_sar (w_cell zx (13 + k)) 6) 3) 1000
theorem w_tu_in (zx : zX) (k : Nat) : 0 ≤ w_tu zx k ∧ w_tu zx k ≤ 999 := by
  unfold w_tu
  split
  · have := w_low_in (v := w_sar (w_cell zx (13 + k)) 3) (n := 1000) (by omega)
    omega
  · have := w_low_in (v := (1000 * w_tr zx (w_tut zx k) 1).tdiv (w_tr zx (w_tut zx k) 0) + w_low (w_sar (w_cell zx (13 + k)) 6) 3) (n := 1000) (by omega)
    omega
def SL_tune (zx : zX) : zS := fun as σ Ret => match as with
  | [.inr (.inr (252, 0, _)), .inl k] => (0 ≤ k ∧ k ≤ 100) ∧ Ret (some (.inl (w_tu zx k.toNat))) σ
  | _ => False
def tL_tune_0 (zx : zX) (X : Nat → zB) (Ret : zR) (L : zL) (st : List zV) (σ : zM) : Prop := (z_aload 0 (z_push 13 (z_iload 1 (z_iadd (z_cs2 (SL_cell zx) (z_istore 2 (z_iload 2 (z_aload 0 (z_cs1 (SL_trees zx) (z_cs2 (SL_low zx) (z_istore 3 (z_iload 2 (z_push 20 (z_ishr (z_push 3 (z_iand (z_ifne (z_push 1000 (z_aload 0 (z_iload 3 (z_push 1 (z_cs3 (SL_tree zx) (z_imul (z_aload 0 (z_iload 3 (z_push 0 (z_cs3 (SL_tree zx) (z_idiv (z_iload 2 (z_push 6 (z_ishr (z_push 3 (z_cs2 (SL_low zx) (z_iadd (z_push 1000 (z_cs2 (SL_low zx) (z_iret Ret)))))))))))))))))))) (z_iload 2 (z_push 3 (z_ishr (z_push 1000 (z_cs2 (SL_low zx) (z_goto (z_iret Ret)))))))))))))))))))))))) L st σ
theorem pL_tune {zx : zX} {as : List zV} {σ : zM} {Ret : zR} (h : (SL_tune zx) as σ Ret) : ∃ (k1 : Nat) (x2 : Int), as = [.inr (.inr (252, 0, k1)), .inl x2] := by
  unfold SL_tune at h
  split at h
  · exact ⟨_, _, rfl⟩
  · exact h.elim
set_option maxRecDepth 10000 in
set_option maxHeartbeats 4000000 in
theorem vL_tune {zx : zX} {X : Nat → zB} {Ret : zR} (h0 : ∀ L st σ, tL_tune_0 zx X Ret L st σ → X 0 L st σ) (k1 : Nat) (x2 : Int) (σ : zM) (hk1 : z_kd k1 = (252, 0)) (hx2 : -2147483648 ≤ x2 ∧ x2 ≤ 2147483647) (hσ : z_okm σ) (h : (SL_tune zx) [.inr (.inr (252, 0, k1)), .inl x2] σ Ret) : X 0 [some (.inr (.inr (252, 0, k1))), some (.inl x2), none, none] [] σ := by
  obtain ⟨c1, h⟩ := h
  obtain ⟨k, rfl⟩ := z_nat c1.1
  rw [Int.toNat_natCast] at h
  have e : (13 + (k : Int)).toNat = 13 + k := by omega
  have n := w_nt_in zx
  have l := w_low_in (v := w_cell zx (13 + k)) (n := w_nt zx) n.1
  have b0 := (w_tr_in zx (w_tut zx k) 0).2.1 rfl
  have b1 := (w_tr_in zx (w_tut zx k) 1).2.2.1 rfl
  have b2 := w_low_in (v := w_sar (w_cell zx (13 + k)) 6) (n := 3) (by omega)
  have t : 0 ≤ (1000 * w_tr zx (w_tut zx k) 1).tdiv (w_tr zx (w_tut zx k) 0) ∧ (1000 * w_tr zx (w_tut zx k) 1).tdiv (w_tr zx (w_tut zx k) 0) ≤ 1000 * w_tr zx (w_tut zx k) 1 := ⟨Int.tdiv_nonneg (by omega) (by omega), Int.tdiv_le_self _ (by omega)⟩
  refine h0 _ _ _ ?_
  simp only [w_tu] at h
  simp only [z_push, z_lpush, z_iload, z_lload, z_aload, z_istore, z_istoreP, z_lstore, z_astore, z_iinc, z_iincP, z_iadd, z_isub, z_imul, z_iaddW, z_isubW, z_imulW, z_idiv, z_irem, z_iand, z_ior, z_ixor, z_ishl, z_ishr, z_iushr, z_ineg, z_i2l, z_i2b, z_i2s, z_i2c, z_l2i, z_ladd, z_lsub, z_land, z_lor, z_lshl, z_lshr, z_lcmp, z_dup, z_pop, z_dup2, z_goto, z_tsw, z_cases, z_geti, z_getr, z_puti, z_putz, z_ald, z_iast, z_bast, z_zast, z_alen, z_acopy, z_mmax, z_mmin, z_mabs, z_mabsL, z_iret, z_zret, z_nret, z_lret, z_aret, z_vret, z_cat, z_xald, z_xlen, z_ldcs, z_strv, z_strc, z_gcs, z_gfm, z_sln, z_sald, z_ifeq, z_ifne, z_iflt, z_ifge, z_ifgt, z_ifle, z_iceq, z_icne, z_iclt, z_icge, z_icgt, z_icle, z_cs0, z_cs1, z_cs2, z_cs3, z_cs4, z_cs5, z_cs6, z_cs7, z_cv0, z_cv1, z_cv2, z_cv3, z_cv4, z_cv5, z_cv6, z_cv7, z_g0, z_s0, z_g1, z_s1, z_g2, z_s2, z_g3, z_s3, z_g4, z_s4, z_g5, z_s5, z_g6, z_s6, z_g7, z_s7, z_g8, z_s8, z_g9, z_s9, z_g10, z_s10, z_g11, z_s11, z_g12, z_s12, z_g13, z_s13, z_b0, z_b1, z_b0n, z_b1n, z_up_far1, z_up_far2, z_up_far3, z_up_far4, z_up_far5, z_up_far6, Classical.not_not, not_true_eq_false, z_in, z_inL, Int.cast_ofNat_Int, Nat.reduceLeDiff, List.length_cons, List.length_nil, Nat.reduceAdd, Nat.zero_add, Nat.le_refl, true_and, and_true, List.length, Nat.reduceLT, true_or, or_true, false_or, or_false, false_and, and_false, not_true_eq_false, not_false_eq_true, forall_const, false_implies, true_implies, Int.reduceEq, Int.reduceLT, Int.reduceLE, Int.reduceAdd, Int.reduceSub, Int.reduceMul, Int.reduceNeg, Int.reduceToNat, Int.toNat_natCast, ↓reduceIte, reduceIte, Nat.reduceEqDiff, Nat.reduceSub, Nat.reduceMul, ne_eq, Int.zero_add, Int.add_zero, Int.sub_zero, Nat.add_zero, Int.ofNat_eq_natCast, tL_tune_0, SL_cell, SL_low, SL_trees, SL_tree, e, w_sar_f, w_b3_f]
  simp only [w_tut] at h t b0 b1
  refine ⟨by omega, by omega, by omega, fun c => ?_, fun c => ?_⟩
  · rw [if_neg c] at h
    exact ⟨by omega, by omega, by omega, ⟨by omega, by omega⟩, by omega, h⟩
  · rw [if_pos c] at h
    exact h
theorem dL_tune_0 : decode cL_tune 0 = .ok (.aload_n 0, 1) := by decide +kernel
theorem dL_tune_1 : decode cL_tune 1 = .ok (.bipush 13, 2) := by decide +kernel
theorem dL_tune_3 : decode cL_tune 3 = .ok (.iload_n 1, 1) := by decide +kernel
theorem dL_tune_4 : decode cL_tune 4 = .ok (.iadd, 1) := by decide +kernel
theorem dL_tune_5 : decode cL_tune 5 = .ok (.invokestatic 17, 3) := by decide +kernel
theorem dL_tune_8 : decode cL_tune 8 = .ok (.istore_n 2, 1) := by decide +kernel
theorem dL_tune_9 : decode cL_tune 9 = .ok (.iload_n 2, 1) := by decide +kernel
theorem dL_tune_10 : decode cL_tune 10 = .ok (.aload_n 0, 1) := by decide +kernel
theorem dL_tune_11 : decode cL_tune 11 = .ok (.invokestatic 27, 3) := by decide +kernel
theorem dL_tune_14 : decode cL_tune 14 = .ok (.invokestatic 23, 3) := by decide +kernel
theorem dL_tune_17 : decode cL_tune 17 = .ok (.istore_n 3, 1) := by decide +kernel
theorem dL_tune_18 : decode cL_tune 18 = .ok (.iload_n 2, 1) := by decide +kernel
theorem dL_tune_19 : decode cL_tune 19 = .ok (.bipush 20, 2) := by decide +kernel
theorem dL_tune_21 : decode cL_tune 21 = .ok (.ishr, 1) := by decide +kernel
theorem dL_tune_22 : decode cL_tune 22 = .ok (.iconst 3, 1) := by decide +kernel
theorem dL_tune_23 : decode cL_tune 23 = .ok (.iand, 1) := by decide +kernel
theorem dL_tune_24 : decode cL_tune 24 = .ok (.ifCond .ne 15, 3) := by decide +kernel
theorem dL_tune_27 : decode cL_tune 27 = .ok (.iload_n 2, 1) := by decide +kernel
theorem dL_tune_28 : decode cL_tune 28 = .ok (.iconst 3, 1) := by decide +kernel
theorem dL_tune_29 : decode cL_tune 29 = .ok (.ishr, 1) := by decide +kernel
theorem dL_tune_30 : decode cL_tune 30 = .ok (.sipush 1000, 3) := by decide +kernel
theorem dL_tune_33 : decode cL_tune 33 = .ok (.invokestatic 23, 3) := by decide +kernel
theorem dL_tune_36 : decode cL_tune 36 = .ok (.goto 35, 3) := by decide +kernel
theorem dL_tune_39 : decode cL_tune 39 = .ok (.sipush 1000, 3) := by decide +kernel
theorem dL_tune_42 : decode cL_tune 42 = .ok (.aload_n 0, 1) := by decide +kernel
theorem dL_tune_43 : decode cL_tune 43 = .ok (.iload_n 3, 1) := by decide +kernel
theorem dL_tune_44 : decode cL_tune 44 = .ok (.iconst 1, 1) := by decide +kernel
theorem dL_tune_45 : decode cL_tune 45 = .ok (.invokestatic 31, 3) := by decide +kernel
theorem dL_tune_48 : decode cL_tune 48 = .ok (.imul, 1) := by decide +kernel
theorem dL_tune_49 : decode cL_tune 49 = .ok (.aload_n 0, 1) := by decide +kernel
theorem dL_tune_50 : decode cL_tune 50 = .ok (.iload_n 3, 1) := by decide +kernel
theorem dL_tune_51 : decode cL_tune 51 = .ok (.iconst 0, 1) := by decide +kernel
theorem dL_tune_52 : decode cL_tune 52 = .ok (.invokestatic 31, 3) := by decide +kernel
theorem dL_tune_55 : decode cL_tune 55 = .ok (.idiv, 1) := by decide +kernel
theorem dL_tune_56 : decode cL_tune 56 = .ok (.iload_n 2, 1) := by decide +kernel
theorem dL_tune_57 : decode cL_tune 57 = .ok (.bipush 6, 2) := by decide +kernel
theorem dL_tune_59 : decode cL_tune 59 = .ok (.ishr, 1) := by decide +kernel
theorem dL_tune_60 : decode cL_tune 60 = .ok (.iconst 3, 1) := by decide +kernel
theorem dL_tune_61 : decode cL_tune 61 = .ok (.invokestatic 23, 3) := by decide +kernel
theorem dL_tune_64 : decode cL_tune 64 = .ok (.iadd, 1) := by decide +kernel
theorem dL_tune_65 : decode cL_tune 65 = .ok (.sipush 1000, 3) := by decide +kernel
theorem dL_tune_68 : decode cL_tune 68 = .ok (.invokestatic 23, 3) := by decide +kernel
theorem dL_tune_71 : decode cL_tune 71 = .ok (.ireturn, 1) := by decide +kernel
set_option maxRecDepth 100000 in
theorem rL_tune_0 {zx : zX} {zn : Nat} {p : Program} {l : Launch} {e : Env} {s : State} {m : MethodId} {args : Array Value} {below : List Frame} {meth : Method} {c : Code} {D : va_G} {cA : Nat → ClassId} {ad : Nat → Nat} {Ret : zR} (C : z_Cx zx zn (z_A zn ad) 0 0 p { frames := 2, cells := 0, slots := 0, locals := 44 } s m args c cL_tune yL_tune.cls 4 D cA ad) (hr : meth.sig.returnType = (some .int)) (hlocks : meth.locks = false) : ∀ L st σ, tL_tune_0 zx (z_X zx zn (z_A zn ad) 0 0 p l e { frames := 2, cells := 0, slots := 0, locals := 44 } s m args below meth c (MQ below (z_Qc zn D cA ad Ret) args s 0 0 (z_A zn ad)) 4 D cA ad true) Ret L st σ → z_X zx zn (z_A zn ad) 0 0 p l e { frames := 2, cells := 0, slots := 0, locals := 44 } s m args below meth c (MQ below (z_Qc zn D cA ad Ret) args s 0 0 (z_A zn ad)) 4 D cA ad true 0 L st σ := (s_aload_n C dL_tune_0 rfl (s_bipush C dL_tune_1 rfl ⟨by decide, by decide⟩ (s_iload_n C dL_tune_3 rfl (s_iadd C dL_tune_4 (s_cs2 C dL_tune_5 (okL_cell l) wd_540 wd_541 wd_16 wd_542 ⟨by decide, by decide, by decide +kernel⟩ ⟨by decide, by decide⟩ (s_istore_n C dL_tune_8 (by decide) rfl rfl (s_iload_n C dL_tune_9 rfl (s_aload_n C dL_tune_10 rfl (s_cs1 C dL_tune_11 (okL_trees l) wd_548 wd_549 wd_16 wd_550 ⟨by decide, by decide, by decide +kernel⟩ ⟨by decide, by decide⟩ (s_cs2 C dL_tune_14 (okL_low l) wd_544 wd_545 wd_16 wd_546 ⟨by decide, by decide, by decide +kernel⟩ ⟨by decide, by decide⟩ (s_istore_n C dL_tune_17 (by decide) rfl rfl (s_iload_n C dL_tune_18 rfl (s_bipush C dL_tune_19 rfl ⟨by decide, by decide⟩ (s_ishr C dL_tune_21 (s_iconst C dL_tune_22 rfl ⟨by decide, by decide⟩ (s_iand C dL_tune_23 (s_ifne C dL_tune_24 (by decide) (s_sipush C dL_tune_39 rfl ⟨by decide, by decide⟩ (s_aload_n C dL_tune_42 rfl (s_iload_n C dL_tune_43 rfl (s_iconst C dL_tune_44 rfl ⟨by decide, by decide⟩ (s_cs3 C dL_tune_45 (okL_tree l) wd_569 wd_570 wd_16 wd_571 ⟨by decide, by decide, by decide +kernel⟩ ⟨by decide, by decide⟩ (s_imul C dL_tune_48 (s_aload_n C dL_tune_49 rfl (s_iload_n C dL_tune_50 rfl (s_iconst C dL_tune_51 rfl ⟨by decide, by decide⟩ (s_cs3 C dL_tune_52 (okL_tree l) wd_569 wd_570 wd_16 wd_571 ⟨by decide, by decide, by decide +kernel⟩ ⟨by decide, by decide⟩ (s_idiv C dL_tune_55 (s_iload_n C dL_tune_56 rfl (s_bipush C dL_tune_57 rfl ⟨by decide, by decide⟩ (s_ishr C dL_tune_59 (s_iconst C dL_tune_60 rfl ⟨by decide, by decide⟩ (s_cs2 C dL_tune_61 (okL_low l) wd_544 wd_545 wd_16 wd_546 ⟨by decide, by decide, by decide +kernel⟩ ⟨by decide, by decide⟩ (s_iadd C dL_tune_64 (s_sipush C dL_tune_65 rfl ⟨by decide, by decide⟩ (s_cs2 C dL_tune_68 (okL_low l) wd_544 wd_545 wd_16 wd_546 ⟨by decide, by decide, by decide +kernel⟩ ⟨by decide, by decide⟩ (s_iret C dL_tune_71 hr hlocks)))))))))))))))))))) (s_iload_n C dL_tune_27 rfl (s_iconst C dL_tune_28 rfl ⟨by decide, by decide⟩ (s_ishr C dL_tune_29 (s_sipush C dL_tune_30 rfl ⟨by decide, by decide⟩ (s_cs2 C dL_tune_33 (okL_low l) wd_544 wd_545 wd_16 wd_546 ⟨by decide, by decide, by decide +kernel⟩ ⟨by decide, by decide⟩ (s_goto C dL_tune_36 (by decide) (s_iret C dL_tune_71 hr hlocks))))))))))))))))))))))))
theorem okL_tune {zx : zX} {zn : Nat} (l : Launch) : z_OK zx zn l yL_tune cL_tune 4 (some .int) 2 44 (SL_tune zx) := by
  refine z_ok_of true (by decide +kernel) ?_ ?_
  · intro as σ Ret h
    obtain ⟨k1, x2, rfl⟩ := pL_tune h
    exact ⟨Nat.le_of_ble_eq_true rfl, by simp⟩
  · intro p e s m args below meth c D cA ad Ret C hr hlocks as σ has hσ h
    obtain ⟨k1, x2, rfl⟩ := pL_tune h
    exact vL_tune (rL_tune_0 C hr hlocks) k1 x2 σ (has _ (List.mem_of_getElem? (i := 0) rfl)).1 (has _ (List.mem_of_getElem? (i := 1) rfl)) hσ h
def w_fit (v : Int) : Int := max 10 (min 999 v)
def SL_fit (zx : zX) : zS := fun as σ Ret => match as with
  | [.inl v] => Ret (some (.inl (w_fit v))) σ
  | _ => False
def tL_fit_0 (zx : zX) (X : Nat → zB) (Ret : zR) (L : zL) (st : List zV) (σ : zM) : Prop := (z_iload 0 (z_push 999 (z_icle (z_iload 0 (z_push 10 (z_icge (z_iload 0 (z_iret Ret)) (z_push 10 (z_goto (z_iret Ret)))))) (z_push 999 (z_goto (z_iret Ret)))))) L st σ
theorem pL_fit {zx : zX} {as : List zV} {σ : zM} {Ret : zR} (h : (SL_fit zx) as σ Ret) : ∃ (x1 : Int), as = [.inl x1] := by
  unfold SL_fit at h
  split at h
  · exact ⟨_, rfl⟩
  · exact h.elim
set_option maxRecDepth 10000 in
set_option maxHeartbeats 4000000 in
theorem vL_fit {zx : zX} {X : Nat → zB} {Ret : zR} (h0 : ∀ L st σ, tL_fit_0 zx X Ret L st σ → X 0 L st σ) (x1 : Int) (σ : zM) (hx1 : -2147483648 ≤ x1 ∧ x1 ≤ 2147483647) (hσ : z_okm σ) (h : (SL_fit zx) [.inl x1] σ Ret) : X 0 [some (.inl x1)] [] σ := by
  unfold SL_fit w_fit at h
  refine h0 _ _ _ ?_
  simp only [z_push, z_lpush, z_iload, z_lload, z_aload, z_istore, z_istoreP, z_lstore, z_astore, z_iinc, z_iincP, z_iadd, z_isub, z_imul, z_iaddW, z_isubW, z_imulW, z_idiv, z_irem, z_iand, z_ior, z_ixor, z_ishl, z_ishr, z_iushr, z_ineg, z_i2l, z_i2b, z_i2s, z_i2c, z_l2i, z_ladd, z_lsub, z_land, z_lor, z_lshl, z_lshr, z_lcmp, z_dup, z_pop, z_dup2, z_goto, z_tsw, z_cases, z_geti, z_getr, z_puti, z_putz, z_ald, z_iast, z_bast, z_zast, z_alen, z_acopy, z_mmax, z_mmin, z_mabs, z_mabsL, z_iret, z_zret, z_nret, z_lret, z_aret, z_vret, z_cat, z_xald, z_xlen, z_ldcs, z_strv, z_strc, z_gcs, z_gfm, z_sln, z_sald, z_ifeq, z_ifne, z_iflt, z_ifge, z_ifgt, z_ifle, z_iceq, z_icne, z_iclt, z_icge, z_icgt, z_icle, z_cs0, z_cs1, z_cs2, z_cs3, z_cs4, z_cs5, z_cs6, z_cs7, z_cv0, z_cv1, z_cv2, z_cv3, z_cv4, z_cv5, z_cv6, z_cv7, z_g0, z_s0, z_g1, z_s1, z_g2, z_s2, z_g3, z_s3, z_g4, z_s4, z_g5, z_s5, z_g6, z_s6, z_g7, z_s7, z_g8, z_s8, z_g9, z_s9, z_g10, z_s10, z_g11, z_s11, z_g12, z_s12, z_g13, z_s13, z_b0, z_b1, z_b0n, z_b1n, z_up_far1, z_up_far2, z_up_far3, z_up_far4, z_up_far5, z_up_far6, Classical.not_not, not_true_eq_false, z_in, z_inL, Int.cast_ofNat_Int, Nat.reduceLeDiff, List.length_cons, List.length_nil, Nat.reduceAdd, Nat.zero_add, Nat.le_refl, true_and, and_true, List.length, Nat.reduceLT, true_or, or_true, false_or, or_false, false_and, and_false, not_true_eq_false, not_false_eq_true, forall_const, false_implies, true_implies, Int.reduceEq, Int.reduceLT, Int.reduceLE, Int.reduceAdd, Int.reduceSub, Int.reduceMul, Int.reduceNeg, Int.reduceToNat, Int.toNat_natCast, ↓reduceIte, reduceIte, Nat.reduceEqDiff, Nat.reduceSub, Nat.reduceMul, ne_eq, Int.zero_add, Int.add_zero, Int.sub_zero, Nat.add_zero, Int.ofNat_eq_natCast, tL_fit_0]
  repeat' (first | (intro _) | (with_reducible assumption) | (refine And.intro ?_ ?_))
  all_goals first | omega | assumption | (refine z_fin h ?_ rfl; first | rfl | omega | (split <;> omega) | (split <;> split <;> omega)) | skip
theorem dL_fit_0 : decode cL_fit 0 = .ok (.iload_n 0, 1) := by decide +kernel
theorem dL_fit_1 : decode cL_fit 1 = .ok (.sipush 999, 3) := by decide +kernel
theorem dL_fit_4 : decode cL_fit 4 = .ok (.if_icmp .le 9, 3) := by decide +kernel
theorem dL_fit_7 : decode cL_fit 7 = .ok (.sipush 999, 3) := by decide +kernel
theorem dL_fit_10 : decode cL_fit 10 = .ok (.goto 15, 3) := by decide +kernel
theorem dL_fit_13 : decode cL_fit 13 = .ok (.iload_n 0, 1) := by decide +kernel
theorem dL_fit_14 : decode cL_fit 14 = .ok (.bipush 10, 2) := by decide +kernel
theorem dL_fit_16 : decode cL_fit 16 = .ok (.if_icmp .ge 8, 3) := by decide +kernel
theorem dL_fit_19 : decode cL_fit 19 = .ok (.bipush 10, 2) := by decide +kernel
theorem dL_fit_21 : decode cL_fit 21 = .ok (.goto 4, 3) := by decide +kernel
theorem dL_fit_24 : decode cL_fit 24 = .ok (.iload_n 0, 1) := by decide +kernel
theorem dL_fit_25 : decode cL_fit 25 = .ok (.ireturn, 1) := by decide +kernel
set_option maxRecDepth 100000 in
theorem rL_fit_0 {zx : zX} {zn : Nat} {p : Program} {l : Launch} {e : Env} {s : State} {m : MethodId} {args : Array Value} {below : List Frame} {meth : Method} {c : Code} {D : va_G} {cA : Nat → ClassId} {ad : Nat → Nat} {Ret : zR} (C : z_Cx zx zn (z_A zn ad) 0 0 p { frames := 0, cells := 0, slots := 0, locals := 0 } s m args c cL_fit yL_fit.cls 1 D cA ad) (hr : meth.sig.returnType = (some .int)) (hlocks : meth.locks = false) : ∀ L st σ, tL_fit_0 zx (z_X zx zn (z_A zn ad) 0 0 p l e { frames := 0, cells := 0, slots := 0, locals := 0 } s m args below meth c (MQ below (z_Qc zn D cA ad Ret) args s 0 0 (z_A zn ad)) 1 D cA ad true) Ret L st σ → z_X zx zn (z_A zn ad) 0 0 p l e { frames := 0, cells := 0, slots := 0, locals := 0 } s m args below meth c (MQ below (z_Qc zn D cA ad Ret) args s 0 0 (z_A zn ad)) 1 D cA ad true 0 L st σ := (s_iload_n C dL_fit_0 rfl (s_sipush C dL_fit_1 rfl ⟨by decide, by decide⟩ (s_icle C dL_fit_4 (by decide) (s_iload_n C dL_fit_13 rfl (s_bipush C dL_fit_14 rfl ⟨by decide, by decide⟩ (s_icge C dL_fit_16 (by decide) (s_iload_n C dL_fit_24 rfl (s_iret C dL_fit_25 hr hlocks)) (s_bipush C dL_fit_19 rfl ⟨by decide, by decide⟩ (s_goto C dL_fit_21 (by decide) (s_iret C dL_fit_25 hr hlocks)))))) (s_sipush C dL_fit_7 rfl ⟨by decide, by decide⟩ (s_goto C dL_fit_10 (by decide) (s_iret C dL_fit_25 hr hlocks))))))
theorem okL_fit {zx : zX} {zn : Nat} (l : Launch) : z_OK zx zn l yL_fit cL_fit 1 (some .int) 0 0 (SL_fit zx) := by
  refine z_ok_of true (by decide +kernel) ?_ ?_
  · intro as σ Ret h
    obtain ⟨x1, rfl⟩ := pL_fit h
    exact ⟨Nat.le_of_ble_eq_true rfl, by simp⟩
  · intro p e s m args below meth c D cA ad Ret C hr hlocks as σ has hσ h
    obtain ⟨x1, rfl⟩ := pL_fit h
    exact vL_fit (rL_fit_0 C hr hlocks) x1 σ (has _ (List.mem_of_getElem? (i := 0) rfl)) hσ h
