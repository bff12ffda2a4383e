/-! copy asked of the model -/
theorem z_cpy_D {σ : zM} {k1 s k2 d n : Nat} : z_up (z_cpy σ k1 (s + 1) k2 (d + 1) n) k2 d (σ k1 s) = z_cpy σ k1 s k2 d (n + 1) := by
  funext a b
  unfold z_up z_cpy
  by_cases e : a = k2 ∧ b = d
  · rw [if_pos e, if_pos (by omega), e.2, Nat.sub_self, Nat.add_zero]
  · rw [if_neg e]
    by_cases e2 : a = k2 ∧ d + 1 ≤ b ∧ b < d + 1 + n
    · rw [if_pos e2, if_pos (by omega), show s + 1 + (b - (d + 1)) = s + (b - d) by omega]
    · rw [if_neg e2, if_neg (by omega)]
theorem z_cpy_out {σ : zM} {k1 s k2 d n b : Nat} (h : ¬ (d ≤ b ∧ b < d + n)) : z_cpy σ k1 s k2 d n k2 b = σ k2 b := by
  unfold z_cpy
  rw [if_neg (fun q => h q.2)]
def SX10_copy : zS := fun as σ Ret => match as with
  | [.inr (.inr (10, 0, _)), .inl a, .inl i, .inl b, .inl j, .inl n] => q_S10 (q_gCopy a i b j n) (q_fCopy a i b j n) σ Ret
  | _ => False
def tX10_copy_0 (X : Nat → zB) (Ret : zR) (L : zL) (st : List zV) (σ : zM) : Prop := (z_aload 0 (z_push 0 (z_puti 10 0 (z_iload 1 (z_cs1 SX10_isRow (z_ifeq (z_push (-1000001) (z_iret Ret)) (z_iload 3 (z_cs1 SX10_isRow (z_ifne (z_aload 0 (z_push 0 (z_puti 10 1 (z_aload 0 (z_getr 10 1 100 8 (z_iload 1 (z_ald 0 (z_iflt (z_aload 0 (z_push 1 (z_cv1 10 SX10_finding (z_iret Ret)))) (z_aload 0 (z_getr 10 1 100 8 (z_iload 3 (z_ald 0 (z_ifge (z_aload 0 (z_getr 10 1 100 8 (z_iload 1 (z_ald 0 (z_aload 0 (z_getr 10 1 100 8 (z_iload 3 (z_ald 0 (z_iceq (z_iload 2 (z_iflt (z_aload 0 (z_push 2 (z_cv1 10 SX10_finding (z_iret Ret)))) (z_iload 4 (z_iflt (z_aload 0 (z_push 2 (z_cv1 10 SX10_finding (z_iret Ret)))) (z_iload 5 (z_iflt (z_aload 0 (z_push 2 (z_cv1 10 SX10_finding (z_iret Ret)))) (z_iload 2 (z_i2l (z_iload 5 (z_i2l (z_ladd (z_aload 0 (z_getr 10 2 100 8 (z_iload 1 (z_ald 0 (z_i2l (z_lcmp (z_ifgt (z_aload 0 (z_push 2 (z_cv1 10 SX10_finding (z_iret Ret)))) (z_iload 4 (z_i2l (z_iload 5 (z_i2l (z_ladd (z_aload 0 (z_getr 10 2 100 8 (z_iload 3 (z_ald 0 (z_i2l (z_lcmp (z_ifle (z_iload 2 (z_iload 4 (z_iclt (z_push 0 (z_istore 6 (z_push 0 (z_istore 7 (X 143))))) (z_push 1 (z_goto (z_istore 6 (z_push 0 (z_istore 7 (X 143))))))))) (z_aload 0 (z_push 2 (z_cv1 10 SX10_finding (z_iret Ret)))))))))))))))))))))))))))))))))) (z_aload 0 (z_push 5 (z_cv1 10 SX10_finding (z_iret Ret))))))))))))) (z_aload 0 (z_push 1 (z_cv1 10 SX10_finding (z_iret Ret))))))))))))))))) (z_push (-1000001) (z_iret Ret))))))))))) L st σ
def tX10_copy_143 (X : Nat → zB) (Ret : zR) (L : zL) (st : List zV) (σ : zM) : Prop := (z_iload 7 (z_iload 5 (z_icge (z_iload 5 (z_iret Ret)) (z_iload 6 (z_ifeq (z_iload 5 (z_push 1 (z_isub (z_iload 7 (z_isub (z_istore 8 (z_aload 0 (z_getr 10 3 100 320 (z_push 40 (z_iload 3 (z_imul (z_iload 4 (z_iadd (z_iload 8 (z_iadd (z_aload 0 (z_getr 10 3 100 320 (z_push 40 (z_iload 1 (z_imul (z_iload 2 (z_iadd (z_iload 8 (z_iadd (z_ald 0 (z_iast (z_iinc 7 1 (z_goto (X 143))))))))))))))))))))))))))))) (z_iload 7 (z_goto (z_istore 8 (z_aload 0 (z_getr 10 3 100 320 (z_push 40 (z_iload 3 (z_imul (z_iload 4 (z_iadd (z_iload 8 (z_iadd (z_aload 0 (z_getr 10 3 100 320 (z_push 40 (z_iload 1 (z_imul (z_iload 2 (z_iadd (z_iload 8 (z_iadd (z_ald 0 (z_iast (z_iinc 7 1 (z_goto (X 143))))))))))))))))))))))))))))))) L st σ
theorem pX10_copy {as : List zV} {σ : zM} {Ret : zR} (h : SX10_copy as σ Ret) : ∃ (k0 : Nat) (x1 : Int) (x2 : Int) (x3 : Int) (x4 : Int) (x5 : Int), as = [.inr (.inr (10, 0, k0)), .inl x1, .inl x2, .inl x3, .inl x4, .inl x5] := by
  unfold SX10_copy at h
  split at h
  · exact ⟨_, _, _, _, _, _, rfl⟩
  · exact h.elim
set_option maxRecDepth 10000 in
set_option maxHeartbeats 4000000 in
theorem vX10_copy {X : Nat → zB} {Ret : zR} (h0 : ∀ L st σ, tX10_copy_0 X Ret L st σ → X 0 L st σ) (h143 : ∀ L st σ, tX10_copy_143 X Ret L st σ → X 143 L st σ) (k0 : Nat) (x1 : Int) (x2 : Int) (x3 : Int) (x4 : Int) (x5 : Int) (σ : zM) (hk0 : z_kd k0 = (10, 0)) (hx1 : -2147483648 ≤ x1 ∧ x1 ≤ 2147483647) (hx2 : -2147483648 ≤ x2 ∧ x2 ≤ 2147483647) (hx3 : -2147483648 ≤ x3 ∧ x3 ≤ 2147483647) (hx4 : -2147483648 ≤ x4 ∧ x4 ≤ 2147483647) (hx5 : -2147483648 ≤ x5 ∧ x5 ≤ 2147483647) (hσ : z_okm σ) (h : SX10_copy [.inr (.inr (10, 0, k0)), .inl x1, .inl x2, .inl x3, .inl x4, .inl x5] σ Ret) : X 0 [some (.inr (.inr (10, 0, k0))), some (.inl x1), some (.inl x2), some (.inl x3), some (.inl x4), some (.inl x5), none, none, none] [] σ := by
  obtain ⟨m, h⟩ := h
  obtain rfl := z_kd10 hk0
  by_cases c1 : ¬ ((0 ≤ x1 ∧ x1 < 8) ∧ 0 ≤ x3 ∧ x3 < 8)
  · have fin := h (z_up σ 89 0 0) q_th.1 (by unfold q_fCopy; rw [if_pos c1]; exact q_th.2)
    simp only [q_gCopy, if_pos c1] at fin
    refine h0 _ _ _ ?_
    simp only [z_push, z_lpush, z_iload, z_lload, z_aload, z_istore, z_istoreP, z_lstore, z_astore, z_iinc, z_iincP, z_iadd, z_isub, z_imul, z_iaddW, z_isubW, z_imulW, z_idiv, z_irem, z_iand, z_ior, z_ixor, z_ishl, z_ishr, z_iushr, z_ineg, z_i2l, z_i2b, z_i2s, z_i2c, z_l2i, z_ladd, z_lsub, z_land, z_lor, z_lshl, z_lshr, z_lcmp, z_dup, z_pop, z_dup2, z_goto, z_tsw, z_cases, z_geti, z_getr, z_puti, z_putz, z_ald, z_iast, z_bast, z_zast, z_alen, z_acopy, z_mmax, z_mmin, z_mabs, z_mabsL, z_iret, z_zret, z_nret, z_lret, z_aret, z_vret, z_cat, z_ldcs, z_strv, z_strc, z_gcs, z_gfm, z_sln, z_sald, z_ifeq, z_ifne, z_iflt, z_ifge, z_ifgt, z_ifle, z_iceq, z_icne, z_iclt, z_icge, z_icgt, z_icle, z_cs0, z_cs1, z_cs2, z_cs3, z_cs4, z_cs5, z_cs6, z_cs7, z_cv0, z_cv1, z_cv2, z_cv3, z_cv4, z_cv5, z_cv6, z_cv7, z_g0, z_s0, z_g1, z_s1, z_g2, z_s2, z_g3, z_s3, z_g4, z_s4, z_g5, z_s5, z_g6, z_s6, z_g7, z_s7, z_g8, z_s8, z_g9, z_s9, z_g10, z_s10, z_g11, z_s11, z_g12, z_s12, z_g13, z_s13, z_b0, z_b1, z_b0n, z_b1n, z_up_far1, z_up_far2, z_up_far3, z_up_far4, z_up_far5, z_up_far6, Classical.not_not, not_true_eq_false, z_in, z_inL, Int.cast_ofNat_Int, Nat.reduceLeDiff, List.length_cons, List.length_nil, Nat.reduceAdd, Nat.zero_add, Nat.le_refl, true_and, and_true, List.length, Nat.reduceLT, true_or, or_true, false_or, or_false, false_and, and_false, not_true_eq_false, not_false_eq_true, forall_const, false_implies, true_implies, Int.reduceEq, Int.reduceLT, Int.reduceLE, Int.reduceAdd, Int.reduceSub, Int.reduceMul, Int.reduceNeg, Int.reduceToNat, Int.toNat_natCast, ↓reduceIte, reduceIte, Nat.reduceEqDiff, Nat.reduceSub, Nat.reduceMul, ne_eq, Int.zero_add, Int.add_zero, Int.sub_zero, Nat.add_zero, Int.ofNat_eq_natCast, tX10_copy_0, SX10_isRow]
    repeat' (first | (intro _) | (with_reducible assumption) | (refine And.intro ?_ ?_))
    all_goals first | omega | assumption | (refine z_fin fin ?_ rfl; first | rfl | omega | (split <;> omega) | (split <;> split <;> omega)) | skip
  obtain ⟨a, rfl⟩ := z_nat (show 0 ≤ x1 by omega)
  obtain ⟨b, rfl⟩ := z_nat (show 0 ≤ x3 by omega)
  have ma := m.1 a (by omega)
  have mb := m.1 b (by omega)
  have e90a : z_up (z_up σ 89 0 0) 89 1 0 90 a = σ 90 a := by rw [z_up_ne (by omega), z_up_ne (by omega)]
  have e90b : z_up (z_up σ 89 0 0) 89 1 0 90 b = σ 90 b := by rw [z_up_ne (by omega), z_up_ne (by omega)]
  have e91a : z_up (z_up σ 89 0 0) 89 1 0 91 a = σ 91 a := by rw [z_up_ne (by omega), z_up_ne (by omega)]
  have e91b : z_up (z_up σ 89 0 0) 89 1 0 91 b = σ 91 b := by rw [z_up_ne (by omega), z_up_ne (by omega)]
  by_cases c2 : σ 90 a < 0 ∨ σ 90 b < 0
  · have fin := h (z_up (z_up (z_up σ 89 0 0) 89 1 0) 89 1 1) q_th2.1 (by unfold q_fCopy; rw [if_neg c1, Int.toNat_natCast, Int.toNat_natCast, if_pos c2]; exact q_th2.2)
    simp only [q_gCopy, if_neg c1, Int.toNat_natCast, if_pos c2] at fin
    refine h0 _ _ _ ?_
    simp only [z_push, z_lpush, z_iload, z_lload, z_aload, z_istore, z_istoreP, z_lstore, z_astore, z_iinc, z_iincP, z_iadd, z_isub, z_imul, z_iaddW, z_isubW, z_imulW, z_idiv, z_irem, z_iand, z_ior, z_ixor, z_ishl, z_ishr, z_iushr, z_ineg, z_i2l, z_i2b, z_i2s, z_i2c, z_l2i, z_ladd, z_lsub, z_land, z_lor, z_lshl, z_lshr, z_lcmp, z_dup, z_pop, z_dup2, z_goto, z_tsw, z_cases, z_geti, z_getr, z_puti, z_putz, z_ald, z_iast, z_bast, z_zast, z_alen, z_acopy, z_mmax, z_mmin, z_mabs, z_mabsL, z_iret, z_zret, z_nret, z_lret, z_aret, z_vret, z_cat, z_ldcs, z_strv, z_strc, z_gcs, z_gfm, z_sln, z_sald, z_ifeq, z_ifne, z_iflt, z_ifge, z_ifgt, z_ifle, z_iceq, z_icne, z_iclt, z_icge, z_icgt, z_icle, z_cs0, z_cs1, z_cs2, z_cs3, z_cs4, z_cs5, z_cs6, z_cs7, z_cv0, z_cv1, z_cv2, z_cv3, z_cv4, z_cv5, z_cv6, z_cv7, z_g0, z_s0, z_g1, z_s1, z_g2, z_s2, z_g3, z_s3, z_g4, z_s4, z_g5, z_s5, z_g6, z_s6, z_g7, z_s7, z_g8, z_s8, z_g9, z_s9, z_g10, z_s10, z_g11, z_s11, z_g12, z_s12, z_g13, z_s13, z_b0, z_b1, z_b0n, z_b1n, z_up_far1, z_up_far2, z_up_far3, z_up_far4, z_up_far5, z_up_far6, Classical.not_not, not_true_eq_false, z_in, z_inL, Int.cast_ofNat_Int, Nat.reduceLeDiff, List.length_cons, List.length_nil, Nat.reduceAdd, Nat.zero_add, Nat.le_refl, true_and, and_true, List.length, Nat.reduceLT, true_or, or_true, false_or, or_false, false_and, and_false, not_true_eq_false, not_false_eq_true, forall_const, false_implies, true_implies, Int.reduceEq, Int.reduceLT, Int.reduceLE, Int.reduceAdd, Int.reduceSub, Int.reduceMul, Int.reduceNeg, Int.reduceToNat, Int.toNat_natCast, ↓reduceIte, reduceIte, Nat.reduceEqDiff, Nat.reduceSub, Nat.reduceMul, ne_eq, Int.zero_add, Int.add_zero, Int.sub_zero, Nat.add_zero, Int.ofNat_eq_natCast, tX10_copy_0, SX10_isRow, SX10_finding, e90a, e90b]
    repeat' (first | (intro _) | (with_reducible assumption) | (refine And.intro ?_ ?_))
    all_goals first | omega | assumption | (refine z_fin fin ?_ rfl; first | rfl | omega | (split <;> omega) | (split <;> split <;> omega)) | skip
  by_cases c3 : ¬ σ 90 a = σ 90 b
  · have fin := h (z_up (z_up (z_up σ 89 0 0) 89 1 0) 89 1 5) q_th2.1 (by unfold q_fCopy; rw [if_neg c1, Int.toNat_natCast, Int.toNat_natCast, if_neg c2, if_pos c3]; exact q_th2.2)
    simp only [q_gCopy, if_neg c1, Int.toNat_natCast, if_neg c2, if_pos c3] at fin
    refine h0 _ _ _ ?_
    simp only [z_push, z_lpush, z_iload, z_lload, z_aload, z_istore, z_istoreP, z_lstore, z_astore, z_iinc, z_iincP, z_iadd, z_isub, z_imul, z_iaddW, z_isubW, z_imulW, z_idiv, z_irem, z_iand, z_ior, z_ixor, z_ishl, z_ishr, z_iushr, z_ineg, z_i2l, z_i2b, z_i2s, z_i2c, z_l2i, z_ladd, z_lsub, z_land, z_lor, z_lshl, z_lshr, z_lcmp, z_dup, z_pop, z_dup2, z_goto, z_tsw, z_cases, z_geti, z_getr, z_puti, z_putz, z_ald, z_iast, z_bast, z_zast, z_alen, z_acopy, z_mmax, z_mmin, z_mabs, z_mabsL, z_iret, z_zret, z_nret, z_lret, z_aret, z_vret, z_cat, z_ldcs, z_strv, z_strc, z_gcs, z_gfm, z_sln, z_sald, z_ifeq, z_ifne, z_iflt, z_ifge, z_ifgt, z_ifle, z_iceq, z_icne, z_iclt, z_icge, z_icgt, z_icle, z_cs0, z_cs1, z_cs2, z_cs3, z_cs4, z_cs5, z_cs6, z_cs7, z_cv0, z_cv1, z_cv2, z_cv3, z_cv4, z_cv5, z_cv6, z_cv7, z_g0, z_s0, z_g1, z_s1, z_g2, z_s2, z_g3, z_s3, z_g4, z_s4, z_g5, z_s5, z_g6, z_s6, z_g7, z_s7, z_g8, z_s8, z_g9, z_s9, z_g10, z_s10, z_g11, z_s11, z_g12, z_s12, z_g13, z_s13, z_b0, z_b1, z_b0n, z_b1n, z_up_far1, z_up_far2, z_up_far3, z_up_far4, z_up_far5, z_up_far6, Classical.not_not, not_true_eq_false, z_in, z_inL, Int.cast_ofNat_Int, Nat.reduceLeDiff, List.length_cons, List.length_nil, Nat.reduceAdd, Nat.zero_add, Nat.le_refl, true_and, and_true, List.length, Nat.reduceLT, true_or, or_true, false_or, or_false, false_and, and_false, not_true_eq_false, not_false_eq_true, forall_const, false_implies, true_implies, Int.reduceEq, Int.reduceLT, Int.reduceLE, Int.reduceAdd, Int.reduceSub, Int.reduceMul, Int.reduceNeg, Int.reduceToNat, Int.toNat_natCast, ↓reduceIte, reduceIte, Nat.reduceEqDiff, Nat.reduceSub, Nat.reduceMul, ne_eq, Int.zero_add, Int.add_zero, Int.sub_zero, Nat.add_zero, Int.ofNat_eq_natCast, tX10_copy_0, SX10_isRow, SX10_finding, e90a, e90b]
    repeat' (first | (intro _) | (with_reducible assumption) | (refine And.intro ?_ ?_))
    all_goals first | omega | assumption | (refine z_fin fin ?_ rfl; first | rfl | omega | (split <;> omega) | (split <;> split <;> omega)) | skip
  by_cases c4 : ¬ (0 ≤ x2 ∧ 0 ≤ x4 ∧ 0 ≤ x5 ∧ x2 + x5 ≤ σ 91 a ∧ x4 + x5 ≤ σ 91 b)
  · have fin := h (z_up (z_up (z_up σ 89 0 0) 89 1 0) 89 1 2) q_th2.1 (by unfold q_fCopy; rw [if_neg c1, Int.toNat_natCast, Int.toNat_natCast, if_neg c2, if_neg c3, if_pos c4]; exact q_th2.2)
    simp only [q_gCopy, if_neg c1, Int.toNat_natCast, if_neg c2, if_neg c3, if_pos c4] at fin
    refine h0 _ _ _ ?_
    simp only [z_push, z_lpush, z_iload, z_lload, z_aload, z_istore, z_istoreP, z_lstore, z_astore, z_iinc, z_iincP, z_iadd, z_isub, z_imul, z_iaddW, z_isubW, z_imulW, z_idiv, z_irem, z_iand, z_ior, z_ixor, z_ishl, z_ishr, z_iushr, z_ineg, z_i2l, z_i2b, z_i2s, z_i2c, z_l2i, z_ladd, z_lsub, z_land, z_lor, z_lshl, z_lshr, z_lcmp, z_dup, z_pop, z_dup2, z_goto, z_tsw, z_cases, z_geti, z_getr, z_puti, z_putz, z_ald, z_iast, z_bast, z_zast, z_alen, z_acopy, z_mmax, z_mmin, z_mabs, z_mabsL, z_iret, z_zret, z_nret, z_lret, z_aret, z_vret, z_cat, z_ldcs, z_strv, z_strc, z_gcs, z_gfm, z_sln, z_sald, z_ifeq, z_ifne, z_iflt, z_ifge, z_ifgt, z_ifle, z_iceq, z_icne, z_iclt, z_icge, z_icgt, z_icle, z_cs0, z_cs1, z_cs2, z_cs3, z_cs4, z_cs5, z_cs6, z_cs7, z_cv0, z_cv1, z_cv2, z_cv3, z_cv4, z_cv5, z_cv6, z_cv7, z_g0, z_s0, z_g1, z_s1, z_g2, z_s2, z_g3, z_s3, z_g4, z_s4, z_g5, z_s5, z_g6, z_s6, z_g7, z_s7, z_g8, z_s8, z_g9, z_s9, z_g10, z_s10, z_g11, z_s11, z_g12, z_s12, z_g13, z_s13, z_b0, z_b1, z_b0n, z_b1n, z_up_far1, z_up_far2, z_up_far3, z_up_far4, z_up_far5, z_up_far6, Classical.not_not, not_true_eq_false, z_in, z_inL, Int.cast_ofNat_Int, Nat.reduceLeDiff, List.length_cons, List.length_nil, Nat.reduceAdd, Nat.zero_add, Nat.le_refl, true_and, and_true, List.length, Nat.reduceLT, true_or, or_true, false_or, or_false, false_and, and_false, not_true_eq_false, not_false_eq_true, forall_const, false_implies, true_implies, Int.reduceEq, Int.reduceLT, Int.reduceLE, Int.reduceAdd, Int.reduceSub, Int.reduceMul, Int.reduceNeg, Int.reduceToNat, Int.toNat_natCast, ↓reduceIte, reduceIte, Nat.reduceEqDiff, Nat.reduceSub, Nat.reduceMul, ne_eq, Int.zero_add, Int.add_zero, Int.sub_zero, Nat.add_zero, Int.ofNat_eq_natCast, tX10_copy_0, SX10_isRow, SX10_finding, e90a, e90b, e91a, e91b]
    repeat' (first | (intro _) | (with_reducible assumption) | (refine And.intro ?_ ?_))
    all_goals first | omega | assumption | (refine z_fin fin ?_ rfl; first | rfl | omega | (split <;> omega) | (split <;> split <;> omega)) | skip
  obtain ⟨i, rfl⟩ := z_nat (show 0 ≤ x2 by omega)
  obtain ⟨j, rfl⟩ := z_nat (show 0 ≤ x4 by omega)
  obtain ⟨n, rfl⟩ := z_nat (show 0 ≤ x5 by omega)
  have fin : Ret (some (.inl (n : Int))) (z_cpy (z_up (z_up σ 89 0 0) 89 1 0) 92 (40 * a + i) 92 (40 * b + j) n) := by
    have fin := h (z_cpy (z_up (z_up σ 89 0 0) 89 1 0) 92 (40 * a + i) 92 (40 * b + j) n) (fun c hc => funext fun j => by rw [z_cpy_ne (by omega), z_up_ne (by omega), z_up_ne (by omega)]) (fun c k hc => by
      unfold q_fCopy
      rw [if_neg c1, if_neg (by rw [Int.toNat_natCast, Int.toNat_natCast]; exact c2), if_neg (by rw [Int.toNat_natCast, Int.toNat_natCast]; exact c3), if_neg (by rw [Int.toNat_natCast, Int.toNat_natCast]; exact c4)]
      simp only [Int.toNat_natCast]
      unfold q_last at hc
      unfold z_cpy
      by_cases e : c = 92 ∧ 40 * b + j ≤ k ∧ k < 40 * b + j + n
      · rw [if_pos e, if_pos e, z_up_ne (by omega), z_up_ne (by omega), z_up_ne (by omega)]
      · rw [if_neg e, if_neg e]
        by_cases q : c = 89 ∧ k = 1
        · obtain ⟨rfl, rfl⟩ := q
          rw [z_up_eq, z_up_eq]
        · rw [z_up_ne (by omega), z_up_ne (by omega), z_up_ne (by omega)])
    simp only [q_gCopy, if_neg c1, Int.toNat_natCast, if_neg c2, if_neg c3, if_neg c4] at fin
    exact fin
  generalize hB : z_up (z_up σ 89 0 0) 89 1 0 = B at fin e90a e90b e91a e91b
  have LU : (j : Int) ≤ i → ∀ (d k : Nat) (v : Option zV), k + d = n → X 143 [some (.inr (.inr (10, 0, 89))), some (.inl (a : Int)), some (.inl (i : Int)), some (.inl (b : Int)), some (.inl (j : Int)), some (.inl (n : Int)), some (.inl 1), some (.inl (k : Int)), v] [] (z_cpy B 92 (40 * a + i) 92 (40 * b + j) k) := by
    intro hij d
    induction d with
    | zero =>
      intro k v hk
      obtain rfl : k = n := by omega
      refine h143 _ _ _ ?_
      simp only [z_push, z_lpush, z_iload, z_lload, z_aload, z_istore, z_istoreP, z_lstore, z_astore, z_iinc, z_iincP, z_iadd, z_isub, z_imul, z_iaddW, z_isubW, z_imulW, z_idiv, z_irem, z_iand, z_ior, z_ixor, z_ishl, z_ishr, z_iushr, z_ineg, z_i2l, z_i2b, z_i2s, z_i2c, z_l2i, z_ladd, z_lsub, z_land, z_lor, z_lshl, z_lshr, z_lcmp, z_dup, z_pop, z_dup2, z_goto, z_tsw, z_cases, z_geti, z_getr, z_puti, z_putz, z_ald, z_iast, z_bast, z_zast, z_alen, z_acopy, z_mmax, z_mmin, z_mabs, z_mabsL, z_iret, z_zret, z_nret, z_lret, z_aret, z_vret, z_cat, z_ldcs, z_strv, z_strc, z_gcs, z_gfm, z_sln, z_sald, z_ifeq, z_ifne, z_iflt, z_ifge, z_ifgt, z_ifle, z_iceq, z_icne, z_iclt, z_icge, z_icgt, z_icle, z_cs0, z_cs1, z_cs2, z_cs3, z_cs4, z_cs5, z_cs6, z_cs7, z_cv0, z_cv1, z_cv2, z_cv3, z_cv4, z_cv5, z_cv6, z_cv7, z_g0, z_s0, z_g1, z_s1, z_g2, z_s2, z_g3, z_s3, z_g4, z_s4, z_g5, z_s5, z_g6, z_s6, z_g7, z_s7, z_g8, z_s8, z_g9, z_s9, z_g10, z_s10, z_g11, z_s11, z_g12, z_s12, z_g13, z_s13, z_b0, z_b1, z_b0n, z_b1n, z_up_far1, z_up_far2, z_up_far3, z_up_far4, z_up_far5, z_up_far6, Classical.not_not, not_true_eq_false, z_in, z_inL, Int.cast_ofNat_Int, Nat.reduceLeDiff, List.length_cons, List.length_nil, Nat.reduceAdd, Nat.zero_add, Nat.le_refl, true_and, and_true, List.length, Nat.reduceLT, true_or, or_true, false_or, or_false, false_and, and_false, not_true_eq_false, not_false_eq_true, forall_const, false_implies, true_implies, Int.reduceEq, Int.reduceLT, Int.reduceLE, Int.reduceAdd, Int.reduceSub, Int.reduceMul, Int.reduceNeg, Int.reduceToNat, Int.toNat_natCast, ↓reduceIte, reduceIte, Nat.reduceEqDiff, Nat.reduceSub, Nat.reduceMul, ne_eq, Int.zero_add, Int.add_zero, Int.sub_zero, Nat.add_zero, Int.ofNat_eq_natCast, tX10_copy_143]
      repeat' (first | (intro _) | (with_reducible assumption) | (refine And.intro ?_ ?_))
      all_goals first | omega | assumption | (refine z_fin fin ?_ rfl; first | rfl | omega | (split <;> omega) | (split <;> split <;> omega)) | skip
    | succ d ih =>
      intro k v hk
      have nx := fun v => ih (k + 1) v (by omega)
      rw [← z_cpy_S] at nx
      have t1 : (40 * (a : Int) + (i : Int) + (k : Int)).toNat = 40 * a + i + k := by omega
      have t2 : (40 * (b : Int) + (j : Int) + (k : Int)).toNat = 40 * b + j + k := by omega
      have r1 : z_cpy B 92 (40 * a + i) 92 (40 * b + j) k 92 (40 * a + i + k) = B 92 (40 * a + i + k) := z_cpy_out (by omega)
      refine h143 _ _ _ ?_
      simp only [z_push, z_lpush, z_iload, z_lload, z_aload, z_istore, z_istoreP, z_lstore, z_astore, z_iinc, z_iincP, z_iadd, z_isub, z_imul, z_iaddW, z_isubW, z_imulW, z_idiv, z_irem, z_iand, z_ior, z_ixor, z_ishl, z_ishr, z_iushr, z_ineg, z_i2l, z_i2b, z_i2s, z_i2c, z_l2i, z_ladd, z_lsub, z_land, z_lor, z_lshl, z_lshr, z_lcmp, z_dup, z_pop, z_dup2, z_goto, z_tsw, z_cases, z_geti, z_getr, z_puti, z_putz, z_ald, z_iast, z_bast, z_zast, z_alen, z_acopy, z_mmax, z_mmin, z_mabs, z_mabsL, z_iret, z_zret, z_nret, z_lret, z_aret, z_vret, z_cat, z_ldcs, z_strv, z_strc, z_gcs, z_gfm, z_sln, z_sald, z_ifeq, z_ifne, z_iflt, z_ifge, z_ifgt, z_ifle, z_iceq, z_icne, z_iclt, z_icge, z_icgt, z_icle, z_cs0, z_cs1, z_cs2, z_cs3, z_cs4, z_cs5, z_cs6, z_cs7, z_cv0, z_cv1, z_cv2, z_cv3, z_cv4, z_cv5, z_cv6, z_cv7, z_g0, z_s0, z_g1, z_s1, z_g2, z_s2, z_g3, z_s3, z_g4, z_s4, z_g5, z_s5, z_g6, z_s6, z_g7, z_s7, z_g8, z_s8, z_g9, z_s9, z_g10, z_s10, z_g11, z_s11, z_g12, z_s12, z_g13, z_s13, z_b0, z_b1, z_b0n, z_b1n, z_up_far1, z_up_far2, z_up_far3, z_up_far4, z_up_far5, z_up_far6, Classical.not_not, not_true_eq_false, z_in, z_inL, Int.cast_ofNat_Int, Nat.reduceLeDiff, List.length_cons, List.length_nil, Nat.reduceAdd, Nat.zero_add, Nat.le_refl, true_and, and_true, List.length, Nat.reduceLT, true_or, or_true, false_or, or_false, false_and, and_false, not_true_eq_false, not_false_eq_true, forall_const, false_implies, true_implies, Int.reduceEq, Int.reduceLT, Int.reduceLE, Int.reduceAdd, Int.reduceSub, Int.reduceMul, Int.reduceNeg, Int.reduceToNat, Int.toNat_natCast, ↓reduceIte, reduceIte, Nat.reduceEqDiff, Nat.reduceSub, Nat.reduceMul, ne_eq, Int.zero_add, Int.add_zero, Int.sub_zero, Nat.add_zero, Int.ofNat_eq_natCast, tX10_copy_143, t1, t2, r1]
      repeat' (first | (intro _) | (with_reducible assumption) | (refine And.intro ?_ ?_))
      all_goals first | omega | assumption | (refine z_fin fin ?_ rfl; first | rfl | omega | (split <;> omega) | (split <;> split <;> omega)) | skip
      all_goals exact nx _
  have LD : (i : Int) < j → ∀ (d k : Nat) (v : Option zV), k + d = n → X 143 [some (.inr (.inr (10, 0, 89))), some (.inl (a : Int)), some (.inl (i : Int)), some (.inl (b : Int)), some (.inl (j : Int)), some (.inl (n : Int)), some (.inl 0), some (.inl (k : Int)), v] [] (z_cpy B 92 (40 * a + i + d) 92 (40 * b + j + d) k) := by
    intro hij d
    induction d with
    | zero =>
      intro k v hk
      obtain rfl : k = n := by omega
      refine h143 _ _ _ ?_
      simp only [z_push, z_lpush, z_iload, z_lload, z_aload, z_istore, z_istoreP, z_lstore, z_astore, z_iinc, z_iincP, z_iadd, z_isub, z_imul, z_iaddW, z_isubW, z_imulW, z_idiv, z_irem, z_iand, z_ior, z_ixor, z_ishl, z_ishr, z_iushr, z_ineg, z_i2l, z_i2b, z_i2s, z_i2c, z_l2i, z_ladd, z_lsub, z_land, z_lor, z_lshl, z_lshr, z_lcmp, z_dup, z_pop, z_dup2, z_goto, z_tsw, z_cases, z_geti, z_getr, z_puti, z_putz, z_ald, z_iast, z_bast, z_zast, z_alen, z_acopy, z_mmax, z_mmin, z_mabs, z_mabsL, z_iret, z_zret, z_nret, z_lret, z_aret, z_vret, z_cat, z_ldcs, z_strv, z_strc, z_gcs, z_gfm, z_sln, z_sald, z_ifeq, z_ifne, z_iflt, z_ifge, z_ifgt, z_ifle, z_iceq, z_icne, z_iclt, z_icge, z_icgt, z_icle, z_cs0, z_cs1, z_cs2, z_cs3, z_cs4, z_cs5, z_cs6, z_cs7, z_cv0, z_cv1, z_cv2, z_cv3, z_cv4, z_cv5, z_cv6, z_cv7, z_g0, z_s0, z_g1, z_s1, z_g2, z_s2, z_g3, z_s3, z_g4, z_s4, z_g5, z_s5, z_g6, z_s6, z_g7, z_s7, z_g8, z_s8, z_g9, z_s9, z_g10, z_s10, z_g11, z_s11, z_g12, z_s12, z_g13, z_s13, z_b0, z_b1, z_b0n, z_b1n, z_up_far1, z_up_far2, z_up_far3, z_up_far4, z_up_far5, z_up_far6, Classical.not_not, not_true_eq_false, z_in, z_inL, Int.cast_ofNat_Int, Nat.reduceLeDiff, List.length_cons, List.length_nil, Nat.reduceAdd, Nat.zero_add, Nat.le_refl, true_and, and_true, List.length, Nat.reduceLT, true_or, or_true, false_or, or_false, false_and, and_false, not_true_eq_false, not_false_eq_true, forall_const, false_implies, true_implies, Int.reduceEq, Int.reduceLT, Int.reduceLE, Int.reduceAdd, Int.reduceSub, Int.reduceMul, Int.reduceNeg, Int.reduceToNat, Int.toNat_natCast, ↓reduceIte, reduceIte, Nat.reduceEqDiff, Nat.reduceSub, Nat.reduceMul, ne_eq, Int.zero_add, Int.add_zero, Int.sub_zero, Nat.add_zero, Int.ofNat_eq_natCast, tX10_copy_143]
      repeat' (first | (intro _) | (with_reducible assumption) | (refine And.intro ?_ ?_))
      all_goals first | omega | assumption | (refine z_fin fin ?_ rfl; first | rfl | omega | (split <;> omega) | (split <;> split <;> omega)) | skip
    | succ d ih =>
      intro k v hk
      have nx := fun v => ih (k + 1) v (by omega)
      rw [← z_cpy_D] at nx
      have t0 : (n : Int) - 1 - (k : Int) = (d : Int) := by omega
      have t1 : (40 * (a : Int) + (i : Int) + (d : Int)).toNat = 40 * a + i + d := by omega
      have t2 : (40 * (b : Int) + (j : Int) + (d : Int)).toNat = 40 * b + j + d := by omega
      have r1 : z_cpy B 92 (40 * a + i + d + 1) 92 (40 * b + j + d + 1) k 92 (40 * a + i + d) = B 92 (40 * a + i + d) := z_cpy_out (by omega)
      rw [← Nat.add_assoc, ← Nat.add_assoc]
      refine h143 _ _ _ ?_
      simp only [z_push, z_lpush, z_iload, z_lload, z_aload, z_istore, z_istoreP, z_lstore, z_astore, z_iinc, z_iincP, z_iadd, z_isub, z_imul, z_iaddW, z_isubW, z_imulW, z_idiv, z_irem, z_iand, z_ior, z_ixor, z_ishl, z_ishr, z_iushr, z_ineg, z_i2l, z_i2b, z_i2s, z_i2c, z_l2i, z_ladd, z_lsub, z_land, z_lor, z_lshl, z_lshr, z_lcmp, z_dup, z_pop, z_dup2, z_goto, z_tsw, z_cases, z_geti, z_getr, z_puti, z_putz, z_ald, z_iast, z_bast, z_zast, z_alen, z_acopy, z_mmax, z_mmin, z_mabs, z_mabsL, z_iret, z_zret, z_nret, z_lret, z_aret, z_vret, z_cat, z_ldcs, z_strv, z_strc, z_gcs, z_gfm, z_sln, z_sald, z_ifeq, z_ifne, z_iflt, z_ifge, z_ifgt, z_ifle, z_iceq, z_icne, z_iclt, z_icge, z_icgt, z_icle, z_cs0, z_cs1, z_cs2, z_cs3, z_cs4, z_cs5, z_cs6, z_cs7, z_cv0, z_cv1, z_cv2, z_cv3, z_cv4, z_cv5, z_cv6, z_cv7, z_g0, z_s0, z_g1, z_s1, z_g2, z_s2, z_g3, z_s3, z_g4, z_s4, z_g5, z_s5, z_g6, z_s6, z_g7, z_s7, z_g8, z_s8, z_g9, z_s9, z_g10, z_s10, z_g11, z_s11, z_g12, z_s12, z_g13, z_s13, z_b0, z_b1, z_b0n, z_b1n, z_up_far1, z_up_far2, z_up_far3, z_up_far4, z_up_far5, z_up_far6, Classical.not_not, not_true_eq_false, z_in, z_inL, Int.cast_ofNat_Int, Nat.reduceLeDiff, List.length_cons, List.length_nil, Nat.reduceAdd, Nat.zero_add, Nat.le_refl, true_and, and_true, List.length, Nat.reduceLT, true_or, or_true, false_or, or_false, false_and, and_false, not_true_eq_false, not_false_eq_true, forall_const, false_implies, true_implies, Int.reduceEq, Int.reduceLT, Int.reduceLE, Int.reduceAdd, Int.reduceSub, Int.reduceMul, Int.reduceNeg, Int.reduceToNat, Int.toNat_natCast, ↓reduceIte, reduceIte, Nat.reduceEqDiff, Nat.reduceSub, Nat.reduceMul, ne_eq, Int.zero_add, Int.add_zero, Int.sub_zero, Nat.add_zero, Int.ofNat_eq_natCast, tX10_copy_143, t0, t1, t2, r1]
      repeat' (first | (intro _) | (with_reducible assumption) | (refine And.intro ?_ ?_))
      all_goals first | omega | assumption | (refine z_fin fin ?_ rfl; first | rfl | omega | (split <;> omega) | (split <;> split <;> omega)) | skip
      all_goals exact nx _
  have LU0 := fun e => LU e n 0 none (by omega)
  have LD0 := fun e => LD e n 0 none (by omega)
  rw [z_cpy_0] at LU0 LD0
  refine h0 _ _ _ ?_
  simp only [z_push, z_lpush, z_iload, z_lload, z_aload, z_istore, z_istoreP, z_lstore, z_astore, z_iinc, z_iincP, z_iadd, z_isub, z_imul, z_iaddW, z_isubW, z_imulW, z_idiv, z_irem, z_iand, z_ior, z_ixor, z_ishl, z_ishr, z_iushr, z_ineg, z_i2l, z_i2b, z_i2s, z_i2c, z_l2i, z_ladd, z_lsub, z_land, z_lor, z_lshl, z_lshr, z_lcmp, z_dup, z_pop, z_dup2, z_goto, z_tsw, z_cases, z_geti, z_getr, z_puti, z_putz, z_ald, z_iast, z_bast, z_zast, z_alen, z_acopy, z_mmax, z_mmin, z_mabs, z_mabsL, z_iret, z_zret, z_nret, z_lret, z_aret, z_vret, z_cat, z_ldcs, z_strv, z_strc, z_gcs, z_gfm, z_sln, z_sald, z_ifeq, z_ifne, z_iflt, z_ifge, z_ifgt, z_ifle, z_iceq, z_icne, z_iclt, z_icge, z_icgt, z_icle, z_cs0, z_cs1, z_cs2, z_cs3, z_cs4, z_cs5, z_cs6, z_cs7, z_cv0, z_cv1, z_cv2, z_cv3, z_cv4, z_cv5, z_cv6, z_cv7, z_g0, z_s0, z_g1, z_s1, z_g2, z_s2, z_g3, z_s3, z_g4, z_s4, z_g5, z_s5, z_g6, z_s6, z_g7, z_s7, z_g8, z_s8, z_g9, z_s9, z_g10, z_s10, z_g11, z_s11, z_g12, z_s12, z_g13, z_s13, z_b0, z_b1, z_b0n, z_b1n, z_up_far1, z_up_far2, z_up_far3, z_up_far4, z_up_far5, z_up_far6, Classical.not_not, not_true_eq_false, z_in, z_inL, Int.cast_ofNat_Int, Nat.reduceLeDiff, List.length_cons, List.length_nil, Nat.reduceAdd, Nat.zero_add, Nat.le_refl, true_and, and_true, List.length, Nat.reduceLT, true_or, or_true, false_or, or_false, false_and, and_false, not_true_eq_false, not_false_eq_true, forall_const, false_implies, true_implies, Int.reduceEq, Int.reduceLT, Int.reduceLE, Int.reduceAdd, Int.reduceSub, Int.reduceMul, Int.reduceNeg, Int.reduceToNat, Int.toNat_natCast, ↓reduceIte, reduceIte, Nat.reduceEqDiff, Nat.reduceSub, Nat.reduceMul, ne_eq, Int.zero_add, Int.add_zero, Int.sub_zero, Nat.add_zero, Int.ofNat_eq_natCast, tX10_copy_0, SX10_isRow, SX10_finding, hB, e90a, e90b, e91a, e91b]
  repeat' (first | (intro _) | (with_reducible assumption) | (refine And.intro ?_ ?_))
  all_goals first | omega | assumption | (refine z_fin fin ?_ rfl; first | rfl | omega | (split <;> omega) | (split <;> split <;> omega)) | skip
  all_goals first | exact LU0 (by omega) | exact LD0 (by omega) | (exfalso; omega)
theorem dX10_copy_0 : decode cX10_copy 0 = .ok (.aload_n 0, 1) := by decide +kernel
theorem dX10_copy_1 : decode cX10_copy 1 = .ok (.iconst 0, 1) := by decide +kernel
theorem dX10_copy_2 : decode cX10_copy 2 = .ok (.putfield 65, 3) := by decide +kernel
theorem dX10_copy_5 : decode cX10_copy 5 = .ok (.iload_n 1, 1) := by decide +kernel
theorem dX10_copy_6 : decode cX10_copy 6 = .ok (.invokestatic 79, 3) := by decide +kernel
theorem dX10_copy_9 : decode cX10_copy 9 = .ok (.ifCond .eq 10, 3) := by decide +kernel
theorem dX10_copy_12 : decode cX10_copy 12 = .ok (.iload_n 3, 1) := by decide +kernel
theorem dX10_copy_13 : decode cX10_copy 13 = .ok (.invokestatic 79, 3) := by decide +kernel
theorem dX10_copy_16 : decode cX10_copy 16 = .ok (.ifCond .ne 6, 3) := by decide +kernel
theorem dX10_copy_19 : decode cX10_copy 19 = .ok (.ldc 85, 2) := by decide +kernel
theorem dX10_copy_21 : decode cX10_copy 21 = .ok (.ireturn, 1) := by decide +kernel
theorem dX10_copy_22 : decode cX10_copy 22 = .ok (.aload_n 0, 1) := by decide +kernel
theorem dX10_copy_23 : decode cX10_copy 23 = .ok (.iconst 0, 1) := by decide +kernel
theorem dX10_copy_24 : decode cX10_copy 24 = .ok (.putfield 69, 3) := by decide +kernel
theorem dX10_copy_27 : decode cX10_copy 27 = .ok (.aload_n 0, 1) := by decide +kernel
theorem dX10_copy_28 : decode cX10_copy 28 = .ok (.getfield 7, 3) := by decide +kernel
theorem dX10_copy_31 : decode cX10_copy 31 = .ok (.iload_n 1, 1) := by decide +kernel
theorem dX10_copy_32 : decode cX10_copy 32 = .ok (.iaload, 1) := by decide +kernel
theorem dX10_copy_33 : decode cX10_copy 33 = .ok (.ifCond .lt 12, 3) := by decide +kernel
theorem dX10_copy_36 : decode cX10_copy 36 = .ok (.aload_n 0, 1) := by decide +kernel
theorem dX10_copy_37 : decode cX10_copy 37 = .ok (.getfield 7, 3) := by decide +kernel
theorem dX10_copy_40 : decode cX10_copy 40 = .ok (.iload_n 3, 1) := by decide +kernel
theorem dX10_copy_41 : decode cX10_copy 41 = .ok (.iaload, 1) := by decide +kernel
theorem dX10_copy_42 : decode cX10_copy 42 = .ok (.ifCond .ge 9, 3) := by decide +kernel
theorem dX10_copy_45 : decode cX10_copy 45 = .ok (.aload_n 0, 1) := by decide +kernel
theorem dX10_copy_46 : decode cX10_copy 46 = .ok (.iconst 1, 1) := by decide +kernel
theorem dX10_copy_47 : decode cX10_copy 47 = .ok (.invokevirtual 86, 3) := by decide +kernel
theorem dX10_copy_50 : decode cX10_copy 50 = .ok (.ireturn, 1) := by decide +kernel
theorem dX10_copy_51 : decode cX10_copy 51 = .ok (.aload_n 0, 1) := by decide +kernel
theorem dX10_copy_52 : decode cX10_copy 52 = .ok (.getfield 7, 3) := by decide +kernel
theorem dX10_copy_55 : decode cX10_copy 55 = .ok (.iload_n 1, 1) := by decide +kernel
theorem dX10_copy_56 : decode cX10_copy 56 = .ok (.iaload, 1) := by decide +kernel
theorem dX10_copy_57 : decode cX10_copy 57 = .ok (.aload_n 0, 1) := by decide +kernel
theorem dX10_copy_58 : decode cX10_copy 58 = .ok (.getfield 7, 3) := by decide +kernel
theorem dX10_copy_61 : decode cX10_copy 61 = .ok (.iload_n 3, 1) := by decide +kernel
theorem dX10_copy_62 : decode cX10_copy 62 = .ok (.iaload, 1) := by decide +kernel
theorem dX10_copy_63 : decode cX10_copy 63 = .ok (.if_icmp .eq 9, 3) := by decide +kernel
theorem dX10_copy_66 : decode cX10_copy 66 = .ok (.aload_n 0, 1) := by decide +kernel
theorem dX10_copy_67 : decode cX10_copy 67 = .ok (.iconst 5, 1) := by decide +kernel
theorem dX10_copy_68 : decode cX10_copy 68 = .ok (.invokevirtual 86, 3) := by decide +kernel
theorem dX10_copy_71 : decode cX10_copy 71 = .ok (.ireturn, 1) := by decide +kernel
theorem dX10_copy_72 : decode cX10_copy 72 = .ok (.iload_n 2, 1) := by decide +kernel
theorem dX10_copy_73 : decode cX10_copy 73 = .ok (.ifCond .lt 48, 3) := by decide +kernel
theorem dX10_copy_76 : decode cX10_copy 76 = .ok (.iload 4, 2) := by decide +kernel
theorem dX10_copy_78 : decode cX10_copy 78 = .ok (.ifCond .lt 43, 3) := by decide +kernel
theorem dX10_copy_81 : decode cX10_copy 81 = .ok (.iload 5, 2) := by decide +kernel
theorem dX10_copy_83 : decode cX10_copy 83 = .ok (.ifCond .lt 38, 3) := by decide +kernel
theorem dX10_copy_86 : decode cX10_copy 86 = .ok (.iload_n 2, 1) := by decide +kernel
theorem dX10_copy_87 : decode cX10_copy 87 = .ok (.i2l, 1) := by decide +kernel
theorem dX10_copy_88 : decode cX10_copy 88 = .ok (.iload 5, 2) := by decide +kernel
theorem dX10_copy_90 : decode cX10_copy 90 = .ok (.i2l, 1) := by decide +kernel
theorem dX10_copy_91 : decode cX10_copy 91 = .ok (.ladd, 1) := by decide +kernel
theorem dX10_copy_92 : decode cX10_copy 92 = .ok (.aload_n 0, 1) := by decide +kernel
theorem dX10_copy_93 : decode cX10_copy 93 = .ok (.getfield 13, 3) := by decide +kernel
theorem dX10_copy_96 : decode cX10_copy 96 = .ok (.iload_n 1, 1) := by decide +kernel
theorem dX10_copy_97 : decode cX10_copy 97 = .ok (.iaload, 1) := by decide +kernel
theorem dX10_copy_98 : decode cX10_copy 98 = .ok (.i2l, 1) := by decide +kernel
theorem dX10_copy_99 : decode cX10_copy 99 = .ok (.lcmp, 1) := by decide +kernel
theorem dX10_copy_100 : decode cX10_copy 100 = .ok (.ifCond .gt 21, 3) := by decide +kernel
theorem dX10_copy_103 : decode cX10_copy 103 = .ok (.iload 4, 2) := by decide +kernel
theorem dX10_copy_105 : decode cX10_copy 105 = .ok (.i2l, 1) := by decide +kernel
theorem dX10_copy_106 : decode cX10_copy 106 = .ok (.iload 5, 2) := by decide +kernel
theorem dX10_copy_108 : decode cX10_copy 108 = .ok (.i2l, 1) := by decide +kernel
theorem dX10_copy_109 : decode cX10_copy 109 = .ok (.ladd, 1) := by decide +kernel
theorem dX10_copy_110 : decode cX10_copy 110 = .ok (.aload_n 0, 1) := by decide +kernel
theorem dX10_copy_111 : decode cX10_copy 111 = .ok (.getfield 13, 3) := by decide +kernel
theorem dX10_copy_114 : decode cX10_copy 114 = .ok (.iload_n 3, 1) := by decide +kernel
theorem dX10_copy_115 : decode cX10_copy 115 = .ok (.iaload, 1) := by decide +kernel
theorem dX10_copy_116 : decode cX10_copy 116 = .ok (.i2l, 1) := by decide +kernel
theorem dX10_copy_117 : decode cX10_copy 117 = .ok (.lcmp, 1) := by decide +kernel
theorem dX10_copy_118 : decode cX10_copy 118 = .ok (.ifCond .le 9, 3) := by decide +kernel
theorem dX10_copy_121 : decode cX10_copy 121 = .ok (.aload_n 0, 1) := by decide +kernel
theorem dX10_copy_122 : decode cX10_copy 122 = .ok (.iconst 2, 1) := by decide +kernel
theorem dX10_copy_123 : decode cX10_copy 123 = .ok (.invokevirtual 86, 3) := by decide +kernel
theorem dX10_copy_126 : decode cX10_copy 126 = .ok (.ireturn, 1) := by decide +kernel
theorem dX10_copy_127 : decode cX10_copy 127 = .ok (.iload_n 2, 1) := by decide +kernel
theorem dX10_copy_128 : decode cX10_copy 128 = .ok (.iload 4, 2) := by decide +kernel
theorem dX10_copy_130 : decode cX10_copy 130 = .ok (.if_icmp .lt 7, 3) := by decide +kernel
theorem dX10_copy_133 : decode cX10_copy 133 = .ok (.iconst 1, 1) := by decide +kernel
theorem dX10_copy_134 : decode cX10_copy 134 = .ok (.goto 4, 3) := by decide +kernel
theorem dX10_copy_137 : decode cX10_copy 137 = .ok (.iconst 0, 1) := by decide +kernel
theorem dX10_copy_138 : decode cX10_copy 138 = .ok (.istore 6, 2) := by decide +kernel
theorem dX10_copy_140 : decode cX10_copy 140 = .ok (.iconst 0, 1) := by decide +kernel
theorem dX10_copy_141 : decode cX10_copy 141 = .ok (.istore 7, 2) := by decide +kernel
theorem dX10_copy_143 : decode cX10_copy 143 = .ok (.iload 7, 2) := by decide +kernel
theorem dX10_copy_145 : decode cX10_copy 145 = .ok (.iload 5, 2) := by decide +kernel
theorem dX10_copy_147 : decode cX10_copy 147 = .ok (.if_icmp .ge 57, 3) := by decide +kernel
theorem dX10_copy_150 : decode cX10_copy 150 = .ok (.iload 6, 2) := by decide +kernel
theorem dX10_copy_152 : decode cX10_copy 152 = .ok (.ifCond .eq 8, 3) := by decide +kernel
theorem dX10_copy_155 : decode cX10_copy 155 = .ok (.iload 7, 2) := by decide +kernel
theorem dX10_copy_157 : decode cX10_copy 157 = .ok (.goto 10, 3) := by decide +kernel
theorem dX10_copy_160 : decode cX10_copy 160 = .ok (.iload 5, 2) := by decide +kernel
theorem dX10_copy_162 : decode cX10_copy 162 = .ok (.iconst 1, 1) := by decide +kernel
theorem dX10_copy_163 : decode cX10_copy 163 = .ok (.isub, 1) := by decide +kernel
theorem dX10_copy_164 : decode cX10_copy 164 = .ok (.iload 7, 2) := by decide +kernel
theorem dX10_copy_166 : decode cX10_copy 166 = .ok (.isub, 1) := by decide +kernel
theorem dX10_copy_167 : decode cX10_copy 167 = .ok (.istore 8, 2) := by decide +kernel
theorem dX10_copy_169 : decode cX10_copy 169 = .ok (.aload_n 0, 1) := by decide +kernel
theorem dX10_copy_170 : decode cX10_copy 170 = .ok (.getfield 16, 3) := by decide +kernel
theorem dX10_copy_173 : decode cX10_copy 173 = .ok (.bipush 40, 2) := by decide +kernel
theorem dX10_copy_175 : decode cX10_copy 175 = .ok (.iload_n 3, 1) := by decide +kernel
theorem dX10_copy_176 : decode cX10_copy 176 = .ok (.imul, 1) := by decide +kernel
theorem dX10_copy_177 : decode cX10_copy 177 = .ok (.iload 4, 2) := by decide +kernel
theorem dX10_copy_179 : decode cX10_copy 179 = .ok (.iadd, 1) := by decide +kernel
theorem dX10_copy_180 : decode cX10_copy 180 = .ok (.iload 8, 2) := by decide +kernel
theorem dX10_copy_182 : decode cX10_copy 182 = .ok (.iadd, 1) := by decide +kernel
theorem dX10_copy_183 : decode cX10_copy 183 = .ok (.aload_n 0, 1) := by decide +kernel
theorem dX10_copy_184 : decode cX10_copy 184 = .ok (.getfield 16, 3) := by decide +kernel
theorem dX10_copy_187 : decode cX10_copy 187 = .ok (.bipush 40, 2) := by decide +kernel
theorem dX10_copy_189 : decode cX10_copy 189 = .ok (.iload_n 1, 1) := by decide +kernel
theorem dX10_copy_190 : decode cX10_copy 190 = .ok (.imul, 1) := by decide +kernel
theorem dX10_copy_191 : decode cX10_copy 191 = .ok (.iload_n 2, 1) := by decide +kernel
theorem dX10_copy_192 : decode cX10_copy 192 = .ok (.iadd, 1) := by decide +kernel
theorem dX10_copy_193 : decode cX10_copy 193 = .ok (.iload 8, 2) := by decide +kernel
theorem dX10_copy_195 : decode cX10_copy 195 = .ok (.iadd, 1) := by decide +kernel
theorem dX10_copy_196 : decode cX10_copy 196 = .ok (.iaload, 1) := by decide +kernel
theorem dX10_copy_197 : decode cX10_copy 197 = .ok (.iastore, 1) := by decide +kernel
theorem dX10_copy_198 : decode cX10_copy 198 = .ok (.iinc 7 1, 3) := by decide +kernel
theorem dX10_copy_201 : decode cX10_copy 201 = .ok (.goto (-58), 3) := by decide +kernel
theorem dX10_copy_204 : decode cX10_copy 204 = .ok (.iload 5, 2) := by decide +kernel
theorem dX10_copy_206 : decode cX10_copy 206 = .ok (.ireturn, 1) := by decide +kernel
set_option maxRecDepth 100000 in
theorem rX10_copy_0 {p : Program} {l : Launch} {e : Env} {s : State} {m : MethodId} {args : Array Value} {below : List Frame} {meth : Method} {c : Code} {D : va_G} {cA : Nat → ClassId} {ad : Nat → Nat} {Ret : zR} (C : z_Cx p { frames := 2, cells := 0, slots := 0, locals := 45 } s m args c cX10_copy yX10_copy.cls 9 D cA ad) (hr : meth.sig.returnType = (some .int)) (hlocks : meth.locks = false) : ∀ L st σ, tX10_copy_0 (z_X p l e { frames := 2, cells := 0, slots := 0, locals := 45 } s m args below meth c (MQ below (z_Qc D cA ad Ret) args s 0 0 (z_A ad)) 9 D cA ad true) Ret L st σ → z_X p l e { frames := 2, cells := 0, slots := 0, locals := 45 } s m args below meth c (MQ below (z_Qc D cA ad Ret) args s 0 0 (z_A ad)) 9 D cA ad true 0 L st σ := (s_aload_n C dX10_copy_0 rfl (s_iconst C dX10_copy_1 rfl ⟨by decide, by decide⟩ (s_puti C dX10_copy_2 cls_X10 (by decide) rfl wd_968 rfl rfl (s_iload_n C dX10_copy_5 rfl (s_cs1 C dX10_copy_6 (okX10_isRow l) wd_1078 wd_1079 wd_85 wd_1080 ⟨by decide, by decide, by decide +kernel⟩ ⟨by decide, by decide⟩ (s_ifeq C dX10_copy_9 (by decide) (s_ldc C dX10_copy_19 (v := -1000001) wd_1086 ⟨by decide, by decide⟩ (s_iret C dX10_copy_21 hr hlocks)) (s_iload_n C dX10_copy_12 rfl (s_cs1 C dX10_copy_13 (okX10_isRow l) wd_1078 wd_1079 wd_85 wd_1080 ⟨by decide, by decide, by decide +kernel⟩ ⟨by decide, by decide⟩ (s_ifne C dX10_copy_16 (by decide) (s_aload_n C dX10_copy_22 rfl (s_iconst C dX10_copy_23 rfl ⟨by decide, by decide⟩ (s_puti C dX10_copy_24 cls_X10 (by decide) rfl wd_969 rfl rfl (s_aload_n C dX10_copy_27 rfl (s_getr C dX10_copy_28 (j := 2) cls_X10 (by decide) rfl (by decide) (by decide) (by decide +kernel) wd_970 (s_iload_n C dX10_copy_31 rfl (s_iald C dX10_copy_32 (s_iflt C dX10_copy_33 (by decide) (s_aload_n C dX10_copy_45 rfl (s_iconst C dX10_copy_46 rfl ⟨by decide, by decide⟩ (s_cv1 C dX10_copy_47 (okX10_finding l) cls_X10 wd_1087 wd_1089 wd_35 wd_85 wd_1090 ⟨by decide, by decide, by decide +kernel⟩ ⟨by decide, by decide⟩ (s_iret C dX10_copy_50 hr hlocks)))) (s_aload_n C dX10_copy_36 rfl (s_getr C dX10_copy_37 (j := 2) cls_X10 (by decide) rfl (by decide) (by decide) (by decide +kernel) wd_970 (s_iload_n C dX10_copy_40 rfl (s_iald C dX10_copy_41 (s_ifge C dX10_copy_42 (by decide) (s_aload_n C dX10_copy_51 rfl (s_getr C dX10_copy_52 (j := 2) cls_X10 (by decide) rfl (by decide) (by decide) (by decide +kernel) wd_970 (s_iload_n C dX10_copy_55 rfl (s_iald C dX10_copy_56 (s_aload_n C dX10_copy_57 rfl (s_getr C dX10_copy_58 (j := 2) cls_X10 (by decide) rfl (by decide) (by decide) (by decide +kernel) wd_970 (s_iload_n C dX10_copy_61 rfl (s_iald C dX10_copy_62 (s_iceq C dX10_copy_63 (by decide) (s_iload_n C dX10_copy_72 rfl (s_iflt C dX10_copy_73 (by decide) (s_aload_n C dX10_copy_121 rfl (s_iconst C dX10_copy_122 rfl ⟨by decide, by decide⟩ (s_cv1 C dX10_copy_123 (okX10_finding l) cls_X10 wd_1087 wd_1089 wd_35 wd_85 wd_1090 ⟨by decide, by decide, by decide +kernel⟩ ⟨by decide, by decide⟩ (s_iret C dX10_copy_126 hr hlocks)))) (s_iload C dX10_copy_76 (s_iflt C dX10_copy_78 (by decide) (s_aload_n C dX10_copy_121 rfl (s_iconst C dX10_copy_122 rfl ⟨by decide, by decide⟩ (s_cv1 C dX10_copy_123 (okX10_finding l) cls_X10 wd_1087 wd_1089 wd_35 wd_85 wd_1090 ⟨by decide, by decide, by decide +kernel⟩ ⟨by decide, by decide⟩ (s_iret C dX10_copy_126 hr hlocks)))) (s_iload C dX10_copy_81 (s_iflt C dX10_copy_83 (by decide) (s_aload_n C dX10_copy_121 rfl (s_iconst C dX10_copy_122 rfl ⟨by decide, by decide⟩ (s_cv1 C dX10_copy_123 (okX10_finding l) cls_X10 wd_1087 wd_1089 wd_35 wd_85 wd_1090 ⟨by decide, by decide, by decide +kernel⟩ ⟨by decide, by decide⟩ (s_iret C dX10_copy_126 hr hlocks)))) (s_iload_n C dX10_copy_86 rfl (s_i2l C dX10_copy_87 (s_iload C dX10_copy_88 (s_i2l C dX10_copy_90 (s_ladd C dX10_copy_91 (s_aload_n C dX10_copy_92 rfl (s_getr C dX10_copy_93 (j := 3) cls_X10 (by decide) rfl (by decide) (by decide) (by decide +kernel) wd_971 (s_iload_n C dX10_copy_96 rfl (s_iald C dX10_copy_97 (s_i2l C dX10_copy_98 (s_lcmp C dX10_copy_99 (s_ifgt C dX10_copy_100 (by decide) (s_aload_n C dX10_copy_121 rfl (s_iconst C dX10_copy_122 rfl ⟨by decide, by decide⟩ (s_cv1 C dX10_copy_123 (okX10_finding l) cls_X10 wd_1087 wd_1089 wd_35 wd_85 wd_1090 ⟨by decide, by decide, by decide +kernel⟩ ⟨by decide, by decide⟩ (s_iret C dX10_copy_126 hr hlocks)))) (s_iload C dX10_copy_103 (s_i2l C dX10_copy_105 (s_iload C dX10_copy_106 (s_i2l C dX10_copy_108 (s_ladd C dX10_copy_109 (s_aload_n C dX10_copy_110 rfl (s_getr C dX10_copy_111 (j := 3) cls_X10 (by decide) rfl (by decide) (by decide) (by decide +kernel) wd_971 (s_iload_n C dX10_copy_114 rfl (s_iald C dX10_copy_115 (s_i2l C dX10_copy_116 (s_lcmp C dX10_copy_117 (s_ifle C dX10_copy_118 (by decide) (s_iload_n C dX10_copy_127 rfl (s_iload C dX10_copy_128 (s_iclt C dX10_copy_130 (by decide) (s_iconst C dX10_copy_137 rfl ⟨by decide, by decide⟩ (s_istore C dX10_copy_138 (by decide) rfl (s_iconst C dX10_copy_140 rfl ⟨by decide, by decide⟩ (s_istore C dX10_copy_141 (by decide) rfl (fun _ _ _ h => h))))) (s_iconst C dX10_copy_133 rfl ⟨by decide, by decide⟩ (s_goto C dX10_copy_134 (by decide) (s_istore C dX10_copy_138 (by decide) rfl (s_iconst C dX10_copy_140 rfl ⟨by decide, by decide⟩ (s_istore C dX10_copy_141 (by decide) rfl (fun _ _ _ h => h))))))))) (s_aload_n C dX10_copy_121 rfl (s_iconst C dX10_copy_122 rfl ⟨by decide, by decide⟩ (s_cv1 C dX10_copy_123 (okX10_finding l) cls_X10 wd_1087 wd_1089 wd_35 wd_85 wd_1090 ⟨by decide, by decide, by decide +kernel⟩ ⟨by decide, by decide⟩ (s_iret C dX10_copy_126 hr hlocks)))))))))))))))))))))))))))))))))) (s_aload_n C dX10_copy_66 rfl (s_iconst C dX10_copy_67 rfl ⟨by decide, by decide⟩ (s_cv1 C dX10_copy_68 (okX10_finding l) cls_X10 wd_1087 wd_1089 wd_35 wd_85 wd_1090 ⟨by decide, by decide, by decide +kernel⟩ ⟨by decide, by decide⟩ (s_iret C dX10_copy_71 hr hlocks))))))))))))) (s_aload_n C dX10_copy_45 rfl (s_iconst C dX10_copy_46 rfl ⟨by decide, by decide⟩ (s_cv1 C dX10_copy_47 (okX10_finding l) cls_X10 wd_1087 wd_1089 wd_35 wd_85 wd_1090 ⟨by decide, by decide, by decide +kernel⟩ ⟨by decide, by decide⟩ (s_iret C dX10_copy_50 hr hlocks))))))))))))))))) (s_ldc C dX10_copy_19 (v := -1000001) wd_1086 ⟨by decide, by decide⟩ (s_iret C dX10_copy_21 hr hlocks)))))))))))
set_option maxRecDepth 100000 in
theorem rX10_copy_143 {p : Program} {l : Launch} {e : Env} {s : State} {m : MethodId} {args : Array Value} {below : List Frame} {meth : Method} {c : Code} {D : va_G} {cA : Nat → ClassId} {ad : Nat → Nat} {Ret : zR} (C : z_Cx p { frames := 2, cells := 0, slots := 0, locals := 45 } s m args c cX10_copy yX10_copy.cls 9 D cA ad) (hr : meth.sig.returnType = (some .int)) (hlocks : meth.locks = false) : ∀ L st σ, tX10_copy_143 (z_X p l e { frames := 2, cells := 0, slots := 0, locals := 45 } s m args below meth c (MQ below (z_Qc D cA ad Ret) args s 0 0 (z_A ad)) 9 D cA ad true) Ret L st σ → z_X p l e { frames := 2, cells := 0, slots := 0, locals := 45 } s m args below meth c (MQ below (z_Qc D cA ad Ret) args s 0 0 (z_A ad)) 9 D cA ad true 143 L st σ := (s_iload C dX10_copy_143 (s_iload C dX10_copy_145 (s_icge C dX10_copy_147 (by decide) (s_iload C dX10_copy_204 (s_iret C dX10_copy_206 hr hlocks)) (s_iload C dX10_copy_150 (s_ifeq C dX10_copy_152 (by decide) (s_iload C dX10_copy_160 (s_iconst C dX10_copy_162 rfl ⟨by decide, by decide⟩ (s_isub C dX10_copy_163 (s_iload C dX10_copy_164 (s_isub C dX10_copy_166 (s_istore C dX10_copy_167 (by decide) rfl (s_aload_n C dX10_copy_169 rfl (s_getr C dX10_copy_170 (j := 4) cls_X10 (by decide) rfl (by decide) (by decide) (by decide +kernel) wd_972 (s_bipush C dX10_copy_173 rfl ⟨by decide, by decide⟩ (s_iload_n C dX10_copy_175 rfl (s_imul C dX10_copy_176 (s_iload C dX10_copy_177 (s_iadd C dX10_copy_179 (s_iload C dX10_copy_180 (s_iadd C dX10_copy_182 (s_aload_n C dX10_copy_183 rfl (s_getr C dX10_copy_184 (j := 4) cls_X10 (by decide) rfl (by decide) (by decide) (by decide +kernel) wd_972 (s_bipush C dX10_copy_187 rfl ⟨by decide, by decide⟩ (s_iload_n C dX10_copy_189 rfl (s_imul C dX10_copy_190 (s_iload_n C dX10_copy_191 rfl (s_iadd C dX10_copy_192 (s_iload C dX10_copy_193 (s_iadd C dX10_copy_195 (s_iald C dX10_copy_196 (s_iast C dX10_copy_197 (s_iinc C dX10_copy_198 (by decide) rfl (s_goto C dX10_copy_201 (by decide) (fun _ _ _ h => h))))))))))))))))))))))))))))) (s_iload C dX10_copy_155 (s_goto C dX10_copy_157 (by decide) (s_istore C dX10_copy_167 (by decide) rfl (s_aload_n C dX10_copy_169 rfl (s_getr C dX10_copy_170 (j := 4) cls_X10 (by decide) rfl (by decide) (by decide) (by decide +kernel) wd_972 (s_bipush C dX10_copy_173 rfl ⟨by decide, by decide⟩ (s_iload_n C dX10_copy_175 rfl (s_imul C dX10_copy_176 (s_iload C dX10_copy_177 (s_iadd C dX10_copy_179 (s_iload C dX10_copy_180 (s_iadd C dX10_copy_182 (s_aload_n C dX10_copy_183 rfl (s_getr C dX10_copy_184 (j := 4) cls_X10 (by decide) rfl (by decide) (by decide) (by decide +kernel) wd_972 (s_bipush C dX10_copy_187 rfl ⟨by decide, by decide⟩ (s_iload_n C dX10_copy_189 rfl (s_imul C dX10_copy_190 (s_iload_n C dX10_copy_191 rfl (s_iadd C dX10_copy_192 (s_iload C dX10_copy_193 (s_iadd C dX10_copy_195 (s_iald C dX10_copy_196 (s_iast C dX10_copy_197 (s_iinc C dX10_copy_198 (by decide) rfl (s_goto C dX10_copy_201 (by decide) (fun _ _ _ h => h)))))))))))))))))))))))))))))))
theorem okX10_copy (l : Launch) : z_OK l yX10_copy cX10_copy 9 (some .int) 2 45 SX10_copy := by
  refine z_ok_of true (by decide +kernel) ?_ ?_
  · intro as σ Ret h
    obtain ⟨k0, x1, x2, x3, x4, x5, rfl⟩ := pX10_copy h
    exact ⟨Nat.le_of_ble_eq_true rfl, by simp⟩
  · intro p e s m args below meth c D cA ad Ret C hr hlocks as σ has hσ h
    obtain ⟨k0, x1, x2, x3, x4, x5, rfl⟩ := pX10_copy h
    exact vX10_copy (rX10_copy_0 C hr hlocks) (rX10_copy_143 C hr hlocks) k0 x1 x2 x3 x4 x5 σ (has _ (List.mem_of_getElem? (i := 0) rfl)) (has _ (List.mem_of_getElem? (i := 1) rfl)) (has _ (List.mem_of_getElem? (i := 2) rfl)) (has _ (List.mem_of_getElem? (i := 3) rfl)) (has _ (List.mem_of_getElem? (i := 4) rfl)) (has _ (List.mem_of_getElem? (i := 5) rfl)) hσ h
