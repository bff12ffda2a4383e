/-! set asked of the model -/
theorem q_th2 {σ : zM} {v : Int} : (∀ c, c < 89 → z_up (z_up (z_up σ 89 0 0) 89 1 0) 89 1 v c = σ c) ∧ ∀ c j, q_last c j → z_up (z_up (z_up σ 89 0 0) 89 1 0) 89 1 v c j = z_up σ 89 1 v c j := by
  refine ⟨fun c hc => funext fun j => by rw [z_up_ne (by omega), z_up_ne (by omega), z_up_ne (by omega)], fun c j hc => ?_⟩
  unfold q_last at hc
  simp only [z_up]
  by_cases q : c = 89 ∧ j = 1
  · rw [if_pos q, if_pos q]
  · rw [if_neg q, if_neg q, if_neg q, if_neg (by omega)]
def SX10_set : zS := fun as σ Ret => match as with
  | [.inr (.inr (10, 0, _)), .inl r, .inl i, .inl v] => q_S10 (q_gSet r i v) (q_fSet r i v) σ Ret
  | _ => False
def tX10_set_0 (X : Nat → zB) (Ret : zR) (L : zL) (st : List zV) (σ : zM) : Prop := (z_aload 0 (z_push 0 (z_puti 10 0 (z_iload 1 (z_cs1 SX10_isRow (z_ifne (z_aload 0 (z_push 0 (z_puti 10 1 (z_aload 0 (z_getr 10 1 100 8 (z_iload 1 (z_ald 0 (z_ifge (z_iload 2 (z_i2l (z_lpush 0 (z_aload 0 (z_getr 10 2 100 8 (z_iload 1 (z_ald 0 (z_push 1 (z_isub (z_i2l (z_cs3 SX10_in (z_ifne (z_aload 0 (z_getr 10 3 100 320 (z_push 40 (z_iload 1 (z_imul (z_iload 2 (z_iadd (z_aload 0 (z_getr 10 1 100 8 (z_iload 1 (z_ald 0 (z_ifne (z_aload 0 (z_getr 10 1 100 8 (z_iload 1 (z_ald 0 (z_push 1 (z_icne (z_iload 3 (X 99)) (z_iload 3 (z_i2s (z_goto (X 99)))))))))) (z_iload 3 (z_i2b (z_goto (X 99)))))))))))))))) (z_aload 0 (z_push 2 (z_cv1 10 SX10_finding (z_iret Ret)))))))))))))))) (z_aload 0 (z_push 1 (z_cv1 10 SX10_finding (z_iret Ret)))))))))))) (z_push (-1000001) (z_iret Ret)))))))) L st σ
def tX10_set_99 (X : Nat → zB) (Ret : zR) (L : zL) (st : List zV) (σ : zM) : Prop := (z_iast (z_aload 0 (z_getr 10 3 100 320 (z_push 40 (z_iload 1 (z_imul (z_iload 2 (z_iadd (z_ald 0 (z_iret Ret)))))))))) L st σ
theorem pX10_set {as : List zV} {σ : zM} {Ret : zR} (h : SX10_set as σ Ret) : ∃ (k0 : Nat) (x1 : Int) (x2 : Int) (x3 : Int), as = [.inr (.inr (10, 0, k0)), .inl x1, .inl x2, .inl x3] := by
  unfold SX10_set at h
  split at h
  · exact ⟨_, _, _, _, rfl⟩
  · exact h.elim
set_option maxRecDepth 10000 in
set_option maxHeartbeats 4000000 in
theorem vX10_set {X : Nat → zB} {Ret : zR} (h0 : ∀ L st σ, tX10_set_0 X Ret L st σ → X 0 L st σ) (h99 : ∀ L st σ, tX10_set_99 X Ret L st σ → X 99 L st σ) (k0 : Nat) (x1 : Int) (x2 : Int) (x3 : Int) (σ : zM) (hk0 : z_kd k0 = (10, 0)) (hx1 : -2147483648 ≤ x1 ∧ x1 ≤ 2147483647) (hx2 : -2147483648 ≤ x2 ∧ x2 ≤ 2147483647) (hx3 : -2147483648 ≤ x3 ∧ x3 ≤ 2147483647) (hσ : z_okm σ) (h : SX10_set [.inr (.inr (10, 0, k0)), .inl x1, .inl x2, .inl x3] σ Ret) : X 0 [some (.inr (.inr (10, 0, k0))), some (.inl x1), some (.inl x2), some (.inl x3)] [] σ := by
  obtain ⟨m, h⟩ := h
  obtain rfl := z_kd10 hk0
  by_cases c1 : ¬ (0 ≤ x1 ∧ x1 < 8)
  · have fin := h (z_up σ 89 0 0) q_th.1 (by unfold q_fSet; rw [if_pos c1]; exact q_th.2)
    simp only [q_gSet, if_pos c1] at fin
    refine h0 _ _ _ ?_
    have c2 : ¬ (0 ≤ x1 ∧ x1 ≤ 7) := by omega
    simp only [z_push, z_lpush, z_iload, z_lload, z_aload, z_istore, z_istoreP, z_lstore, z_astore, z_iinc, z_iincP, z_iadd, z_isub, z_imul, z_iaddW, z_isubW, z_imulW, z_idiv, z_irem, z_iand, z_ior, z_ixor, z_ishl, z_ishr, z_iushr, z_ineg, z_i2l, z_i2b, z_i2s, z_i2c, z_l2i, z_ladd, z_lsub, z_land, z_lor, z_lshl, z_lshr, z_lcmp, z_dup, z_pop, z_dup2, z_goto, z_tsw, z_cases, z_geti, z_getr, z_puti, z_putz, z_ald, z_iast, z_bast, z_zast, z_alen, z_acopy, z_mmax, z_mmin, z_mabs, z_mabsL, z_iret, z_zret, z_nret, z_lret, z_aret, z_vret, z_cat, z_ldcs, z_strv, z_strc, z_gcs, z_gfm, z_sln, z_sald, z_ifeq, z_ifne, z_iflt, z_ifge, z_ifgt, z_ifle, z_iceq, z_icne, z_iclt, z_icge, z_icgt, z_icle, z_cs0, z_cs1, z_cs2, z_cs3, z_cs4, z_cs5, z_cs6, z_cs7, z_cv0, z_cv1, z_cv2, z_cv3, z_cv4, z_cv5, z_cv6, z_cv7, z_g0, z_s0, z_g1, z_s1, z_g2, z_s2, z_g3, z_s3, z_g4, z_s4, z_g5, z_s5, z_g6, z_s6, z_g7, z_s7, z_g8, z_s8, z_g9, z_s9, z_g10, z_s10, z_g11, z_s11, z_g12, z_s12, z_g13, z_s13, z_b0, z_b1, z_b0n, z_b1n, z_up_far1, z_up_far2, z_up_far3, z_up_far4, z_up_far5, z_up_far6, Classical.not_not, not_true_eq_false, z_in, z_inL, Int.cast_ofNat_Int, Nat.reduceLeDiff, List.length_cons, List.length_nil, Nat.reduceAdd, Nat.zero_add, Nat.le_refl, true_and, and_true, List.length, Nat.reduceLT, true_or, or_true, false_or, or_false, false_and, and_false, not_true_eq_false, not_false_eq_true, forall_const, false_implies, true_implies, Int.reduceEq, Int.reduceLT, Int.reduceLE, Int.reduceAdd, Int.reduceSub, Int.reduceMul, Int.reduceNeg, Int.reduceToNat, Int.toNat_natCast, ↓reduceIte, reduceIte, Nat.reduceEqDiff, Nat.reduceSub, Nat.reduceMul, ne_eq, Int.zero_add, Int.add_zero, Int.sub_zero, Nat.add_zero, Int.ofNat_eq_natCast, tX10_set_0, SX10_isRow, c2]
    repeat' (first | (intro _) | (with_reducible assumption) | (refine And.intro ?_ ?_))
    all_goals first | omega | assumption | (refine z_fin fin ?_ rfl; first | rfl | omega | (split <;> omega) | (split <;> split <;> omega)) | skip
  obtain ⟨r, rfl⟩ := z_nat (show 0 ≤ x1 by omega)
  have mr := m.1 r (by omega)
  have c1' : (0 : Int) ≤ r ∧ (r : Int) ≤ 7 := by omega
  have e90 : z_up (z_up σ 89 0 0) 89 1 0 90 r = σ 90 r := by rw [z_up_ne (by omega), z_up_ne (by omega)]
  have e91 : z_up (z_up σ 89 0 0) 89 1 0 91 r = σ 91 r := by rw [z_up_ne (by omega), z_up_ne (by omega)]
  by_cases c2 : σ 90 r < 0
  · have fin := h (z_up (z_up (z_up σ 89 0 0) 89 1 0) 89 1 1) q_th2.1 (by
      unfold q_fSet
      rw [if_neg c1, Int.toNat_natCast, if_pos c2]
      exact q_th2.2)
    simp only [q_gSet, if_neg c1, Int.toNat_natCast, if_pos c2] at fin
    refine h0 _ _ _ ?_
    simp only [z_push, z_lpush, z_iload, z_lload, z_aload, z_istore, z_istoreP, z_lstore, z_astore, z_iinc, z_iincP, z_iadd, z_isub, z_imul, z_iaddW, z_isubW, z_imulW, z_idiv, z_irem, z_iand, z_ior, z_ixor, z_ishl, z_ishr, z_iushr, z_ineg, z_i2l, z_i2b, z_i2s, z_i2c, z_l2i, z_ladd, z_lsub, z_land, z_lor, z_lshl, z_lshr, z_lcmp, z_dup, z_pop, z_dup2, z_goto, z_tsw, z_cases, z_geti, z_getr, z_puti, z_putz, z_ald, z_iast, z_bast, z_zast, z_alen, z_acopy, z_mmax, z_mmin, z_mabs, z_mabsL, z_iret, z_zret, z_nret, z_lret, z_aret, z_vret, z_cat, z_ldcs, z_strv, z_strc, z_gcs, z_gfm, z_sln, z_sald, z_ifeq, z_ifne, z_iflt, z_ifge, z_ifgt, z_ifle, z_iceq, z_icne, z_iclt, z_icge, z_icgt, z_icle, z_cs0, z_cs1, z_cs2, z_cs3, z_cs4, z_cs5, z_cs6, z_cs7, z_cv0, z_cv1, z_cv2, z_cv3, z_cv4, z_cv5, z_cv6, z_cv7, z_g0, z_s0, z_g1, z_s1, z_g2, z_s2, z_g3, z_s3, z_g4, z_s4, z_g5, z_s5, z_g6, z_s6, z_g7, z_s7, z_g8, z_s8, z_g9, z_s9, z_g10, z_s10, z_g11, z_s11, z_g12, z_s12, z_g13, z_s13, z_b0, z_b1, z_b0n, z_b1n, z_up_far1, z_up_far2, z_up_far3, z_up_far4, z_up_far5, z_up_far6, Classical.not_not, not_true_eq_false, z_in, z_inL, Int.cast_ofNat_Int, Nat.reduceLeDiff, List.length_cons, List.length_nil, Nat.reduceAdd, Nat.zero_add, Nat.le_refl, true_and, and_true, List.length, Nat.reduceLT, true_or, or_true, false_or, or_false, false_and, and_false, not_true_eq_false, not_false_eq_true, forall_const, false_implies, true_implies, Int.reduceEq, Int.reduceLT, Int.reduceLE, Int.reduceAdd, Int.reduceSub, Int.reduceMul, Int.reduceNeg, Int.reduceToNat, Int.toNat_natCast, ↓reduceIte, reduceIte, Nat.reduceEqDiff, Nat.reduceSub, Nat.reduceMul, ne_eq, Int.zero_add, Int.add_zero, Int.sub_zero, Nat.add_zero, Int.ofNat_eq_natCast, tX10_set_0, SX10_isRow, SX10_finding, SX10_in, c1', e90]
    repeat' (first | (intro _) | (with_reducible assumption) | (refine And.intro ?_ ?_))
    all_goals first | omega | assumption | (refine z_fin fin ?_ rfl; first | rfl | omega | (split <;> omega) | (split <;> split <;> omega)) | skip
  by_cases c3 : ¬ (0 ≤ x2 ∧ x2 < σ 91 r)
  · have fin := h (z_up (z_up (z_up σ 89 0 0) 89 1 0) 89 1 2) q_th2.1 (by
      unfold q_fSet
      rw [if_neg c1, Int.toNat_natCast, if_neg c2, if_pos c3]
      exact q_th2.2)
    simp only [q_gSet, if_neg c1, Int.toNat_natCast, if_neg c2, if_pos c3] at fin
    have c3' : ¬ (0 ≤ x2 ∧ x2 ≤ σ 91 r - 1) := by omega
    refine h0 _ _ _ ?_
    simp only [z_push, z_lpush, z_iload, z_lload, z_aload, z_istore, z_istoreP, z_lstore, z_astore, z_iinc, z_iincP, z_iadd, z_isub, z_imul, z_iaddW, z_isubW, z_imulW, z_idiv, z_irem, z_iand, z_ior, z_ixor, z_ishl, z_ishr, z_iushr, z_ineg, z_i2l, z_i2b, z_i2s, z_i2c, z_l2i, z_ladd, z_lsub, z_land, z_lor, z_lshl, z_lshr, z_lcmp, z_dup, z_pop, z_dup2, z_goto, z_tsw, z_cases, z_geti, z_getr, z_puti, z_putz, z_ald, z_iast, z_bast, z_zast, z_alen, z_acopy, z_mmax, z_mmin, z_mabs, z_mabsL, z_iret, z_zret, z_nret, z_lret, z_aret, z_vret, z_cat, z_ldcs, z_strv, z_strc, z_gcs, z_gfm, z_sln, z_sald, z_ifeq, z_ifne, z_iflt, z_ifge, z_ifgt, z_ifle, z_iceq, z_icne, z_iclt, z_icge, z_icgt, z_icle, z_cs0, z_cs1, z_cs2, z_cs3, z_cs4, z_cs5, z_cs6, z_cs7, z_cv0, z_cv1, z_cv2, z_cv3, z_cv4, z_cv5, z_cv6, z_cv7, z_g0, z_s0, z_g1, z_s1, z_g2, z_s2, z_g3, z_s3, z_g4, z_s4, z_g5, z_s5, z_g6, z_s6, z_g7, z_s7, z_g8, z_s8, z_g9, z_s9, z_g10, z_s10, z_g11, z_s11, z_g12, z_s12, z_g13, z_s13, z_b0, z_b1, z_b0n, z_b1n, z_up_far1, z_up_far2, z_up_far3, z_up_far4, z_up_far5, z_up_far6, Classical.not_not, not_true_eq_false, z_in, z_inL, Int.cast_ofNat_Int, Nat.reduceLeDiff, List.length_cons, List.length_nil, Nat.reduceAdd, Nat.zero_add, Nat.le_refl, true_and, and_true, List.length, Nat.reduceLT, true_or, or_true, false_or, or_false, false_and, and_false, not_true_eq_false, not_false_eq_true, forall_const, false_implies, true_implies, Int.reduceEq, Int.reduceLT, Int.reduceLE, Int.reduceAdd, Int.reduceSub, Int.reduceMul, Int.reduceNeg, Int.reduceToNat, Int.toNat_natCast, ↓reduceIte, reduceIte, Nat.reduceEqDiff, Nat.reduceSub, Nat.reduceMul, ne_eq, Int.zero_add, Int.add_zero, Int.sub_zero, Nat.add_zero, Int.ofNat_eq_natCast, tX10_set_0, SX10_isRow, SX10_finding, SX10_in, c1', e90, e91, c3']
    repeat' (first | (intro _) | (with_reducible assumption) | (refine And.intro ?_ ?_))
    all_goals first | omega | assumption | (refine z_fin fin ?_ rfl; first | rfl | omega | (split <;> omega) | (split <;> split <;> omega)) | skip
  obtain ⟨i, rfl⟩ := z_nat (show 0 ≤ x2 by omega)
  have c3' : (0 : Int) ≤ i ∧ (i : Int) ≤ σ 91 r - 1 := by omega
  have L99 : ∀ v, v = q_nar (σ 90 r) x3 → X 99 [some (.inr (.inr (10, 0, 89))), some (.inl (r : Int)), some (.inl (i : Int)), some (.inl x3)] [.inl v, .inl (40 * (r : Int) + (i : Int)), .inr (.inr (100, 320, 92))] (z_up (z_up σ 89 0 0) 89 1 0) := by
    intro v hv
    have fin := h (z_up (z_up (z_up σ 89 0 0) 89 1 0) 92 (40 * r + i) v) (fun c hc => funext fun j => by rw [z_up_ne (by omega), z_up_ne (by omega), z_up_ne (by omega)]) (fun c j hc => by
      unfold q_fSet
      rw [if_neg c1, Int.toNat_natCast, Int.toNat_natCast, if_neg c2, if_neg c3, hv]
      unfold q_last at hc
      simp only [z_up]
      by_cases q : c = 92 ∧ j = 40 * r + i
      · rw [if_pos q, if_pos q]
      · rw [if_neg q, if_neg q]
        by_cases q2 : c = 89 ∧ j = 1
        · rw [if_pos q2, if_pos q2]
        · rw [if_neg q2, if_neg q2, if_neg (by omega)])
    simp only [q_gSet, if_neg c1, Int.toNat_natCast, if_neg c2, if_neg c3, ← hv] at fin
    have e : (40 * (r : Int) + (i : Int)).toNat = 40 * r + i := by omega
    have e2 : z_up (z_up (z_up σ 89 0 0) 89 1 0) 92 (40 * r + i) v 92 (40 * r + i) = v := z_up_eq
    refine h99 _ _ _ ?_
    simp only [z_push, z_lpush, z_iload, z_lload, z_aload, z_istore, z_istoreP, z_lstore, z_astore, z_iinc, z_iincP, z_iadd, z_isub, z_imul, z_iaddW, z_isubW, z_imulW, z_idiv, z_irem, z_iand, z_ior, z_ixor, z_ishl, z_ishr, z_iushr, z_ineg, z_i2l, z_i2b, z_i2s, z_i2c, z_l2i, z_ladd, z_lsub, z_land, z_lor, z_lshl, z_lshr, z_lcmp, z_dup, z_pop, z_dup2, z_goto, z_tsw, z_cases, z_geti, z_getr, z_puti, z_putz, z_ald, z_iast, z_bast, z_zast, z_alen, z_acopy, z_mmax, z_mmin, z_mabs, z_mabsL, z_iret, z_zret, z_nret, z_lret, z_aret, z_vret, z_cat, z_ldcs, z_strv, z_strc, z_gcs, z_gfm, z_sln, z_sald, z_ifeq, z_ifne, z_iflt, z_ifge, z_ifgt, z_ifle, z_iceq, z_icne, z_iclt, z_icge, z_icgt, z_icle, z_cs0, z_cs1, z_cs2, z_cs3, z_cs4, z_cs5, z_cs6, z_cs7, z_cv0, z_cv1, z_cv2, z_cv3, z_cv4, z_cv5, z_cv6, z_cv7, z_g0, z_s0, z_g1, z_s1, z_g2, z_s2, z_g3, z_s3, z_g4, z_s4, z_g5, z_s5, z_g6, z_s6, z_g7, z_s7, z_g8, z_s8, z_g9, z_s9, z_g10, z_s10, z_g11, z_s11, z_g12, z_s12, z_g13, z_s13, z_b0, z_b1, z_b0n, z_b1n, z_up_far1, z_up_far2, z_up_far3, z_up_far4, z_up_far5, z_up_far6, Classical.not_not, not_true_eq_false, z_in, z_inL, Int.cast_ofNat_Int, Nat.reduceLeDiff, List.length_cons, List.length_nil, Nat.reduceAdd, Nat.zero_add, Nat.le_refl, true_and, and_true, List.length, Nat.reduceLT, true_or, or_true, false_or, or_false, false_and, and_false, not_true_eq_false, not_false_eq_true, forall_const, false_implies, true_implies, Int.reduceEq, Int.reduceLT, Int.reduceLE, Int.reduceAdd, Int.reduceSub, Int.reduceMul, Int.reduceNeg, Int.reduceToNat, Int.toNat_natCast, ↓reduceIte, reduceIte, Nat.reduceEqDiff, Nat.reduceSub, Nat.reduceMul, ne_eq, Int.zero_add, Int.add_zero, Int.sub_zero, Nat.add_zero, Int.ofNat_eq_natCast, tX10_set_99, e, e2]
    repeat' (first | (with_reducible intro _) | (with_reducible assumption) | (with_reducible refine And.intro ?_ ?_))
    all_goals first | omega | (with_reducible assumption) | (with_reducible refine z_fin fin ?_ rfl; first | rfl | omega | (split <;> omega) | (split <;> split <;> omega)) | skip
  refine h0 _ _ _ ?_
  simp only [z_push, z_lpush, z_iload, z_lload, z_aload, z_istore, z_istoreP, z_lstore, z_astore, z_iinc, z_iincP, z_iadd, z_isub, z_imul, z_iaddW, z_isubW, z_imulW, z_idiv, z_irem, z_iand, z_ior, z_ixor, z_ishl, z_ishr, z_iushr, z_ineg, z_i2l, z_i2b, z_i2s, z_i2c, z_l2i, z_ladd, z_lsub, z_land, z_lor, z_lshl, z_lshr, z_lcmp, z_dup, z_pop, z_dup2, z_goto, z_tsw, z_cases, z_geti, z_getr, z_puti, z_putz, z_ald, z_iast, z_bast, z_zast, z_alen, z_acopy, z_mmax, z_mmin, z_mabs, z_mabsL, z_iret, z_zret, z_nret, z_lret, z_aret, z_vret, z_cat, z_ldcs, z_strv, z_strc, z_gcs, z_gfm, z_sln, z_sald, z_ifeq, z_ifne, z_iflt, z_ifge, z_ifgt, z_ifle, z_iceq, z_icne, z_iclt, z_icge, z_icgt, z_icle, z_cs0, z_cs1, z_cs2, z_cs3, z_cs4, z_cs5, z_cs6, z_cs7, z_cv0, z_cv1, z_cv2, z_cv3, z_cv4, z_cv5, z_cv6, z_cv7, z_g0, z_s0, z_g1, z_s1, z_g2, z_s2, z_g3, z_s3, z_g4, z_s4, z_g5, z_s5, z_g6, z_s6, z_g7, z_s7, z_g8, z_s8, z_g9, z_s9, z_g10, z_s10, z_g11, z_s11, z_g12, z_s12, z_g13, z_s13, z_b0, z_b1, z_b0n, z_b1n, z_up_far1, z_up_far2, z_up_far3, z_up_far4, z_up_far5, z_up_far6, Classical.not_not, not_true_eq_false, z_in, z_inL, Int.cast_ofNat_Int, Nat.reduceLeDiff, List.length_cons, List.length_nil, Nat.reduceAdd, Nat.zero_add, Nat.le_refl, true_and, and_true, List.length, Nat.reduceLT, true_or, or_true, false_or, or_false, false_and, and_false, not_true_eq_false, not_false_eq_true, forall_const, false_implies, true_implies, Int.reduceEq, Int.reduceLT, Int.reduceLE, Int.reduceAdd, Int.reduceSub, Int.reduceMul, Int.reduceNeg, Int.reduceToNat, Int.toNat_natCast, ↓reduceIte, reduceIte, Nat.reduceEqDiff, Nat.reduceSub, Nat.reduceMul, ne_eq, Int.zero_add, Int.add_zero, Int.sub_zero, Nat.add_zero, Int.ofNat_eq_natCast, tX10_set_0, SX10_isRow, SX10_finding, SX10_in, c1', e90, e91, c3']
  refine ⟨by omega, fun _ => ⟨fun _ => ⟨by omega, fun _ => ⟨by omega, by omega, by omega, by omega, fun _ => ⟨fun n0 => ⟨by omega, fun _ => ⟨fun n1 => L99 _ ?_, fun n1 => L99 _ ?_⟩⟩, fun n0 => L99 _ ?_⟩⟩⟩, fun e => absurd e (by omega)⟩⟩
  · unfold q_nar
    rw [if_neg n0, if_neg n1]
  · unfold q_nar
    rw [if_neg n0, if_pos n1]
  · unfold q_nar
    rw [if_pos n0]
theorem dX10_set_0 : decode cX10_set 0 = .ok (.aload_n 0, 1) := by decide +kernel
theorem dX10_set_1 : decode cX10_set 1 = .ok (.iconst 0, 1) := by decide +kernel
theorem dX10_set_2 : decode cX10_set 2 = .ok (.putfield 65, 3) := by decide +kernel
theorem dX10_set_5 : decode cX10_set 5 = .ok (.iload_n 1, 1) := by decide +kernel
theorem dX10_set_6 : decode cX10_set 6 = .ok (.invokestatic 79, 3) := by decide +kernel
theorem dX10_set_9 : decode cX10_set 9 = .ok (.ifCond .ne 6, 3) := by decide +kernel
theorem dX10_set_12 : decode cX10_set 12 = .ok (.ldc 85, 2) := by decide +kernel
theorem dX10_set_14 : decode cX10_set 14 = .ok (.ireturn, 1) := by decide +kernel
theorem dX10_set_15 : decode cX10_set 15 = .ok (.aload_n 0, 1) := by decide +kernel
theorem dX10_set_16 : decode cX10_set 16 = .ok (.iconst 0, 1) := by decide +kernel
theorem dX10_set_17 : decode cX10_set 17 = .ok (.putfield 69, 3) := by decide +kernel
theorem dX10_set_20 : decode cX10_set 20 = .ok (.aload_n 0, 1) := by decide +kernel
theorem dX10_set_21 : decode cX10_set 21 = .ok (.getfield 7, 3) := by decide +kernel
theorem dX10_set_24 : decode cX10_set 24 = .ok (.iload_n 1, 1) := by decide +kernel
theorem dX10_set_25 : decode cX10_set 25 = .ok (.iaload, 1) := by decide +kernel
theorem dX10_set_26 : decode cX10_set 26 = .ok (.ifCond .ge 9, 3) := by decide +kernel
theorem dX10_set_29 : decode cX10_set 29 = .ok (.aload_n 0, 1) := by decide +kernel
theorem dX10_set_30 : decode cX10_set 30 = .ok (.iconst 1, 1) := by decide +kernel
theorem dX10_set_31 : decode cX10_set 31 = .ok (.invokevirtual 86, 3) := by decide +kernel
theorem dX10_set_34 : decode cX10_set 34 = .ok (.ireturn, 1) := by decide +kernel
theorem dX10_set_35 : decode cX10_set 35 = .ok (.iload_n 2, 1) := by decide +kernel
theorem dX10_set_36 : decode cX10_set 36 = .ok (.i2l, 1) := by decide +kernel
theorem dX10_set_37 : decode cX10_set 37 = .ok (.lconst 0, 1) := by decide +kernel
theorem dX10_set_38 : decode cX10_set 38 = .ok (.aload_n 0, 1) := by decide +kernel
theorem dX10_set_39 : decode cX10_set 39 = .ok (.getfield 13, 3) := by decide +kernel
theorem dX10_set_42 : decode cX10_set 42 = .ok (.iload_n 1, 1) := by decide +kernel
theorem dX10_set_43 : decode cX10_set 43 = .ok (.iaload, 1) := by decide +kernel
theorem dX10_set_44 : decode cX10_set 44 = .ok (.iconst 1, 1) := by decide +kernel
theorem dX10_set_45 : decode cX10_set 45 = .ok (.isub, 1) := by decide +kernel
theorem dX10_set_46 : decode cX10_set 46 = .ok (.i2l, 1) := by decide +kernel
theorem dX10_set_47 : decode cX10_set 47 = .ok (.invokestatic 75, 3) := by decide +kernel
theorem dX10_set_50 : decode cX10_set 50 = .ok (.ifCond .ne 9, 3) := by decide +kernel
theorem dX10_set_53 : decode cX10_set 53 = .ok (.aload_n 0, 1) := by decide +kernel
theorem dX10_set_54 : decode cX10_set 54 = .ok (.iconst 2, 1) := by decide +kernel
theorem dX10_set_55 : decode cX10_set 55 = .ok (.invokevirtual 86, 3) := by decide +kernel
theorem dX10_set_58 : decode cX10_set 58 = .ok (.ireturn, 1) := by decide +kernel
theorem dX10_set_59 : decode cX10_set 59 = .ok (.aload_n 0, 1) := by decide +kernel
theorem dX10_set_60 : decode cX10_set 60 = .ok (.getfield 16, 3) := by decide +kernel
theorem dX10_set_63 : decode cX10_set 63 = .ok (.bipush 40, 2) := by decide +kernel
theorem dX10_set_65 : decode cX10_set 65 = .ok (.iload_n 1, 1) := by decide +kernel
theorem dX10_set_66 : decode cX10_set 66 = .ok (.imul, 1) := by decide +kernel
theorem dX10_set_67 : decode cX10_set 67 = .ok (.iload_n 2, 1) := by decide +kernel
theorem dX10_set_68 : decode cX10_set 68 = .ok (.iadd, 1) := by decide +kernel
theorem dX10_set_69 : decode cX10_set 69 = .ok (.aload_n 0, 1) := by decide +kernel
theorem dX10_set_70 : decode cX10_set 70 = .ok (.getfield 7, 3) := by decide +kernel
theorem dX10_set_73 : decode cX10_set 73 = .ok (.iload_n 1, 1) := by decide +kernel
theorem dX10_set_74 : decode cX10_set 74 = .ok (.iaload, 1) := by decide +kernel
theorem dX10_set_75 : decode cX10_set 75 = .ok (.ifCond .ne 8, 3) := by decide +kernel
theorem dX10_set_78 : decode cX10_set 78 = .ok (.iload_n 3, 1) := by decide +kernel
theorem dX10_set_79 : decode cX10_set 79 = .ok (.i2b, 1) := by decide +kernel
theorem dX10_set_80 : decode cX10_set 80 = .ok (.goto 19, 3) := by decide +kernel
theorem dX10_set_83 : decode cX10_set 83 = .ok (.aload_n 0, 1) := by decide +kernel
theorem dX10_set_84 : decode cX10_set 84 = .ok (.getfield 7, 3) := by decide +kernel
theorem dX10_set_87 : decode cX10_set 87 = .ok (.iload_n 1, 1) := by decide +kernel
theorem dX10_set_88 : decode cX10_set 88 = .ok (.iaload, 1) := by decide +kernel
theorem dX10_set_89 : decode cX10_set 89 = .ok (.iconst 1, 1) := by decide +kernel
theorem dX10_set_90 : decode cX10_set 90 = .ok (.if_icmp .ne 8, 3) := by decide +kernel
theorem dX10_set_93 : decode cX10_set 93 = .ok (.iload_n 3, 1) := by decide +kernel
theorem dX10_set_94 : decode cX10_set 94 = .ok (.i2s, 1) := by decide +kernel
theorem dX10_set_95 : decode cX10_set 95 = .ok (.goto 4, 3) := by decide +kernel
theorem dX10_set_98 : decode cX10_set 98 = .ok (.iload_n 3, 1) := by decide +kernel
theorem dX10_set_99 : decode cX10_set 99 = .ok (.iastore, 1) := by decide +kernel
theorem dX10_set_100 : decode cX10_set 100 = .ok (.aload_n 0, 1) := by decide +kernel
theorem dX10_set_101 : decode cX10_set 101 = .ok (.getfield 16, 3) := by decide +kernel
theorem dX10_set_104 : decode cX10_set 104 = .ok (.bipush 40, 2) := by decide +kernel
theorem dX10_set_106 : decode cX10_set 106 = .ok (.iload_n 1, 1) := by decide +kernel
theorem dX10_set_107 : decode cX10_set 107 = .ok (.imul, 1) := by decide +kernel
theorem dX10_set_108 : decode cX10_set 108 = .ok (.iload_n 2, 1) := by decide +kernel
theorem dX10_set_109 : decode cX10_set 109 = .ok (.iadd, 1) := by decide +kernel
theorem dX10_set_110 : decode cX10_set 110 = .ok (.iaload, 1) := by decide +kernel
theorem dX10_set_111 : decode cX10_set 111 = .ok (.ireturn, 1) := by decide +kernel
set_option maxRecDepth 100000 in
theorem rX10_set_0 {p : Program} {l : Launch} {e : Env} {s : State} {m : MethodId} {args : Array Value} {below : List Frame} {meth : Method} {c : Code} {D : va_G} {cA : Nat → ClassId} {ad : Nat → Nat} {Ret : zR} (C : z_Cx p { frames := 2, cells := 0, slots := 0, locals := 45 } s m args c cX10_set yX10_set.cls 4 D cA ad) (hr : meth.sig.returnType = (some .int)) (hlocks : meth.locks = false) : ∀ L st σ, tX10_set_0 (z_X p l e { frames := 2, cells := 0, slots := 0, locals := 45 } s m args below meth c (MQ below (z_Qc D cA ad Ret) args s 0 0 (z_A ad)) 4 D cA ad true) Ret L st σ → z_X p l e { frames := 2, cells := 0, slots := 0, locals := 45 } s m args below meth c (MQ below (z_Qc D cA ad Ret) args s 0 0 (z_A ad)) 4 D cA ad true 0 L st σ := (s_aload_n C dX10_set_0 rfl (s_iconst C dX10_set_1 rfl ⟨by decide, by decide⟩ (s_puti C dX10_set_2 cls_X10 (by decide) rfl wd_968 rfl rfl (s_iload_n C dX10_set_5 rfl (s_cs1 C dX10_set_6 (okX10_isRow l) wd_1078 wd_1079 wd_85 wd_1080 ⟨by decide, by decide, by decide +kernel⟩ ⟨by decide, by decide⟩ (s_ifne C dX10_set_9 (by decide) (s_aload_n C dX10_set_15 rfl (s_iconst C dX10_set_16 rfl ⟨by decide, by decide⟩ (s_puti C dX10_set_17 cls_X10 (by decide) rfl wd_969 rfl rfl (s_aload_n C dX10_set_20 rfl (s_getr C dX10_set_21 (j := 2) cls_X10 (by decide) rfl (by decide) (by decide) (by decide +kernel) wd_970 (s_iload_n C dX10_set_24 rfl (s_iald C dX10_set_25 (s_ifge C dX10_set_26 (by decide) (s_iload_n C dX10_set_35 rfl (s_i2l C dX10_set_36 (s_lconst C dX10_set_37 (v := 0) rfl ⟨by decide, by decide⟩ (s_aload_n C dX10_set_38 rfl (s_getr C dX10_set_39 (j := 3) cls_X10 (by decide) rfl (by decide) (by decide) (by decide +kernel) wd_971 (s_iload_n C dX10_set_42 rfl (s_iald C dX10_set_43 (s_iconst C dX10_set_44 rfl ⟨by decide, by decide⟩ (s_isub C dX10_set_45 (s_i2l C dX10_set_46 (s_cs3 C dX10_set_47 (okX10_in l) wd_1082 wd_1083 wd_85 wd_1084 ⟨by decide, by decide, by decide +kernel⟩ ⟨by decide, by decide⟩ (s_ifne C dX10_set_50 (by decide) (s_aload_n C dX10_set_59 rfl (s_getr C dX10_set_60 (j := 4) cls_X10 (by decide) rfl (by decide) (by decide) (by decide +kernel) wd_972 (s_bipush C dX10_set_63 rfl ⟨by decide, by decide⟩ (s_iload_n C dX10_set_65 rfl (s_imul C dX10_set_66 (s_iload_n C dX10_set_67 rfl (s_iadd C dX10_set_68 (s_aload_n C dX10_set_69 rfl (s_getr C dX10_set_70 (j := 2) cls_X10 (by decide) rfl (by decide) (by decide) (by decide +kernel) wd_970 (s_iload_n C dX10_set_73 rfl (s_iald C dX10_set_74 (s_ifne C dX10_set_75 (by decide) (s_aload_n C dX10_set_83 rfl (s_getr C dX10_set_84 (j := 2) cls_X10 (by decide) rfl (by decide) (by decide) (by decide +kernel) wd_970 (s_iload_n C dX10_set_87 rfl (s_iald C dX10_set_88 (s_iconst C dX10_set_89 rfl ⟨by decide, by decide⟩ (s_icne C dX10_set_90 (by decide) (s_iload_n C dX10_set_98 rfl (fun _ _ _ h => h)) (s_iload_n C dX10_set_93 rfl (s_i2s C dX10_set_94 (s_goto C dX10_set_95 (by decide) (fun _ _ _ h => h)))))))))) (s_iload_n C dX10_set_78 rfl (s_i2b C dX10_set_79 (s_goto C dX10_set_80 (by decide) (fun _ _ _ h => h)))))))))))))))) (s_aload_n C dX10_set_53 rfl (s_iconst C dX10_set_54 rfl ⟨by decide, by decide⟩ (s_cv1 C dX10_set_55 (okX10_finding l) cls_X10 wd_1087 wd_1089 wd_35 wd_85 wd_1090 ⟨by decide, by decide, by decide +kernel⟩ ⟨by decide, by decide⟩ (s_iret C dX10_set_58 hr hlocks)))))))))))))))) (s_aload_n C dX10_set_29 rfl (s_iconst C dX10_set_30 rfl ⟨by decide, by decide⟩ (s_cv1 C dX10_set_31 (okX10_finding l) cls_X10 wd_1087 wd_1089 wd_35 wd_85 wd_1090 ⟨by decide, by decide, by decide +kernel⟩ ⟨by decide, by decide⟩ (s_iret C dX10_set_34 hr hlocks)))))))))))) (s_ldc C dX10_set_12 (v := -1000001) wd_1086 ⟨by decide, by decide⟩ (s_iret C dX10_set_14 hr hlocks))))))))
set_option maxRecDepth 100000 in
theorem rX10_set_99 {p : Program} {l : Launch} {e : Env} {s : State} {m : MethodId} {args : Array Value} {below : List Frame} {meth : Method} {c : Code} {D : va_G} {cA : Nat → ClassId} {ad : Nat → Nat} {Ret : zR} (C : z_Cx p { frames := 2, cells := 0, slots := 0, locals := 45 } s m args c cX10_set yX10_set.cls 4 D cA ad) (hr : meth.sig.returnType = (some .int)) (hlocks : meth.locks = false) : ∀ L st σ, tX10_set_99 (z_X p l e { frames := 2, cells := 0, slots := 0, locals := 45 } s m args below meth c (MQ below (z_Qc D cA ad Ret) args s 0 0 (z_A ad)) 4 D cA ad true) Ret L st σ → z_X p l e { frames := 2, cells := 0, slots := 0, locals := 45 } s m args below meth c (MQ below (z_Qc D cA ad Ret) args s 0 0 (z_A ad)) 4 D cA ad true 99 L st σ := (s_iast C dX10_set_99 (s_aload_n C dX10_set_100 rfl (s_getr C dX10_set_101 (j := 4) cls_X10 (by decide) rfl (by decide) (by decide) (by decide +kernel) wd_972 (s_bipush C dX10_set_104 rfl ⟨by decide, by decide⟩ (s_iload_n C dX10_set_106 rfl (s_imul C dX10_set_107 (s_iload_n C dX10_set_108 rfl (s_iadd C dX10_set_109 (s_iald C dX10_set_110 (s_iret C dX10_set_111 hr hlocks))))))))))
theorem okX10_set (l : Launch) : z_OK l yX10_set cX10_set 4 (some .int) 2 45 SX10_set := by
  refine z_ok_of true (by decide +kernel) ?_ ?_
  · intro as σ Ret h
    obtain ⟨k0, x1, x2, x3, rfl⟩ := pX10_set h
    exact ⟨Nat.le_of_ble_eq_true rfl, by simp⟩
  · intro p e s m args below meth c D cA ad Ret C hr hlocks as σ has hσ h
    obtain ⟨k0, x1, x2, x3, rfl⟩ := pX10_set h
    exact vX10_set (rX10_set_0 C hr hlocks) (rX10_set_99 C hr hlocks) k0 x1 x2 x3 σ (has _ (List.mem_of_getElem? (i := 0) rfl)) (has _ (List.mem_of_getElem? (i := 1) rfl)) (has _ (List.mem_of_getElem? (i := 2) rfl)) (has _ (List.mem_of_getElem? (i := 3) rfl)) hσ h
