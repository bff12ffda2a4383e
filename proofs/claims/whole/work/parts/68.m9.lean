/-! what sounds in the model -/
def SX10_sounds : zS := fun as σ Ret => match as with
  | [.inr (.inr (10, 0, _)), .inl t, .inl w] => ((0 ≤ t ∧ t < 12) ∧ (0 ≤ w ∧ w < 6) ∧ (0 ≤ σ 93 (6 + 6 * t.toNat + 2) ∧ σ 93 (6 + 6 * t.toNat + 2) ≤ 7) ∧ (0 ≤ σ 93 (78 + 3 * w.toNat + 0) ∧ σ 93 (78 + 3 * w.toNat + 0) ≤ 7) ∧ (0 ≤ σ 93 (6 + 6 * t.toNat + 1) ∧ σ 93 (6 + 6 * t.toNat + 1) ≤ 20) ∧ (0 ≤ σ 93 (6 + 6 * t.toNat + 4) ∧ σ 93 (6 + 6 * t.toNat + 4) ≤ 1) ∧ (0 ≤ σ 93 (6 + 6 * t.toNat + 5) ∧ σ 93 (6 + 6 * t.toNat + 5) ≤ 1)) ∧ Ret (some (.inl (if q_sdD (σ 93) w.toNat t.toNat = true then 1 else 0))) σ
  | _ => False
def tX10_sounds_0 (X : Nat → zB) (Ret : zR) (L : zL) (st : List zV) (σ : zM) : Prop := (z_aload 0 (z_iload 1 (z_push 2 (z_cv2 10 SX10_of (z_aload 0 (z_getr 10 4 100 106 (z_push 78 (z_push 3 (z_iload 2 (z_imul (z_iadd (z_ald 0 (z_isub (z_istore 3 (z_iload 3 (z_ifeq (X 45) (z_iload 3 (z_push 1 (z_iceq (X 45) (z_iload 3 (z_push (-1) (z_iceq (X 45) (z_iload 3 (z_push 7 (z_iceq (X 45) (z_iload 3 (z_push (-7) (z_icne (z_push 0 (X 50)) (X 45))))))))))))))))))))))))))))) L st σ
def tX10_sounds_45 (X : Nat → zB) (Ret : zR) (L : zL) (st : List zV) (σ : zM) : Prop := (z_push 1 (z_goto (X 50))) L st σ
def tX10_sounds_50 (X : Nat → zB) (Ret : zR) (L : zL) (st : List zV) (σ : zM) : Prop := (z_istore 4 (z_aload 0 (z_iload 1 (z_push 4 (z_cv2 10 SX10_of (z_ifne (z_push 0 (z_zret Ret)) (z_aload 0 (z_iload 1 (z_push 5 (z_cv2 10 SX10_of (z_ifne (z_push 0 (z_zret Ret)) (z_aload 0 (z_getr 10 4 100 106 (z_push 78 (z_push 3 (z_iload 2 (z_imul (z_iadd (z_push 1 (z_iadd (z_ald 0 (z_aload 0 (z_iload 1 (z_push 1 (z_cv2 10 SX10_of (z_push 2 (z_idiv (z_iclt (z_push 0 (z_zret Ret)) (z_iload 4 (z_ifeq (z_push 0 (z_zret Ret)) (z_push 1 (z_goto (z_zret Ret))))))))))))))))))))))))))))))))) L st σ
theorem pX10_sounds {as : List zV} {σ : zM} {Ret : zR} (h : SX10_sounds as σ Ret) : ∃ (k0 : Nat) (x1 : Int) (x2 : Int), as = [.inr (.inr (10, 0, k0)), .inl x1, .inl x2] := by
  unfold SX10_sounds at h
  split at h
  · exact ⟨_, _, _, rfl⟩
  · exact h.elim
set_option maxRecDepth 10000 in
set_option maxHeartbeats 4000000 in
theorem vX10_sounds {X : Nat → zB} {Ret : zR} (h0 : ∀ L st σ, tX10_sounds_0 X Ret L st σ → X 0 L st σ) (h45 : ∀ L st σ, tX10_sounds_45 X Ret L st σ → X 45 L st σ) (h50 : ∀ L st σ, tX10_sounds_50 X Ret L st σ → X 50 L st σ) (k0 : Nat) (x1 : Int) (x2 : Int) (σ : zM) (hk0 : z_kd k0 = (10, 0)) (hx1 : -2147483648 ≤ x1 ∧ x1 ≤ 2147483647) (hx2 : -2147483648 ≤ x2 ∧ x2 ≤ 2147483647) (hσ : z_okm σ) (h : SX10_sounds [.inr (.inr (10, 0, k0)), .inl x1, .inl x2] σ Ret) : X 0 [some (.inr (.inr (10, 0, k0))), some (.inl x1), some (.inl x2), none, none] [] σ := by
  obtain ⟨⟨⟨t0, t1⟩, ⟨w0, w1⟩, hs, hw, hp, hi, hf⟩, h⟩ := h
  obtain rfl := z_kd10 hk0
  obtain ⟨t, rfl⟩ := z_nat t0
  obtain ⟨w, rfl⟩ := z_nat w0
  simp only [Int.toNat_natCast, Nat.add_zero] at hs hw hp hi hf h
  unfold q_sdD at h
  simp only [decide_eq_true_eq, Nat.add_zero] at h
  have e0 : (78 + 3 * (w : Int)).toNat = 78 + 3 * w := by omega
  have e1 : (78 + 3 * (w : Int) + 1).toNat = 78 + 3 * w + 1 := by omega
  have hp2 : 0 ≤ (σ 93 (6 + 6 * t + 1)).tdiv 2 ∧ (σ 93 (6 + 6 * t + 1)).tdiv 2 ≤ 10 := by rw [Int.tdiv_eq_ediv_of_nonneg hp.1]; omega
  have L50 : ∀ (d v : Int), d = σ 93 (6 + 6 * t + 2) - σ 93 (78 + 3 * w) → (v = if (-1 ≤ d ∧ d ≤ 1) ∨ d = 7 ∨ d = -7 then 1 else 0) → X 50 [some (.inr (.inr (10, 0, 89))), some (.inl (t : Int)), some (.inl (w : Int)), some (.inl d), none] [.inl v] σ := by
    intro d v hd hv
    subst hd
    refine h50 _ _ _ ?_
    by_cases nb : (-1 ≤ σ 93 (6 + 6 * t + 2) - σ 93 (78 + 3 * w) ∧ σ 93 (6 + 6 * t + 2) - σ 93 (78 + 3 * w) ≤ 1) ∨ σ 93 (6 + 6 * t + 2) - σ 93 (78 + 3 * w) = 7 ∨ σ 93 (6 + 6 * t + 2) - σ 93 (78 + 3 * w) = -7
    · rw [if_pos nb] at hv
      subst hv
      by_cases c : (¬σ 93 (6 + 6 * t + 5) = 1 ∧ ¬σ 93 (6 + 6 * t + 4) = 1) ∧ (σ 93 (6 + 6 * t + 1)).tdiv 2 ≤ σ 93 (78 + 3 * w + 1)
      · rw [if_pos ⟨c.1, nb, c.2⟩] at h
        simp only [z_push, z_lpush, z_iload, z_lload, z_aload, z_istore, z_istoreP, z_lstore, z_astore, z_iinc, z_iincP, z_iadd, z_isub, z_imul, z_iaddW, z_isubW, z_imulW, z_idiv, z_irem, z_iand, z_ior, z_ixor, z_ishl, z_ishr, z_iushr, z_ineg, z_i2l, z_i2b, z_i2s, z_i2c, z_l2i, z_ladd, z_lsub, z_land, z_lor, z_lshl, z_lshr, z_lcmp, z_dup, z_pop, z_dup2, z_goto, z_tsw, z_cases, z_geti, z_getr, z_puti, z_putz, z_ald, z_iast, z_bast, z_zast, z_alen, z_acopy, z_mmax, z_mmin, z_mabs, z_mabsL, z_iret, z_zret, z_nret, z_lret, z_aret, z_vret, z_cat, z_ldcs, z_strv, z_strc, z_gcs, z_gfm, z_sln, z_sald, z_ifeq, z_ifne, z_iflt, z_ifge, z_ifgt, z_ifle, z_iceq, z_icne, z_iclt, z_icge, z_icgt, z_icle, z_cs0, z_cs1, z_cs2, z_cs3, z_cs4, z_cs5, z_cs6, z_cs7, z_cv0, z_cv1, z_cv2, z_cv3, z_cv4, z_cv5, z_cv6, z_cv7, z_g0, z_s0, z_g1, z_s1, z_g2, z_s2, z_g3, z_s3, z_g4, z_s4, z_g5, z_s5, z_g6, z_s6, z_g7, z_s7, z_g8, z_s8, z_g9, z_s9, z_g10, z_s10, z_g11, z_s11, z_g12, z_s12, z_g13, z_s13, z_b0, z_b1, z_b0n, z_b1n, z_up_far1, z_up_far2, z_up_far3, z_up_far4, z_up_far5, z_up_far6, Classical.not_not, not_true_eq_false, z_in, z_inL, Int.cast_ofNat_Int, Nat.reduceLeDiff, List.length_cons, List.length_nil, Nat.reduceAdd, Nat.zero_add, Nat.le_refl, true_and, and_true, List.length, Nat.reduceLT, true_or, or_true, false_or, or_false, false_and, and_false, not_true_eq_false, not_false_eq_true, forall_const, false_implies, true_implies, Int.reduceEq, Int.reduceLT, Int.reduceLE, Int.reduceAdd, Int.reduceSub, Int.reduceMul, Int.reduceNeg, Int.reduceToNat, Int.toNat_natCast, ↓reduceIte, reduceIte, Nat.reduceEqDiff, Nat.reduceSub, Nat.reduceMul, ne_eq, Int.zero_add, Int.add_zero, Int.sub_zero, Nat.add_zero, Int.ofNat_eq_natCast, tX10_sounds_50, SX10_of, e0, e1]
        repeat' (first | (intro _) | (with_reducible assumption) | (refine And.intro ?_ ?_))
        all_goals first | omega | assumption | (refine z_fin h ?_ rfl; first | rfl | omega | (split <;> omega) | (split <;> split <;> omega)) | skip
        all_goals first | omega | (exfalso; omega)
      · rw [if_neg (fun q => c ⟨q.1, q.2.2⟩)] at h
        simp only [z_push, z_lpush, z_iload, z_lload, z_aload, z_istore, z_istoreP, z_lstore, z_astore, z_iinc, z_iincP, z_iadd, z_isub, z_imul, z_iaddW, z_isubW, z_imulW, z_idiv, z_irem, z_iand, z_ior, z_ixor, z_ishl, z_ishr, z_iushr, z_ineg, z_i2l, z_i2b, z_i2s, z_i2c, z_l2i, z_ladd, z_lsub, z_land, z_lor, z_lshl, z_lshr, z_lcmp, z_dup, z_pop, z_dup2, z_goto, z_tsw, z_cases, z_geti, z_getr, z_puti, z_putz, z_ald, z_iast, z_bast, z_zast, z_alen, z_acopy, z_mmax, z_mmin, z_mabs, z_mabsL, z_iret, z_zret, z_nret, z_lret, z_aret, z_vret, z_cat, z_ldcs, z_strv, z_strc, z_gcs, z_gfm, z_sln, z_sald, z_ifeq, z_ifne, z_iflt, z_ifge, z_ifgt, z_ifle, z_iceq, z_icne, z_iclt, z_icge, z_icgt, z_icle, z_cs0, z_cs1, z_cs2, z_cs3, z_cs4, z_cs5, z_cs6, z_cs7, z_cv0, z_cv1, z_cv2, z_cv3, z_cv4, z_cv5, z_cv6, z_cv7, z_g0, z_s0, z_g1, z_s1, z_g2, z_s2, z_g3, z_s3, z_g4, z_s4, z_g5, z_s5, z_g6, z_s6, z_g7, z_s7, z_g8, z_s8, z_g9, z_s9, z_g10, z_s10, z_g11, z_s11, z_g12, z_s12, z_g13, z_s13, z_b0, z_b1, z_b0n, z_b1n, z_up_far1, z_up_far2, z_up_far3, z_up_far4, z_up_far5, z_up_far6, Classical.not_not, not_true_eq_false, z_in, z_inL, Int.cast_ofNat_Int, Nat.reduceLeDiff, List.length_cons, List.length_nil, Nat.reduceAdd, Nat.zero_add, Nat.le_refl, true_and, and_true, List.length, Nat.reduceLT, true_or, or_true, false_or, or_false, false_and, and_false, not_true_eq_false, not_false_eq_true, forall_const, false_implies, true_implies, Int.reduceEq, Int.reduceLT, Int.reduceLE, Int.reduceAdd, Int.reduceSub, Int.reduceMul, Int.reduceNeg, Int.reduceToNat, Int.toNat_natCast, ↓reduceIte, reduceIte, Nat.reduceEqDiff, Nat.reduceSub, Nat.reduceMul, ne_eq, Int.zero_add, Int.add_zero, Int.sub_zero, Nat.add_zero, Int.ofNat_eq_natCast, tX10_sounds_50, SX10_of, e0, e1]
        repeat' (first | (intro _) | (with_reducible assumption) | (refine And.intro ?_ ?_))
        all_goals first | omega | assumption | (refine z_fin h ?_ rfl; first | rfl | omega | (split <;> omega) | (split <;> split <;> omega)) | skip
        all_goals first | omega | (exfalso; omega)
    · rw [if_neg nb] at hv
      subst hv
      rw [if_neg (fun q => nb q.2.1)] at h
      simp only [z_push, z_lpush, z_iload, z_lload, z_aload, z_istore, z_istoreP, z_lstore, z_astore, z_iinc, z_iincP, z_iadd, z_isub, z_imul, z_iaddW, z_isubW, z_imulW, z_idiv, z_irem, z_iand, z_ior, z_ixor, z_ishl, z_ishr, z_iushr, z_ineg, z_i2l, z_i2b, z_i2s, z_i2c, z_l2i, z_ladd, z_lsub, z_land, z_lor, z_lshl, z_lshr, z_lcmp, z_dup, z_pop, z_dup2, z_goto, z_tsw, z_cases, z_geti, z_getr, z_puti, z_putz, z_ald, z_iast, z_bast, z_zast, z_alen, z_acopy, z_mmax, z_mmin, z_mabs, z_mabsL, z_iret, z_zret, z_nret, z_lret, z_aret, z_vret, z_cat, z_ldcs, z_strv, z_strc, z_gcs, z_gfm, z_sln, z_sald, z_ifeq, z_ifne, z_iflt, z_ifge, z_ifgt, z_ifle, z_iceq, z_icne, z_iclt, z_icge, z_icgt, z_icle, z_cs0, z_cs1, z_cs2, z_cs3, z_cs4, z_cs5, z_cs6, z_cs7, z_cv0, z_cv1, z_cv2, z_cv3, z_cv4, z_cv5, z_cv6, z_cv7, z_g0, z_s0, z_g1, z_s1, z_g2, z_s2, z_g3, z_s3, z_g4, z_s4, z_g5, z_s5, z_g6, z_s6, z_g7, z_s7, z_g8, z_s8, z_g9, z_s9, z_g10, z_s10, z_g11, z_s11, z_g12, z_s12, z_g13, z_s13, z_b0, z_b1, z_b0n, z_b1n, z_up_far1, z_up_far2, z_up_far3, z_up_far4, z_up_far5, z_up_far6, Classical.not_not, not_true_eq_false, z_in, z_inL, Int.cast_ofNat_Int, Nat.reduceLeDiff, List.length_cons, List.length_nil, Nat.reduceAdd, Nat.zero_add, Nat.le_refl, true_and, and_true, List.length, Nat.reduceLT, true_or, or_true, false_or, or_false, false_and, and_false, not_true_eq_false, not_false_eq_true, forall_const, false_implies, true_implies, Int.reduceEq, Int.reduceLT, Int.reduceLE, Int.reduceAdd, Int.reduceSub, Int.reduceMul, Int.reduceNeg, Int.reduceToNat, Int.toNat_natCast, ↓reduceIte, reduceIte, Nat.reduceEqDiff, Nat.reduceSub, Nat.reduceMul, ne_eq, Int.zero_add, Int.add_zero, Int.sub_zero, Nat.add_zero, Int.ofNat_eq_natCast, tX10_sounds_50, SX10_of, e0, e1]
      repeat' (first | (intro _) | (with_reducible assumption) | (refine And.intro ?_ ?_))
      all_goals first | omega | assumption | (refine z_fin h ?_ rfl; first | rfl | omega | (split <;> omega) | (split <;> split <;> omega)) | skip
      all_goals first | omega | (exfalso; omega)
  have L45 : ∀ d : Int, d = σ 93 (6 + 6 * t + 2) - σ 93 (78 + 3 * w) → ((-1 ≤ d ∧ d ≤ 1) ∨ d = 7 ∨ d = -7) → X 45 [some (.inr (.inr (10, 0, 89))), some (.inl (t : Int)), some (.inl (w : Int)), some (.inl d), none] [] σ := by
    intro d hd hn
    refine h45 _ _ _ ?_
    simp only [z_push, z_lpush, z_iload, z_lload, z_aload, z_istore, z_istoreP, z_lstore, z_astore, z_iinc, z_iincP, z_iadd, z_isub, z_imul, z_iaddW, z_isubW, z_imulW, z_idiv, z_irem, z_iand, z_ior, z_ixor, z_ishl, z_ishr, z_iushr, z_ineg, z_i2l, z_i2b, z_i2s, z_i2c, z_l2i, z_ladd, z_lsub, z_land, z_lor, z_lshl, z_lshr, z_lcmp, z_dup, z_pop, z_dup2, z_goto, z_tsw, z_cases, z_geti, z_getr, z_puti, z_putz, z_ald, z_iast, z_bast, z_zast, z_alen, z_acopy, z_mmax, z_mmin, z_mabs, z_mabsL, z_iret, z_zret, z_nret, z_lret, z_aret, z_vret, z_cat, z_ldcs, z_strv, z_strc, z_gcs, z_gfm, z_sln, z_sald, z_ifeq, z_ifne, z_iflt, z_ifge, z_ifgt, z_ifle, z_iceq, z_icne, z_iclt, z_icge, z_icgt, z_icle, z_cs0, z_cs1, z_cs2, z_cs3, z_cs4, z_cs5, z_cs6, z_cs7, z_cv0, z_cv1, z_cv2, z_cv3, z_cv4, z_cv5, z_cv6, z_cv7, z_g0, z_s0, z_g1, z_s1, z_g2, z_s2, z_g3, z_s3, z_g4, z_s4, z_g5, z_s5, z_g6, z_s6, z_g7, z_s7, z_g8, z_s8, z_g9, z_s9, z_g10, z_s10, z_g11, z_s11, z_g12, z_s12, z_g13, z_s13, z_b0, z_b1, z_b0n, z_b1n, z_up_far1, z_up_far2, z_up_far3, z_up_far4, z_up_far5, z_up_far6, Classical.not_not, not_true_eq_false, z_in, z_inL, Int.cast_ofNat_Int, Nat.reduceLeDiff, List.length_cons, List.length_nil, Nat.reduceAdd, Nat.zero_add, Nat.le_refl, true_and, and_true, List.length, Nat.reduceLT, true_or, or_true, false_or, or_false, false_and, and_false, not_true_eq_false, not_false_eq_true, forall_const, false_implies, true_implies, Int.reduceEq, Int.reduceLT, Int.reduceLE, Int.reduceAdd, Int.reduceSub, Int.reduceMul, Int.reduceNeg, Int.reduceToNat, Int.toNat_natCast, ↓reduceIte, reduceIte, Nat.reduceEqDiff, Nat.reduceSub, Nat.reduceMul, ne_eq, Int.zero_add, Int.add_zero, Int.sub_zero, Nat.add_zero, Int.ofNat_eq_natCast, tX10_sounds_45]
    exact L50 d 1 hd (by rw [if_pos hn])
  refine h0 _ _ _ ?_
  simp only [z_push, z_lpush, z_iload, z_lload, z_aload, z_istore, z_istoreP, z_lstore, z_astore, z_iinc, z_iincP, z_iadd, z_isub, z_imul, z_iaddW, z_isubW, z_imulW, z_idiv, z_irem, z_iand, z_ior, z_ixor, z_ishl, z_ishr, z_iushr, z_ineg, z_i2l, z_i2b, z_i2s, z_i2c, z_l2i, z_ladd, z_lsub, z_land, z_lor, z_lshl, z_lshr, z_lcmp, z_dup, z_pop, z_dup2, z_goto, z_tsw, z_cases, z_geti, z_getr, z_puti, z_putz, z_ald, z_iast, z_bast, z_zast, z_alen, z_acopy, z_mmax, z_mmin, z_mabs, z_mabsL, z_iret, z_zret, z_nret, z_lret, z_aret, z_vret, z_cat, z_ldcs, z_strv, z_strc, z_gcs, z_gfm, z_sln, z_sald, z_ifeq, z_ifne, z_iflt, z_ifge, z_ifgt, z_ifle, z_iceq, z_icne, z_iclt, z_icge, z_icgt, z_icle, z_cs0, z_cs1, z_cs2, z_cs3, z_cs4, z_cs5, z_cs6, z_cs7, z_cv0, z_cv1, z_cv2, z_cv3, z_cv4, z_cv5, z_cv6, z_cv7, z_g0, z_s0, z_g1, z_s1, z_g2, z_s2, z_g3, z_s3, z_g4, z_s4, z_g5, z_s5, z_g6, z_s6, z_g7, z_s7, z_g8, z_s8, z_g9, z_s9, z_g10, z_s10, z_g11, z_s11, z_g12, z_s12, z_g13, z_s13, z_b0, z_b1, z_b0n, z_b1n, z_up_far1, z_up_far2, z_up_far3, z_up_far4, z_up_far5, z_up_far6, Classical.not_not, not_true_eq_false, z_in, z_inL, Int.cast_ofNat_Int, Nat.reduceLeDiff, List.length_cons, List.length_nil, Nat.reduceAdd, Nat.zero_add, Nat.le_refl, true_and, and_true, List.length, Nat.reduceLT, true_or, or_true, false_or, or_false, false_and, and_false, not_true_eq_false, not_false_eq_true, forall_const, false_implies, true_implies, Int.reduceEq, Int.reduceLT, Int.reduceLE, Int.reduceAdd, Int.reduceSub, Int.reduceMul, Int.reduceNeg, Int.reduceToNat, Int.toNat_natCast, ↓reduceIte, reduceIte, Nat.reduceEqDiff, Nat.reduceSub, Nat.reduceMul, ne_eq, Int.zero_add, Int.add_zero, Int.sub_zero, Nat.add_zero, Int.ofNat_eq_natCast, tX10_sounds_0, SX10_of, e0, e1]
  repeat' (first | (intro _) | (with_reducible assumption) | (refine And.intro ?_ ?_))
  all_goals first | omega | assumption | (refine z_fin h ?_ rfl; first | rfl | omega | (split <;> omega) | (split <;> split <;> omega)) | skip
  all_goals first | exact L45 _ rfl (by omega) | exact L50 _ 0 rfl (by rw [if_neg (by omega)])
theorem dX10_sounds_0 : decode cX10_sounds 0 = .ok (.aload_n 0, 1) := by decide +kernel
theorem dX10_sounds_1 : decode cX10_sounds 1 = .ok (.iload_n 1, 1) := by decide +kernel
theorem dX10_sounds_2 : decode cX10_sounds 2 = .ok (.iconst 2, 1) := by decide +kernel
theorem dX10_sounds_3 : decode cX10_sounds 3 = .ok (.invokevirtual 227, 3) := by decide +kernel
theorem dX10_sounds_6 : decode cX10_sounds 6 = .ok (.aload_n 0, 1) := by decide +kernel
theorem dX10_sounds_7 : decode cX10_sounds 7 = .ok (.getfield 19, 3) := by decide +kernel
theorem dX10_sounds_10 : decode cX10_sounds 10 = .ok (.bipush 78, 2) := by decide +kernel
theorem dX10_sounds_12 : decode cX10_sounds 12 = .ok (.iconst 3, 1) := by decide +kernel
theorem dX10_sounds_13 : decode cX10_sounds 13 = .ok (.iload_n 2, 1) := by decide +kernel
theorem dX10_sounds_14 : decode cX10_sounds 14 = .ok (.imul, 1) := by decide +kernel
theorem dX10_sounds_15 : decode cX10_sounds 15 = .ok (.iadd, 1) := by decide +kernel
theorem dX10_sounds_16 : decode cX10_sounds 16 = .ok (.iaload, 1) := by decide +kernel
theorem dX10_sounds_17 : decode cX10_sounds 17 = .ok (.isub, 1) := by decide +kernel
theorem dX10_sounds_18 : decode cX10_sounds 18 = .ok (.istore_n 3, 1) := by decide +kernel
theorem dX10_sounds_19 : decode cX10_sounds 19 = .ok (.iload_n 3, 1) := by decide +kernel
theorem dX10_sounds_20 : decode cX10_sounds 20 = .ok (.ifCond .eq 25, 3) := by decide +kernel
theorem dX10_sounds_23 : decode cX10_sounds 23 = .ok (.iload_n 3, 1) := by decide +kernel
theorem dX10_sounds_24 : decode cX10_sounds 24 = .ok (.iconst 1, 1) := by decide +kernel
theorem dX10_sounds_25 : decode cX10_sounds 25 = .ok (.if_icmp .eq 20, 3) := by decide +kernel
theorem dX10_sounds_28 : decode cX10_sounds 28 = .ok (.iload_n 3, 1) := by decide +kernel
theorem dX10_sounds_29 : decode cX10_sounds 29 = .ok (.iconst (-1), 1) := by decide +kernel
theorem dX10_sounds_30 : decode cX10_sounds 30 = .ok (.if_icmp .eq 15, 3) := by decide +kernel
theorem dX10_sounds_33 : decode cX10_sounds 33 = .ok (.iload_n 3, 1) := by decide +kernel
theorem dX10_sounds_34 : decode cX10_sounds 34 = .ok (.bipush 7, 2) := by decide +kernel
theorem dX10_sounds_36 : decode cX10_sounds 36 = .ok (.if_icmp .eq 9, 3) := by decide +kernel
theorem dX10_sounds_39 : decode cX10_sounds 39 = .ok (.iload_n 3, 1) := by decide +kernel
theorem dX10_sounds_40 : decode cX10_sounds 40 = .ok (.bipush (-7), 2) := by decide +kernel
theorem dX10_sounds_42 : decode cX10_sounds 42 = .ok (.if_icmp .ne 7, 3) := by decide +kernel
theorem dX10_sounds_45 : decode cX10_sounds 45 = .ok (.iconst 1, 1) := by decide +kernel
theorem dX10_sounds_46 : decode cX10_sounds 46 = .ok (.goto 4, 3) := by decide +kernel
theorem dX10_sounds_49 : decode cX10_sounds 49 = .ok (.iconst 0, 1) := by decide +kernel
theorem dX10_sounds_50 : decode cX10_sounds 50 = .ok (.istore 4, 2) := by decide +kernel
theorem dX10_sounds_52 : decode cX10_sounds 52 = .ok (.aload_n 0, 1) := by decide +kernel
theorem dX10_sounds_53 : decode cX10_sounds 53 = .ok (.iload_n 1, 1) := by decide +kernel
theorem dX10_sounds_54 : decode cX10_sounds 54 = .ok (.iconst 4, 1) := by decide +kernel
theorem dX10_sounds_55 : decode cX10_sounds 55 = .ok (.invokevirtual 227, 3) := by decide +kernel
theorem dX10_sounds_58 : decode cX10_sounds 58 = .ok (.ifCond .ne 45, 3) := by decide +kernel
theorem dX10_sounds_61 : decode cX10_sounds 61 = .ok (.aload_n 0, 1) := by decide +kernel
theorem dX10_sounds_62 : decode cX10_sounds 62 = .ok (.iload_n 1, 1) := by decide +kernel
theorem dX10_sounds_63 : decode cX10_sounds 63 = .ok (.iconst 5, 1) := by decide +kernel
theorem dX10_sounds_64 : decode cX10_sounds 64 = .ok (.invokevirtual 227, 3) := by decide +kernel
theorem dX10_sounds_67 : decode cX10_sounds 67 = .ok (.ifCond .ne 36, 3) := by decide +kernel
theorem dX10_sounds_70 : decode cX10_sounds 70 = .ok (.aload_n 0, 1) := by decide +kernel
theorem dX10_sounds_71 : decode cX10_sounds 71 = .ok (.getfield 19, 3) := by decide +kernel
theorem dX10_sounds_74 : decode cX10_sounds 74 = .ok (.bipush 78, 2) := by decide +kernel
theorem dX10_sounds_76 : decode cX10_sounds 76 = .ok (.iconst 3, 1) := by decide +kernel
theorem dX10_sounds_77 : decode cX10_sounds 77 = .ok (.iload_n 2, 1) := by decide +kernel
theorem dX10_sounds_78 : decode cX10_sounds 78 = .ok (.imul, 1) := by decide +kernel
theorem dX10_sounds_79 : decode cX10_sounds 79 = .ok (.iadd, 1) := by decide +kernel
theorem dX10_sounds_80 : decode cX10_sounds 80 = .ok (.iconst 1, 1) := by decide +kernel
theorem dX10_sounds_81 : decode cX10_sounds 81 = .ok (.iadd, 1) := by decide +kernel
theorem dX10_sounds_82 : decode cX10_sounds 82 = .ok (.iaload, 1) := by decide +kernel
theorem dX10_sounds_83 : decode cX10_sounds 83 = .ok (.aload_n 0, 1) := by decide +kernel
theorem dX10_sounds_84 : decode cX10_sounds 84 = .ok (.iload_n 1, 1) := by decide +kernel
theorem dX10_sounds_85 : decode cX10_sounds 85 = .ok (.iconst 1, 1) := by decide +kernel
theorem dX10_sounds_86 : decode cX10_sounds 86 = .ok (.invokevirtual 227, 3) := by decide +kernel
theorem dX10_sounds_89 : decode cX10_sounds 89 = .ok (.iconst 2, 1) := by decide +kernel
theorem dX10_sounds_90 : decode cX10_sounds 90 = .ok (.idiv, 1) := by decide +kernel
theorem dX10_sounds_91 : decode cX10_sounds 91 = .ok (.if_icmp .lt 12, 3) := by decide +kernel
theorem dX10_sounds_94 : decode cX10_sounds 94 = .ok (.iload 4, 2) := by decide +kernel
theorem dX10_sounds_96 : decode cX10_sounds 96 = .ok (.ifCond .eq 7, 3) := by decide +kernel
theorem dX10_sounds_99 : decode cX10_sounds 99 = .ok (.iconst 1, 1) := by decide +kernel
theorem dX10_sounds_100 : decode cX10_sounds 100 = .ok (.goto 4, 3) := by decide +kernel
theorem dX10_sounds_103 : decode cX10_sounds 103 = .ok (.iconst 0, 1) := by decide +kernel
theorem dX10_sounds_104 : decode cX10_sounds 104 = .ok (.ireturn, 1) := by decide +kernel
set_option maxRecDepth 100000 in
theorem rX10_sounds_0 {p : Program} {l : Launch} {e : Env} {s : State} {m : MethodId} {args : Array Value} {below : List Frame} {meth : Method} {c : Code} {D : va_G} {cA : Nat → ClassId} {ad : Nat → Nat} {Ret : zR} (C : z_Cx p { frames := 1, cells := 0, slots := 0, locals := 22 } s m args c cX10_sounds yX10_sounds.cls 5 D cA ad) (hr : meth.sig.returnType = (some .boolean)) (hlocks : meth.locks = false) : ∀ L st σ, tX10_sounds_0 (z_X p l e { frames := 1, cells := 0, slots := 0, locals := 22 } s m args below meth c (MQ below (z_Qc D cA ad Ret) args s 0 0 (z_A ad)) 5 D cA ad true) Ret L st σ → z_X p l e { frames := 1, cells := 0, slots := 0, locals := 22 } s m args below meth c (MQ below (z_Qc D cA ad Ret) args s 0 0 (z_A ad)) 5 D cA ad true 0 L st σ := (s_aload_n C dX10_sounds_0 rfl (s_iload_n C dX10_sounds_1 rfl (s_iconst C dX10_sounds_2 rfl ⟨by decide, by decide⟩ (s_cv2 C dX10_sounds_3 (okX10_of l) cls_X10 wd_1232 wd_1234 wd_55 wd_85 wd_1235 ⟨by decide, by decide, by decide +kernel⟩ ⟨by decide, by decide⟩ (s_aload_n C dX10_sounds_6 rfl (s_getr C dX10_sounds_7 (j := 5) cls_X10 (by decide) rfl (by decide) (by decide) (by decide +kernel) wd_973 (s_bipush C dX10_sounds_10 rfl ⟨by decide, by decide⟩ (s_iconst C dX10_sounds_12 rfl ⟨by decide, by decide⟩ (s_iload_n C dX10_sounds_13 rfl (s_imul C dX10_sounds_14 (s_iadd C dX10_sounds_15 (s_iald C dX10_sounds_16 (s_isub C dX10_sounds_17 (s_istore_n C dX10_sounds_18 (by decide) rfl rfl (s_iload_n C dX10_sounds_19 rfl (s_ifeq C dX10_sounds_20 (by decide) (fun _ _ _ h => h) (s_iload_n C dX10_sounds_23 rfl (s_iconst C dX10_sounds_24 rfl ⟨by decide, by decide⟩ (s_iceq C dX10_sounds_25 (by decide) (fun _ _ _ h => h) (s_iload_n C dX10_sounds_28 rfl (s_iconst C dX10_sounds_29 rfl ⟨by decide, by decide⟩ (s_iceq C dX10_sounds_30 (by decide) (fun _ _ _ h => h) (s_iload_n C dX10_sounds_33 rfl (s_bipush C dX10_sounds_34 rfl ⟨by decide, by decide⟩ (s_iceq C dX10_sounds_36 (by decide) (fun _ _ _ h => h) (s_iload_n C dX10_sounds_39 rfl (s_bipush C dX10_sounds_40 rfl ⟨by decide, by decide⟩ (s_icne C dX10_sounds_42 (by decide) (s_iconst C dX10_sounds_49 rfl ⟨by decide, by decide⟩ (fun _ _ _ h => h)) (fun _ _ _ h => h)))))))))))))))))))))))))))))
set_option maxRecDepth 100000 in
theorem rX10_sounds_45 {p : Program} {l : Launch} {e : Env} {s : State} {m : MethodId} {args : Array Value} {below : List Frame} {meth : Method} {c : Code} {D : va_G} {cA : Nat → ClassId} {ad : Nat → Nat} {Ret : zR} (C : z_Cx p { frames := 1, cells := 0, slots := 0, locals := 22 } s m args c cX10_sounds yX10_sounds.cls 5 D cA ad) (hr : meth.sig.returnType = (some .boolean)) (hlocks : meth.locks = false) : ∀ L st σ, tX10_sounds_45 (z_X p l e { frames := 1, cells := 0, slots := 0, locals := 22 } s m args below meth c (MQ below (z_Qc D cA ad Ret) args s 0 0 (z_A ad)) 5 D cA ad true) Ret L st σ → z_X p l e { frames := 1, cells := 0, slots := 0, locals := 22 } s m args below meth c (MQ below (z_Qc D cA ad Ret) args s 0 0 (z_A ad)) 5 D cA ad true 45 L st σ := (s_iconst C dX10_sounds_45 rfl ⟨by decide, by decide⟩ (s_goto C dX10_sounds_46 (by decide) (fun _ _ _ h => h)))
set_option maxRecDepth 100000 in
theorem rX10_sounds_50 {p : Program} {l : Launch} {e : Env} {s : State} {m : MethodId} {args : Array Value} {below : List Frame} {meth : Method} {c : Code} {D : va_G} {cA : Nat → ClassId} {ad : Nat → Nat} {Ret : zR} (C : z_Cx p { frames := 1, cells := 0, slots := 0, locals := 22 } s m args c cX10_sounds yX10_sounds.cls 5 D cA ad) (hr : meth.sig.returnType = (some .boolean)) (hlocks : meth.locks = false) : ∀ L st σ, tX10_sounds_50 (z_X p l e { frames := 1, cells := 0, slots := 0, locals := 22 } s m args below meth c (MQ below (z_Qc D cA ad Ret) args s 0 0 (z_A ad)) 5 D cA ad true) Ret L st σ → z_X p l e { frames := 1, cells := 0, slots := 0, locals := 22 } s m args below meth c (MQ below (z_Qc D cA ad Ret) args s 0 0 (z_A ad)) 5 D cA ad true 50 L st σ := (s_istore C dX10_sounds_50 (by decide) rfl (s_aload_n C dX10_sounds_52 rfl (s_iload_n C dX10_sounds_53 rfl (s_iconst C dX10_sounds_54 rfl ⟨by decide, by decide⟩ (s_cv2 C dX10_sounds_55 (okX10_of l) cls_X10 wd_1232 wd_1234 wd_55 wd_85 wd_1235 ⟨by decide, by decide, by decide +kernel⟩ ⟨by decide, by decide⟩ (s_ifne C dX10_sounds_58 (by decide) (s_iconst C dX10_sounds_103 rfl ⟨by decide, by decide⟩ (s_zret C dX10_sounds_104 hr ⟨rfl, rfl⟩ hlocks)) (s_aload_n C dX10_sounds_61 rfl (s_iload_n C dX10_sounds_62 rfl (s_iconst C dX10_sounds_63 rfl ⟨by decide, by decide⟩ (s_cv2 C dX10_sounds_64 (okX10_of l) cls_X10 wd_1232 wd_1234 wd_55 wd_85 wd_1235 ⟨by decide, by decide, by decide +kernel⟩ ⟨by decide, by decide⟩ (s_ifne C dX10_sounds_67 (by decide) (s_iconst C dX10_sounds_103 rfl ⟨by decide, by decide⟩ (s_zret C dX10_sounds_104 hr ⟨rfl, rfl⟩ hlocks)) (s_aload_n C dX10_sounds_70 rfl (s_getr C dX10_sounds_71 (j := 5) cls_X10 (by decide) rfl (by decide) (by decide) (by decide +kernel) wd_973 (s_bipush C dX10_sounds_74 rfl ⟨by decide, by decide⟩ (s_iconst C dX10_sounds_76 rfl ⟨by decide, by decide⟩ (s_iload_n C dX10_sounds_77 rfl (s_imul C dX10_sounds_78 (s_iadd C dX10_sounds_79 (s_iconst C dX10_sounds_80 rfl ⟨by decide, by decide⟩ (s_iadd C dX10_sounds_81 (s_iald C dX10_sounds_82 (s_aload_n C dX10_sounds_83 rfl (s_iload_n C dX10_sounds_84 rfl (s_iconst C dX10_sounds_85 rfl ⟨by decide, by decide⟩ (s_cv2 C dX10_sounds_86 (okX10_of l) cls_X10 wd_1232 wd_1234 wd_55 wd_85 wd_1235 ⟨by decide, by decide, by decide +kernel⟩ ⟨by decide, by decide⟩ (s_iconst C dX10_sounds_89 rfl ⟨by decide, by decide⟩ (s_idiv C dX10_sounds_90 (s_iclt C dX10_sounds_91 (by decide) (s_iconst C dX10_sounds_103 rfl ⟨by decide, by decide⟩ (s_zret C dX10_sounds_104 hr ⟨rfl, rfl⟩ hlocks)) (s_iload C dX10_sounds_94 (s_ifeq C dX10_sounds_96 (by decide) (s_iconst C dX10_sounds_103 rfl ⟨by decide, by decide⟩ (s_zret C dX10_sounds_104 hr ⟨rfl, rfl⟩ hlocks)) (s_iconst C dX10_sounds_99 rfl ⟨by decide, by decide⟩ (s_goto C dX10_sounds_100 (by decide) (s_zret C dX10_sounds_104 hr ⟨rfl, rfl⟩ hlocks)))))))))))))))))))))))))))))))))
theorem okX10_sounds (l : Launch) : z_OK l yX10_sounds cX10_sounds 5 (some .boolean) 1 22 SX10_sounds := by
  refine z_ok_of true (by decide +kernel) ?_ ?_
  · intro as σ Ret h
    obtain ⟨k0, x1, x2, rfl⟩ := pX10_sounds h
    exact ⟨Nat.le_of_ble_eq_true rfl, by simp⟩
  · intro p e s m args below meth c D cA ad Ret C hr hlocks as σ has hσ h
    obtain ⟨k0, x1, x2, rfl⟩ := pX10_sounds h
    exact vX10_sounds (rX10_sounds_0 C hr hlocks) (rX10_sounds_45 C hr hlocks) (rX10_sounds_50 C hr hlocks) k0 x1 x2 σ (has _ (List.mem_of_getElem? (i := 0) rfl)) (has _ (List.mem_of_getElem? (i := 1) rfl)) (has _ (List.mem_of_getElem? (i := 2) rfl)) hσ h
