set_option maxRecDepth 10000 in
set_option maxHeartbeats 4000000 in
theorem x_begin {zx : zX} {Y0 Y1 Z : Nat → zB} (h8 : ∀ L st σ, tL_law_8 zx Y0 L st σ → Y0 8 L st σ) (h22 : ∀ L st σ, tL_law_22 zx Y1 L st σ → Y1 22 L st σ) (h27 : ∀ L st σ, tL_law_27 zx Z L st σ → Z 27 L st σ)
    (hn1 : ∀ L σ, (∀ c n, some (.inr (.inr (c, n, 108))) ∉ L) → Y1 22 L [.inr (.inr (100, 64, 108))] (fun a b => if a = 108 then 0 else σ a b) → Y0 20 L [.inl 64] σ)
    (hn2 : ∀ L σ, (∀ c n, some (.inr (.inr (c, n, 109))) ∉ L) → Z 27 L [.inr (.inr (100, 64, 109))] (fun a b => if a = 109 then 0 else σ a b) → Y1 25 L [.inl 64] σ)
    (K : ∀ σ D O, w_I zx σ D O → D 3 = 0 → Z 42 [some (.inr (.inr (252, 0, 1400))), some (.inr (.inr (9, 0, 0))), some (.inr (.inr (100, 64, 108))), some (.inr (.inr (100, 64, 109))), some (.inl (w_nt zx)), some (.inl 0), none, none, none, none, none] [] σ) : Y0 8 [some (.inr (.inr (252, 0, 1400))), some (.inr (.inr (9, 0, 0))), none, none, none, none, none, none, none, none, none] [] q_s0 := by
  have nt := w_nt_in zx
  refine h8 _ _ _ ?_
  simp only [z_push, z_lpush, z_iload, z_lload, z_aload, z_istore, z_istoreP, z_lstore, z_astore, z_iinc, z_iincP, z_iadd, z_isub, z_imul, z_iaddW, z_isubW, z_imulW, z_idiv, z_irem, z_iand, z_ior, z_ixor, z_ishl, z_ishr, z_iushr, z_ineg, z_i2l, z_i2b, z_i2s, z_i2c, z_l2i, z_ladd, z_lsub, z_land, z_lor, z_lshl, z_lshr, z_lcmp, z_dup, z_pop, z_dup2, z_goto, z_tsw, z_cases, z_geti, z_getr, z_puti, z_putz, z_ald, z_iast, z_bast, z_zast, z_alen, z_acopy, z_mmax, z_mmin, z_mabs, z_mabsL, z_iret, z_zret, z_nret, z_lret, z_aret, z_vret, z_cat, z_xald, z_xlen, z_ldcs, z_strv, z_strc, z_gcs, z_gfm, z_sln, z_sald, z_ifeq, z_ifne, z_iflt, z_ifge, z_ifgt, z_ifle, z_iceq, z_icne, z_iclt, z_icge, z_icgt, z_icle, z_cs0, z_cs1, z_cs2, z_cs3, z_cs4, z_cs5, z_cs6, z_cs7, z_cv0, z_cv1, z_cv2, z_cv3, z_cv4, z_cv5, z_cv6, z_cv7, z_g0, z_s0, z_g1, z_s1, z_g2, z_s2, z_g3, z_s3, z_g4, z_s4, z_g5, z_s5, z_g6, z_s6, z_g7, z_s7, z_g8, z_s8, z_g9, z_s9, z_g10, z_s10, z_g11, z_s11, z_g12, z_s12, z_g13, z_s13, z_b0, z_b1, z_b0n, z_b1n, z_up_far1, z_up_far2, z_up_far3, z_up_far4, z_up_far5, z_up_far6, Classical.not_not, not_true_eq_false, z_in, z_inL, Int.cast_ofNat_Int, Nat.reduceLeDiff, List.length_cons, List.length_nil, Nat.reduceAdd, Nat.zero_add, Nat.le_refl, true_and, and_true, List.length, Nat.reduceLT, true_or, or_true, false_or, or_false, false_and, and_false, not_true_eq_false, not_false_eq_true, forall_const, false_implies, true_implies, Int.reduceEq, Int.reduceLT, Int.reduceLE, Int.reduceAdd, Int.reduceSub, Int.reduceMul, Int.reduceNeg, Int.reduceToNat, Int.toNat_natCast, ↓reduceIte, reduceIte, Nat.reduceEqDiff, Nat.reduceSub, Nat.reduceMul, ne_eq, Int.zero_add, Int.add_zero, Int.sub_zero, Nat.add_zero, Int.ofNat_eq_natCast, tL_law_8, SL_tell]
  refine ⟨_, _, 0, w_start, fun σ f a => ?_⟩
  refine hn1 _ _ (fun c n => by simp) ?_
  refine h22 _ _ _ ?_
  simp only [z_push, z_lpush, z_iload, z_lload, z_aload, z_istore, z_istoreP, z_lstore, z_astore, z_iinc, z_iincP, z_iadd, z_isub, z_imul, z_iaddW, z_isubW, z_imulW, z_idiv, z_irem, z_iand, z_ior, z_ixor, z_ishl, z_ishr, z_iushr, z_ineg, z_i2l, z_i2b, z_i2s, z_i2c, z_l2i, z_ladd, z_lsub, z_land, z_lor, z_lshl, z_lshr, z_lcmp, z_dup, z_pop, z_dup2, z_goto, z_tsw, z_cases, z_geti, z_getr, z_puti, z_putz, z_ald, z_iast, z_bast, z_zast, z_alen, z_acopy, z_mmax, z_mmin, z_mabs, z_mabsL, z_iret, z_zret, z_nret, z_lret, z_aret, z_vret, z_cat, z_xald, z_xlen, z_ldcs, z_strv, z_strc, z_gcs, z_gfm, z_sln, z_sald, z_ifeq, z_ifne, z_iflt, z_ifge, z_ifgt, z_ifle, z_iceq, z_icne, z_iclt, z_icge, z_icgt, z_icle, z_cs0, z_cs1, z_cs2, z_cs3, z_cs4, z_cs5, z_cs6, z_cs7, z_cv0, z_cv1, z_cv2, z_cv3, z_cv4, z_cv5, z_cv6, z_cv7, z_g0, z_s0, z_g1, z_s1, z_g2, z_s2, z_g3, z_s3, z_g4, z_s4, z_g5, z_s5, z_g6, z_s6, z_g7, z_s7, z_g8, z_s8, z_g9, z_s9, z_g10, z_s10, z_g11, z_s11, z_g12, z_s12, z_g13, z_s13, z_b0, z_b1, z_b0n, z_b1n, z_up_far1, z_up_far2, z_up_far3, z_up_far4, z_up_far5, z_up_far6, Classical.not_not, not_true_eq_false, z_in, z_inL, Int.cast_ofNat_Int, Nat.reduceLeDiff, List.length_cons, List.length_nil, Nat.reduceAdd, Nat.zero_add, Nat.le_refl, true_and, and_true, List.length, Nat.reduceLT, true_or, or_true, false_or, or_false, false_and, and_false, not_true_eq_false, not_false_eq_true, forall_const, false_implies, true_implies, Int.reduceEq, Int.reduceLT, Int.reduceLE, Int.reduceAdd, Int.reduceSub, Int.reduceMul, Int.reduceNeg, Int.reduceToNat, Int.toNat_natCast, ↓reduceIte, reduceIte, Nat.reduceEqDiff, Nat.reduceSub, Nat.reduceMul, ne_eq, Int.zero_add, Int.add_zero, Int.sub_zero, Nat.add_zero, Int.ofNat_eq_natCast, tL_law_22]
  refine hn2 _ _ (fun c n => by simp) ?_
  refine h27 _ _ _ ?_
  simp only [z_push, z_lpush, z_iload, z_lload, z_aload, z_istore, z_istoreP, z_lstore, z_astore, z_iinc, z_iincP, z_iadd, z_isub, z_imul, z_iaddW, z_isubW, z_imulW, z_idiv, z_irem, z_iand, z_ior, z_ixor, z_ishl, z_ishr, z_iushr, z_ineg, z_i2l, z_i2b, z_i2s, z_i2c, z_l2i, z_ladd, z_lsub, z_land, z_lor, z_lshl, z_lshr, z_lcmp, z_dup, z_pop, z_dup2, z_goto, z_tsw, z_cases, z_geti, z_getr, z_puti, z_putz, z_ald, z_iast, z_bast, z_zast, z_alen, z_acopy, z_mmax, z_mmin, z_mabs, z_mabsL, z_iret, z_zret, z_nret, z_lret, z_aret, z_vret, z_cat, z_xald, z_xlen, z_ldcs, z_strv, z_strc, z_gcs, z_gfm, z_sln, z_sald, z_ifeq, z_ifne, z_iflt, z_ifge, z_ifgt, z_ifle, z_iceq, z_icne, z_iclt, z_icge, z_icgt, z_icle, z_cs0, z_cs1, z_cs2, z_cs3, z_cs4, z_cs5, z_cs6, z_cs7, z_cv0, z_cv1, z_cv2, z_cv3, z_cv4, z_cv5, z_cv6, z_cv7, z_g0, z_s0, z_g1, z_s1, z_g2, z_s2, z_g3, z_s3, z_g4, z_s4, z_g5, z_s5, z_g6, z_s6, z_g7, z_s7, z_g8, z_s8, z_g9, z_s9, z_g10, z_s10, z_g11, z_s11, z_g12, z_s12, z_g13, z_s13, z_b0, z_b1, z_b0n, z_b1n, z_up_far1, z_up_far2, z_up_far3, z_up_far4, z_up_far5, z_up_far6, Classical.not_not, not_true_eq_false, z_in, z_inL, Int.cast_ofNat_Int, Nat.reduceLeDiff, List.length_cons, List.length_nil, Nat.reduceAdd, Nat.zero_add, Nat.le_refl, true_and, and_true, List.length, Nat.reduceLT, true_or, or_true, false_or, or_false, false_and, and_false, not_true_eq_false, not_false_eq_true, forall_const, false_implies, true_implies, Int.reduceEq, Int.reduceLT, Int.reduceLE, Int.reduceAdd, Int.reduceSub, Int.reduceMul, Int.reduceNeg, Int.reduceToNat, Int.toNat_natCast, ↓reduceIte, reduceIte, Nat.reduceEqDiff, Nat.reduceSub, Nat.reduceMul, ne_eq, Int.zero_add, Int.add_zero, Int.sub_zero, Nat.add_zero, Int.ofNat_eq_natCast, tL_law_27, SL_begins, SL_trees]
  intro σ' e g1 g2
  have df := w_Df_at zx
  have e9 : ∀ j, j < 106 → (fun j => if j < 106 then w_Df zx j else 0) j = w_Df zx j := fun j hj => if_pos hj
  refine K σ' (fun j => if j < 106 then w_Df zx j else 0) (fun _ => 0) ⟨w_at_cg a (fun c hc => ?_), ⟨⟨?_, ?_, ?_⟩, fun w q hw hq => ?_⟩, ⟨fun t q ht hq => ?_, ?_, ?_, ?_⟩, fun i hi => ?_, ?_⟩ ?_
  · refine (e c (by omega)).trans (funext fun b => ?_)
    dsimp only
    rw [if_neg (by omega), if_neg (by omega)]
  · rw [e9 0 (by omega)]; exact df.1.1
  · rw [e9 1 (by omega)]; exact df.1.2.1
  · rw [e9 2 (by omega)]; exact df.1.2.2.1
  · have nw := w_nw_in zx
    rw [e9 _ (by omega)]; exact df.2.2.2 w q hw hq
  · rw [e9 0 (by omega), df.1.1] at ht
    rw [e9 _ (by omega), g1 _ (by omega)]
    unfold w_bg
    rw [show (6 * t + q) % 6 = q by omega, show (6 * t + q) / 6 = t by omega]
    by_cases c : q < 4
    · rw [if_pos ⟨c, ht⟩]
      exact (df.2.1 t q ht c).symm
    · rw [if_neg (fun h => c h.1)]
      exact (df.2.2.1 t q ht (by omega) hq).symm
  · rw [e9 4 (by omega), g2.1]; exact df.1.2.2.2.2.1.symm
  · rw [e9 3 (by omega), g2.2.1]; exact df.1.2.2.2.1.symm
  · rw [e9 5 (by omega), g2.2.2]; exact df.1.2.2.2.2.2.symm
  · rw [e9 5 (by omega), df.1.2.2.2.2.2] at hi
    omega
  · rw [e9 5 (by omega), df.1.2.2.2.2.2]
    omega
  · exact (e9 3 (by omega)).trans df.1.2.2.2.1
