/-! buzz and tree, asked of the program -/
theorem q_ear_ok {τ : zM} {e w : Nat} {D : Nat → Int} (k : q_Dok D) (h : q_ear τ e (q_lsD D w) (q_tnD D)) : (0 ≤ τ e 3 ∧ τ e 3 ≤ 12) ∧ ∀ i : Nat, (i : Int) < τ e 3 → 0 ≤ τ (e + 2) i ∧ τ (e + 2) i < 12 := by
  have ll := q_lsD_len (w := w) k
  have k0 := k.1.1
  refine ⟨by rw [h.1]; omega, fun i hi => ?_⟩
  rw [h.1] at hi
  rw [h.2.2 i (by omega)]
  have := q_lsD_mem (D := D) (w := w) (i := i) (by omega)
  omega
def q_gTree (t w : Int) (τ : zM) : Int := if ¬ ((0 ≤ t ∧ t < τ 93 0) ∧ 0 ≤ w ∧ w ≤ 6) then -1000001 else if w < 6 then τ 93 (6 + 6 * t.toNat + w.toNat) else q_tnD (τ 93) t.toNat
def SX9_tree : zS := fun as σ Ret => match as with
  | [.inr (.inr (9, 0, _)), .inl t, .inl w] => q_S9 (q_gTree t w) q_fId σ Ret
  | _ => False
def tX9_tree_0 (X : Nat → zB) (Ret : zR) (L : zL) (st : List zV) (σ : zM) : Prop := (z_aload 0 (z_getr 9 8 8 0 (z_getr 8 1 6 0 (z_iload 1 (z_cv1 6 SX6_has (z_ifne (z_iload 2 (z_tsw 0 [(z_aload 0 (z_getr 9 8 8 0 (z_getr 8 1 6 0 (z_getr 6 1 100 12 (z_iload 1 (z_ald 0 (z_iret Ret))))))), (z_aload 0 (z_getr 9 8 8 0 (z_getr 8 1 6 0 (z_getr 6 2 100 12 (z_iload 1 (z_ald 0 (z_iret Ret))))))), (z_aload 0 (z_getr 9 8 8 0 (z_getr 8 1 6 0 (z_getr 6 3 100 12 (z_iload 1 (z_ald 0 (z_iret Ret))))))), (z_aload 0 (z_getr 9 8 8 0 (z_getr 8 1 6 0 (z_getr 6 4 100 12 (z_iload 1 (z_ald 0 (z_iret Ret))))))), (z_aload 0 (z_getr 9 8 8 0 (z_getr 8 1 6 0 (z_getr 6 5 100 12 (z_iload 1 (z_ald 0 (z_iret Ret))))))), (z_aload 0 (z_getr 9 8 8 0 (z_getr 8 1 6 0 (z_getr 6 6 100 12 (z_iload 1 (z_ald 0 (z_iret Ret))))))), (z_aload 0 (z_getr 9 8 8 0 (z_iload 1 (z_cv1 8 SX8_toneOf (z_iret Ret)))))] (z_push (-1000001) (z_iret Ret)))) (z_push (-1000001) (z_iret Ret)))))))) L st σ
theorem pX9_tree {as : List zV} {σ : zM} {Ret : zR} (h : SX9_tree as σ Ret) : ∃ (k0 : Nat) (x1 : Int) (x2 : Int), as = [.inr (.inr (9, 0, k0)), .inl x1, .inl x2] := by
  unfold SX9_tree at h
  split at h
  · exact ⟨_, _, _, rfl⟩
  · exact h.elim
set_option maxRecDepth 10000 in
set_option maxHeartbeats 4000000 in
theorem vX9_tree {X : Nat → zB} {Ret : zR} (h0 : ∀ L st σ, tX9_tree_0 X Ret L st σ → X 0 L st σ) (k0 : Nat) (x1 : Int) (x2 : Int) (σ : zM) (hk0 : z_kd k0 = (9, 0)) (hx1 : -2147483648 ≤ x1 ∧ x1 ≤ 2147483647) (hx2 : -2147483648 ≤ x2 ∧ x2 ≤ 2147483647) (hσ : z_okm σ) (h : SX9_tree [.inr (.inr (9, 0, k0)), .inl x1, .inl x2] σ Ret) : X 0 [some (.inr (.inr (9, 0, k0))), some (.inl x1), some (.inl x2)] [] σ := by
  obtain ⟨⟨R, m⟩, h⟩ := h
  obtain rfl := z_kd9 hk0
  have W := R.2.2.2.2.1.1
  have K := m.2.1.1
  have W0 : σ 9 6 = σ 93 0 := W.1.1.1
  have K0 := K.1.1
  have fin := h σ (fun _ _ => rfl) R
  unfold q_gTree at fin
  by_cases c : ¬ (0 ≤ x1 ∧ x1 < σ 93 0)
  · rw [if_pos (by omega)] at fin
    refine h0 _ _ _ ?_
    simp only [z_push, z_lpush, z_iload, z_lload, z_aload, z_istore, z_istoreP, z_lstore, z_astore, z_iinc, z_iincP, z_iadd, z_isub, z_imul, z_iaddW, z_isubW, z_imulW, z_idiv, z_irem, z_iand, z_ior, z_ixor, z_ishl, z_ishr, z_iushr, z_ineg, z_i2l, z_i2b, z_i2s, z_i2c, z_l2i, z_ladd, z_lsub, z_land, z_lor, z_lshl, z_lshr, z_lcmp, z_dup, z_pop, z_dup2, z_goto, z_tsw, z_cases, z_geti, z_getr, z_puti, z_putz, z_ald, z_iast, z_bast, z_zast, z_alen, z_acopy, z_mmax, z_mmin, z_mabs, z_mabsL, z_iret, z_zret, z_nret, z_lret, z_aret, z_vret, z_cat, z_xald, z_xlen, z_ldcs, z_strv, z_strc, z_gcs, z_gfm, z_sln, z_sald, z_ifeq, z_ifne, z_iflt, z_ifge, z_ifgt, z_ifle, z_iceq, z_icne, z_iclt, z_icge, z_icgt, z_icle, z_cs0, z_cs1, z_cs2, z_cs3, z_cs4, z_cs5, z_cs6, z_cs7, z_cv0, z_cv1, z_cv2, z_cv3, z_cv4, z_cv5, z_cv6, z_cv7, z_g0, z_s0, z_g1, z_s1, z_g2, z_s2, z_g3, z_s3, z_g4, z_s4, z_g5, z_s5, z_g6, z_s6, z_g7, z_s7, z_g8, z_s8, z_g9, z_s9, z_g10, z_s10, z_g11, z_s11, z_g12, z_s12, z_g13, z_s13, z_b0, z_b1, z_b0n, z_b1n, z_up_far1, z_up_far2, z_up_far3, z_up_far4, z_up_far5, z_up_far6, Classical.not_not, not_true_eq_false, z_in, z_inL, Int.cast_ofNat_Int, Nat.reduceLeDiff, List.length_cons, List.length_nil, Nat.reduceAdd, Nat.zero_add, Nat.le_refl, true_and, and_true, List.length, Nat.reduceLT, true_or, or_true, false_or, or_false, false_and, and_false, not_true_eq_false, not_false_eq_true, forall_const, false_implies, true_implies, Int.reduceEq, Int.reduceLT, Int.reduceLE, Int.reduceAdd, Int.reduceSub, Int.reduceMul, Int.reduceNeg, Int.reduceToNat, Int.toNat_natCast, ↓reduceIte, reduceIte, Nat.reduceEqDiff, Nat.reduceSub, Nat.reduceMul, ne_eq, Int.zero_add, Int.add_zero, Int.sub_zero, Nat.add_zero, Int.ofNat_eq_natCast, tX9_tree_0, SX6_has, W0]
    repeat' (first | (intro _) | (with_reducible assumption) | (refine And.intro ?_ ?_))
    all_goals first | omega | assumption | (refine z_fin fin ?_ rfl; first | rfl | omega | (split <;> omega) | (split <;> split <;> omega)) | skip
  obtain ⟨t, rfl⟩ := z_nat (show 0 ≤ x1 by omega)
  have ht : (t : Int) < σ 93 0 := by omega
  rw [Int.toNat_natCast] at fin
  by_cases c2 : 0 ≤ x2 ∧ x2 ≤ 6
  · have hc : x2 = 0 ∨ x2 = 1 ∨ x2 = 2 ∨ x2 = 3 ∨ x2 = 4 ∨ x2 = 5 ∨ x2 = 6 := by omega
    have T := fun f (hf : f < 6) => W.2.1 t f ht hf
    have q := K.2.1 t ht
    rw [if_neg (by omega)] at fin
    rcases hc with rfl | rfl | rfl | rfl | rfl | rfl | rfl
    · have T0 : σ 10 t = σ 93 (6 + 6 * t + 0) := T 0 (by omega)
      rw [if_pos (by omega)] at fin
      change Ret (some (.inl (σ 93 (6 + 6 * t + 0)))) σ at fin
      rw [← T0] at fin
      refine h0 _ _ _ ?_
      simp only [z_push, z_lpush, z_iload, z_lload, z_aload, z_istore, z_istoreP, z_lstore, z_astore, z_iinc, z_iincP, z_iadd, z_isub, z_imul, z_iaddW, z_isubW, z_imulW, z_idiv, z_irem, z_iand, z_ior, z_ixor, z_ishl, z_ishr, z_iushr, z_ineg, z_i2l, z_i2b, z_i2s, z_i2c, z_l2i, z_ladd, z_lsub, z_land, z_lor, z_lshl, z_lshr, z_lcmp, z_dup, z_pop, z_dup2, z_goto, z_tsw, z_cases, z_geti, z_getr, z_puti, z_putz, z_ald, z_iast, z_bast, z_zast, z_alen, z_acopy, z_mmax, z_mmin, z_mabs, z_mabsL, z_iret, z_zret, z_nret, z_lret, z_aret, z_vret, z_cat, z_xald, z_xlen, z_ldcs, z_strv, z_strc, z_gcs, z_gfm, z_sln, z_sald, z_ifeq, z_ifne, z_iflt, z_ifge, z_ifgt, z_ifle, z_iceq, z_icne, z_iclt, z_icge, z_icgt, z_icle, z_cs0, z_cs1, z_cs2, z_cs3, z_cs4, z_cs5, z_cs6, z_cs7, z_cv0, z_cv1, z_cv2, z_cv3, z_cv4, z_cv5, z_cv6, z_cv7, z_g0, z_s0, z_g1, z_s1, z_g2, z_s2, z_g3, z_s3, z_g4, z_s4, z_g5, z_s5, z_g6, z_s6, z_g7, z_s7, z_g8, z_s8, z_g9, z_s9, z_g10, z_s10, z_g11, z_s11, z_g12, z_s12, z_g13, z_s13, z_b0, z_b1, z_b0n, z_b1n, z_up_far1, z_up_far2, z_up_far3, z_up_far4, z_up_far5, z_up_far6, Classical.not_not, not_true_eq_false, z_in, z_inL, Int.cast_ofNat_Int, Nat.reduceLeDiff, List.length_cons, List.length_nil, Nat.reduceAdd, Nat.zero_add, Nat.le_refl, true_and, and_true, List.length, Nat.reduceLT, true_or, or_true, false_or, or_false, false_and, and_false, not_true_eq_false, not_false_eq_true, forall_const, false_implies, true_implies, Int.reduceEq, Int.reduceLT, Int.reduceLE, Int.reduceAdd, Int.reduceSub, Int.reduceMul, Int.reduceNeg, Int.reduceToNat, Int.toNat_natCast, ↓reduceIte, reduceIte, Nat.reduceEqDiff, Nat.reduceSub, Nat.reduceMul, ne_eq, Int.zero_add, Int.add_zero, Int.sub_zero, Nat.add_zero, Int.ofNat_eq_natCast, tX9_tree_0, SX6_has, W0]
      repeat' (first | (intro _) | (with_reducible assumption) | (refine And.intro ?_ ?_))
      all_goals first | omega | assumption | (refine z_fin fin ?_ rfl; first | rfl | omega | (split <;> omega) | (split <;> split <;> omega)) | skip
    · have T0 : σ 11 t = σ 93 (6 + 6 * t + 1) := T 1 (by omega)
      rw [if_pos (by omega)] at fin
      change Ret (some (.inl (σ 93 (6 + 6 * t + 1)))) σ at fin
      rw [← T0] at fin
      refine h0 _ _ _ ?_
      simp only [z_push, z_lpush, z_iload, z_lload, z_aload, z_istore, z_istoreP, z_lstore, z_astore, z_iinc, z_iincP, z_iadd, z_isub, z_imul, z_iaddW, z_isubW, z_imulW, z_idiv, z_irem, z_iand, z_ior, z_ixor, z_ishl, z_ishr, z_iushr, z_ineg, z_i2l, z_i2b, z_i2s, z_i2c, z_l2i, z_ladd, z_lsub, z_land, z_lor, z_lshl, z_lshr, z_lcmp, z_dup, z_pop, z_dup2, z_goto, z_tsw, z_cases, z_geti, z_getr, z_puti, z_putz, z_ald, z_iast, z_bast, z_zast, z_alen, z_acopy, z_mmax, z_mmin, z_mabs, z_mabsL, z_iret, z_zret, z_nret, z_lret, z_aret, z_vret, z_cat, z_xald, z_xlen, z_ldcs, z_strv, z_strc, z_gcs, z_gfm, z_sln, z_sald, z_ifeq, z_ifne, z_iflt, z_ifge, z_ifgt, z_ifle, z_iceq, z_icne, z_iclt, z_icge, z_icgt, z_icle, z_cs0, z_cs1, z_cs2, z_cs3, z_cs4, z_cs5, z_cs6, z_cs7, z_cv0, z_cv1, z_cv2, z_cv3, z_cv4, z_cv5, z_cv6, z_cv7, z_g0, z_s0, z_g1, z_s1, z_g2, z_s2, z_g3, z_s3, z_g4, z_s4, z_g5, z_s5, z_g6, z_s6, z_g7, z_s7, z_g8, z_s8, z_g9, z_s9, z_g10, z_s10, z_g11, z_s11, z_g12, z_s12, z_g13, z_s13, z_b0, z_b1, z_b0n, z_b1n, z_up_far1, z_up_far2, z_up_far3, z_up_far4, z_up_far5, z_up_far6, Classical.not_not, not_true_eq_false, z_in, z_inL, Int.cast_ofNat_Int, Nat.reduceLeDiff, List.length_cons, List.length_nil, Nat.reduceAdd, Nat.zero_add, Nat.le_refl, true_and, and_true, List.length, Nat.reduceLT, true_or, or_true, false_or, or_false, false_and, and_false, not_true_eq_false, not_false_eq_true, forall_const, false_implies, true_implies, Int.reduceEq, Int.reduceLT, Int.reduceLE, Int.reduceAdd, Int.reduceSub, Int.reduceMul, Int.reduceNeg, Int.reduceToNat, Int.toNat_natCast, ↓reduceIte, reduceIte, Nat.reduceEqDiff, Nat.reduceSub, Nat.reduceMul, ne_eq, Int.zero_add, Int.add_zero, Int.sub_zero, Nat.add_zero, Int.ofNat_eq_natCast, tX9_tree_0, SX6_has, W0]
      repeat' (first | (intro _) | (with_reducible assumption) | (refine And.intro ?_ ?_))
      all_goals first | omega | assumption | (refine z_fin fin ?_ rfl; first | rfl | omega | (split <;> omega) | (split <;> split <;> omega)) | skip
    · have T0 : σ 12 t = σ 93 (6 + 6 * t + 2) := T 2 (by omega)
      rw [if_pos (by omega)] at fin
      change Ret (some (.inl (σ 93 (6 + 6 * t + 2)))) σ at fin
      rw [← T0] at fin
      refine h0 _ _ _ ?_
      simp only [z_push, z_lpush, z_iload, z_lload, z_aload, z_istore, z_istoreP, z_lstore, z_astore, z_iinc, z_iincP, z_iadd, z_isub, z_imul, z_iaddW, z_isubW, z_imulW, z_idiv, z_irem, z_iand, z_ior, z_ixor, z_ishl, z_ishr, z_iushr, z_ineg, z_i2l, z_i2b, z_i2s, z_i2c, z_l2i, z_ladd, z_lsub, z_land, z_lor, z_lshl, z_lshr, z_lcmp, z_dup, z_pop, z_dup2, z_goto, z_tsw, z_cases, z_geti, z_getr, z_puti, z_putz, z_ald, z_iast, z_bast, z_zast, z_alen, z_acopy, z_mmax, z_mmin, z_mabs, z_mabsL, z_iret, z_zret, z_nret, z_lret, z_aret, z_vret, z_cat, z_xald, z_xlen, z_ldcs, z_strv, z_strc, z_gcs, z_gfm, z_sln, z_sald, z_ifeq, z_ifne, z_iflt, z_ifge, z_ifgt, z_ifle, z_iceq, z_icne, z_iclt, z_icge, z_icgt, z_icle, z_cs0, z_cs1, z_cs2, z_cs3, z_cs4, z_cs5, z_cs6, z_cs7, z_cv0, z_cv1, z_cv2, z_cv3, z_cv4, z_cv5, z_cv6, z_cv7, z_g0, z_s0, z_g1, z_s1, z_g2, z_s2, z_g3, z_s3, z_g4, z_s4, z_g5, z_s5, z_g6, z_s6, z_g7, z_s7, z_g8, z_s8, z_g9, z_s9, z_g10, z_s10, z_g11, z_s11, z_g12, z_s12, z_g13, z_s13, z_b0, z_b1, z_b0n, z_b1n, z_up_far1, z_up_far2, z_up_far3, z_up_far4, z_up_far5, z_up_far6, Classical.not_not, not_true_eq_false, z_in, z_inL, Int.cast_ofNat_Int, Nat.reduceLeDiff, List.length_cons, List.length_nil, Nat.reduceAdd, Nat.zero_add, Nat.le_refl, true_and, and_true, List.length, Nat.reduceLT, true_or, or_true, false_or, or_false, false_and, and_false, not_true_eq_false, not_false_eq_true, forall_const, false_implies, true_implies, Int.reduceEq, Int.reduceLT, Int.reduceLE, Int.reduceAdd, Int.reduceSub, Int.reduceMul, Int.reduceNeg, Int.reduceToNat, Int.toNat_natCast, ↓reduceIte, reduceIte, Nat.reduceEqDiff, Nat.reduceSub, Nat.reduceMul, ne_eq, Int.zero_add, Int.add_zero, Int.sub_zero, Nat.add_zero, Int.ofNat_eq_natCast, tX9_tree_0, SX6_has, W0]
      repeat' (first | (intro _) | (with_reducible assumption) | (refine And.intro ?_ ?_))
      all_goals first | omega | assumption | (refine z_fin fin ?_ rfl; first | rfl | omega | (split <;> omega) | (split <;> split <;> omega)) | skip
    · have T0 : σ 13 t = σ 93 (6 + 6 * t + 3) := T 3 (by omega)
      rw [if_pos (by omega)] at fin
      change Ret (some (.inl (σ 93 (6 + 6 * t + 3)))) σ at fin
      rw [← T0] at fin
      refine h0 _ _ _ ?_
      simp only [z_push, z_lpush, z_iload, z_lload, z_aload, z_istore, z_istoreP, z_lstore, z_astore, z_iinc, z_iincP, z_iadd, z_isub, z_imul, z_iaddW, z_isubW, z_imulW, z_idiv, z_irem, z_iand, z_ior, z_ixor, z_ishl, z_ishr, z_iushr, z_ineg, z_i2l, z_i2b, z_i2s, z_i2c, z_l2i, z_ladd, z_lsub, z_land, z_lor, z_lshl, z_lshr, z_lcmp, z_dup, z_pop, z_dup2, z_goto, z_tsw, z_cases, z_geti, z_getr, z_puti, z_putz, z_ald, z_iast, z_bast, z_zast, z_alen, z_acopy, z_mmax, z_mmin, z_mabs, z_mabsL, z_iret, z_zret, z_nret, z_lret, z_aret, z_vret, z_cat, z_xald, z_xlen, z_ldcs, z_strv, z_strc, z_gcs, z_gfm, z_sln, z_sald, z_ifeq, z_ifne, z_iflt, z_ifge, z_ifgt, z_ifle, z_iceq, z_icne, z_iclt, z_icge, z_icgt, z_icle, z_cs0, z_cs1, z_cs2, z_cs3, z_cs4, z_cs5, z_cs6, z_cs7, z_cv0, z_cv1, z_cv2, z_cv3, z_cv4, z_cv5, z_cv6, z_cv7, z_g0, z_s0, z_g1, z_s1, z_g2, z_s2, z_g3, z_s3, z_g4, z_s4, z_g5, z_s5, z_g6, z_s6, z_g7, z_s7, z_g8, z_s8, z_g9, z_s9, z_g10, z_s10, z_g11, z_s11, z_g12, z_s12, z_g13, z_s13, z_b0, z_b1, z_b0n, z_b1n, z_up_far1, z_up_far2, z_up_far3, z_up_far4, z_up_far5, z_up_far6, Classical.not_not, not_true_eq_false, z_in, z_inL, Int.cast_ofNat_Int, Nat.reduceLeDiff, List.length_cons, List.length_nil, Nat.reduceAdd, Nat.zero_add, Nat.le_refl, true_and, and_true, List.length, Nat.reduceLT, true_or, or_true, false_or, or_false, false_and, and_false, not_true_eq_false, not_false_eq_true, forall_const, false_implies, true_implies, Int.reduceEq, Int.reduceLT, Int.reduceLE, Int.reduceAdd, Int.reduceSub, Int.reduceMul, Int.reduceNeg, Int.reduceToNat, Int.toNat_natCast, ↓reduceIte, reduceIte, Nat.reduceEqDiff, Nat.reduceSub, Nat.reduceMul, ne_eq, Int.zero_add, Int.add_zero, Int.sub_zero, Nat.add_zero, Int.ofNat_eq_natCast, tX9_tree_0, SX6_has, W0]
      repeat' (first | (intro _) | (with_reducible assumption) | (refine And.intro ?_ ?_))
      all_goals first | omega | assumption | (refine z_fin fin ?_ rfl; first | rfl | omega | (split <;> omega) | (split <;> split <;> omega)) | skip
    · have T0 : σ 14 t = σ 93 (6 + 6 * t + 4) := T 4 (by omega)
      rw [if_pos (by omega)] at fin
      change Ret (some (.inl (σ 93 (6 + 6 * t + 4)))) σ at fin
      rw [← T0] at fin
      refine h0 _ _ _ ?_
      simp only [z_push, z_lpush, z_iload, z_lload, z_aload, z_istore, z_istoreP, z_lstore, z_astore, z_iinc, z_iincP, z_iadd, z_isub, z_imul, z_iaddW, z_isubW, z_imulW, z_idiv, z_irem, z_iand, z_ior, z_ixor, z_ishl, z_ishr, z_iushr, z_ineg, z_i2l, z_i2b, z_i2s, z_i2c, z_l2i, z_ladd, z_lsub, z_land, z_lor, z_lshl, z_lshr, z_lcmp, z_dup, z_pop, z_dup2, z_goto, z_tsw, z_cases, z_geti, z_getr, z_puti, z_putz, z_ald, z_iast, z_bast, z_zast, z_alen, z_acopy, z_mmax, z_mmin, z_mabs, z_mabsL, z_iret, z_zret, z_nret, z_lret, z_aret, z_vret, z_cat, z_xald, z_xlen, z_ldcs, z_strv, z_strc, z_gcs, z_gfm, z_sln, z_sald, z_ifeq, z_ifne, z_iflt, z_ifge, z_ifgt, z_ifle, z_iceq, z_icne, z_iclt, z_icge, z_icgt, z_icle, z_cs0, z_cs1, z_cs2, z_cs3, z_cs4, z_cs5, z_cs6, z_cs7, z_cv0, z_cv1, z_cv2, z_cv3, z_cv4, z_cv5, z_cv6, z_cv7, z_g0, z_s0, z_g1, z_s1, z_g2, z_s2, z_g3, z_s3, z_g4, z_s4, z_g5, z_s5, z_g6, z_s6, z_g7, z_s7, z_g8, z_s8, z_g9, z_s9, z_g10, z_s10, z_g11, z_s11, z_g12, z_s12, z_g13, z_s13, z_b0, z_b1, z_b0n, z_b1n, z_up_far1, z_up_far2, z_up_far3, z_up_far4, z_up_far5, z_up_far6, Classical.not_not, not_true_eq_false, z_in, z_inL, Int.cast_ofNat_Int, Nat.reduceLeDiff, List.length_cons, List.length_nil, Nat.reduceAdd, Nat.zero_add, Nat.le_refl, true_and, and_true, List.length, Nat.reduceLT, true_or, or_true, false_or, or_false, false_and, and_false, not_true_eq_false, not_false_eq_true, forall_const, false_implies, true_implies, Int.reduceEq, Int.reduceLT, Int.reduceLE, Int.reduceAdd, Int.reduceSub, Int.reduceMul, Int.reduceNeg, Int.reduceToNat, Int.toNat_natCast, ↓reduceIte, reduceIte, Nat.reduceEqDiff, Nat.reduceSub, Nat.reduceMul, ne_eq, Int.zero_add, Int.add_zero, Int.sub_zero, Nat.add_zero, Int.ofNat_eq_natCast, tX9_tree_0, SX6_has, W0]
      repeat' (first | (intro _) | (with_reducible assumption) | (refine And.intro ?_ ?_))
      all_goals first | omega | assumption | (refine z_fin fin ?_ rfl; first | rfl | omega | (split <;> omega) | (split <;> split <;> omega)) | skip
    · have T0 : σ 15 t = σ 93 (6 + 6 * t + 5) := T 5 (by omega)
      rw [if_pos (by omega)] at fin
      change Ret (some (.inl (σ 93 (6 + 6 * t + 5)))) σ at fin
      rw [← T0] at fin
      refine h0 _ _ _ ?_
      simp only [z_push, z_lpush, z_iload, z_lload, z_aload, z_istore, z_istoreP, z_lstore, z_astore, z_iinc, z_iincP, z_iadd, z_isub, z_imul, z_iaddW, z_isubW, z_imulW, z_idiv, z_irem, z_iand, z_ior, z_ixor, z_ishl, z_ishr, z_iushr, z_ineg, z_i2l, z_i2b, z_i2s, z_i2c, z_l2i, z_ladd, z_lsub, z_land, z_lor, z_lshl, z_lshr, z_lcmp, z_dup, z_pop, z_dup2, z_goto, z_tsw, z_cases, z_geti, z_getr, z_puti, z_putz, z_ald, z_iast, z_bast, z_zast, z_alen, z_acopy, z_mmax, z_mmin, z_mabs, z_mabsL, z_iret, z_zret, z_nret, z_lret, z_aret, z_vret, z_cat, z_xald, z_xlen, z_ldcs, z_strv, z_strc, z_gcs, z_gfm, z_sln, z_sald, z_ifeq, z_ifne, z_iflt, z_ifge, z_ifgt, z_ifle, z_iceq, z_icne, z_iclt, z_icge, z_icgt, z_icle, z_cs0, z_cs1, z_cs2, z_cs3, z_cs4, z_cs5, z_cs6, z_cs7, z_cv0, z_cv1, z_cv2, z_cv3, z_cv4, z_cv5, z_cv6, z_cv7, z_g0, z_s0, z_g1, z_s1, z_g2, z_s2, z_g3, z_s3, z_g4, z_s4, z_g5, z_s5, z_g6, z_s6, z_g7, z_s7, z_g8, z_s8, z_g9, z_s9, z_g10, z_s10, z_g11, z_s11, z_g12, z_s12, z_g13, z_s13, z_b0, z_b1, z_b0n, z_b1n, z_up_far1, z_up_far2, z_up_far3, z_up_far4, z_up_far5, z_up_far6, Classical.not_not, not_true_eq_false, z_in, z_inL, Int.cast_ofNat_Int, Nat.reduceLeDiff, List.length_cons, List.length_nil, Nat.reduceAdd, Nat.zero_add, Nat.le_refl, true_and, and_true, List.length, Nat.reduceLT, true_or, or_true, false_or, or_false, false_and, and_false, not_true_eq_false, not_false_eq_true, forall_const, false_implies, true_implies, Int.reduceEq, Int.reduceLT, Int.reduceLE, Int.reduceAdd, Int.reduceSub, Int.reduceMul, Int.reduceNeg, Int.reduceToNat, Int.toNat_natCast, ↓reduceIte, reduceIte, Nat.reduceEqDiff, Nat.reduceSub, Nat.reduceMul, ne_eq, Int.zero_add, Int.add_zero, Int.sub_zero, Nat.add_zero, Int.ofNat_eq_natCast, tX9_tree_0, SX6_has, W0]
      repeat' (first | (intro _) | (with_reducible assumption) | (refine And.intro ?_ ?_))
      all_goals first | omega | assumption | (refine z_fin fin ?_ rfl; first | rfl | omega | (split <;> omega) | (split <;> split <;> omega)) | skip
    · rw [if_neg (by omega)] at fin
      have T0 : σ 10 t = σ 93 (6 + 6 * t + 0) := T 0 (by omega)
      have T1 : σ 11 t = σ 93 (6 + 6 * t + 1) := T 1 (by omega)
      have T4 : σ 8 6 = σ 93 4 := W.1.2.2.2.2.1
      unfold q_tnD at fin
      rw [← T0, ← T1, ← T4] at fin
      refine h0 _ _ _ ?_
      simp only [z_push, z_lpush, z_iload, z_lload, z_aload, z_istore, z_istoreP, z_lstore, z_astore, z_iinc, z_iincP, z_iadd, z_isub, z_imul, z_iaddW, z_isubW, z_imulW, z_idiv, z_irem, z_iand, z_ior, z_ixor, z_ishl, z_ishr, z_iushr, z_ineg, z_i2l, z_i2b, z_i2s, z_i2c, z_l2i, z_ladd, z_lsub, z_land, z_lor, z_lshl, z_lshr, z_lcmp, z_dup, z_pop, z_dup2, z_goto, z_tsw, z_cases, z_geti, z_getr, z_puti, z_putz, z_ald, z_iast, z_bast, z_zast, z_alen, z_acopy, z_mmax, z_mmin, z_mabs, z_mabsL, z_iret, z_zret, z_nret, z_lret, z_aret, z_vret, z_cat, z_xald, z_xlen, z_ldcs, z_strv, z_strc, z_gcs, z_gfm, z_sln, z_sald, z_ifeq, z_ifne, z_iflt, z_ifge, z_ifgt, z_ifle, z_iceq, z_icne, z_iclt, z_icge, z_icgt, z_icle, z_cs0, z_cs1, z_cs2, z_cs3, z_cs4, z_cs5, z_cs6, z_cs7, z_cv0, z_cv1, z_cv2, z_cv3, z_cv4, z_cv5, z_cv6, z_cv7, z_g0, z_s0, z_g1, z_s1, z_g2, z_s2, z_g3, z_s3, z_g4, z_s4, z_g5, z_s5, z_g6, z_s6, z_g7, z_s7, z_g8, z_s8, z_g9, z_s9, z_g10, z_s10, z_g11, z_s11, z_g12, z_s12, z_g13, z_s13, z_b0, z_b1, z_b0n, z_b1n, z_up_far1, z_up_far2, z_up_far3, z_up_far4, z_up_far5, z_up_far6, Classical.not_not, not_true_eq_false, z_in, z_inL, Int.cast_ofNat_Int, Nat.reduceLeDiff, List.length_cons, List.length_nil, Nat.reduceAdd, Nat.zero_add, Nat.le_refl, true_and, and_true, List.length, Nat.reduceLT, true_or, or_true, false_or, or_false, false_and, and_false, not_true_eq_false, not_false_eq_true, forall_const, false_implies, true_implies, Int.reduceEq, Int.reduceLT, Int.reduceLE, Int.reduceAdd, Int.reduceSub, Int.reduceMul, Int.reduceNeg, Int.reduceToNat, Int.toNat_natCast, ↓reduceIte, reduceIte, Nat.reduceEqDiff, Nat.reduceSub, Nat.reduceMul, ne_eq, Int.zero_add, Int.add_zero, Int.sub_zero, Nat.add_zero, Int.ofNat_eq_natCast, tX9_tree_0, SX6_has, SX8_toneOf, W0]
      repeat' (first | (intro _) | (with_reducible assumption) | (refine And.intro ?_ ?_))
      all_goals first | omega | assumption | (refine z_fin fin ?_ rfl; first | rfl | omega | (split <;> omega) | (split <;> split <;> omega)) | skip
  · rw [if_pos (by omega)] at fin
    refine h0 _ _ _ ?_
    simp only [z_push, z_lpush, z_iload, z_lload, z_aload, z_istore, z_istoreP, z_lstore, z_astore, z_iinc, z_iincP, z_iadd, z_isub, z_imul, z_iaddW, z_isubW, z_imulW, z_idiv, z_irem, z_iand, z_ior, z_ixor, z_ishl, z_ishr, z_iushr, z_ineg, z_i2l, z_i2b, z_i2s, z_i2c, z_l2i, z_ladd, z_lsub, z_land, z_lor, z_lshl, z_lshr, z_lcmp, z_dup, z_pop, z_dup2, z_goto, z_tsw, z_cases, z_geti, z_getr, z_puti, z_putz, z_ald, z_iast, z_bast, z_zast, z_alen, z_acopy, z_mmax, z_mmin, z_mabs, z_mabsL, z_iret, z_zret, z_nret, z_lret, z_aret, z_vret, z_cat, z_xald, z_xlen, z_ldcs, z_strv, z_strc, z_gcs, z_gfm, z_sln, z_sald, z_ifeq, z_ifne, z_iflt, z_ifge, z_ifgt, z_ifle, z_iceq, z_icne, z_iclt, z_icge, z_icgt, z_icle, z_cs0, z_cs1, z_cs2, z_cs3, z_cs4, z_cs5, z_cs6, z_cs7, z_cv0, z_cv1, z_cv2, z_cv3, z_cv4, z_cv5, z_cv6, z_cv7, z_g0, z_s0, z_g1, z_s1, z_g2, z_s2, z_g3, z_s3, z_g4, z_s4, z_g5, z_s5, z_g6, z_s6, z_g7, z_s7, z_g8, z_s8, z_g9, z_s9, z_g10, z_s10, z_g11, z_s11, z_g12, z_s12, z_g13, z_s13, z_b0, z_b1, z_b0n, z_b1n, z_up_far1, z_up_far2, z_up_far3, z_up_far4, z_up_far5, z_up_far6, Classical.not_not, not_true_eq_false, z_in, z_inL, Int.cast_ofNat_Int, Nat.reduceLeDiff, List.length_cons, List.length_nil, Nat.reduceAdd, Nat.zero_add, Nat.le_refl, true_and, and_true, List.length, Nat.reduceLT, true_or, or_true, false_or, or_false, false_and, and_false, not_true_eq_false, not_false_eq_true, forall_const, false_implies, true_implies, Int.reduceEq, Int.reduceLT, Int.reduceLE, Int.reduceAdd, Int.reduceSub, Int.reduceMul, Int.reduceNeg, Int.reduceToNat, Int.toNat_natCast, ↓reduceIte, reduceIte, Nat.reduceEqDiff, Nat.reduceSub, Nat.reduceMul, ne_eq, Int.zero_add, Int.add_zero, Int.sub_zero, Nat.add_zero, Int.ofNat_eq_natCast, tX9_tree_0, SX6_has, W0]
    repeat' (first | (intro _) | (with_reducible assumption) | (refine And.intro ?_ ?_))
    all_goals first | omega | assumption | (refine z_fin fin ?_ rfl; first | rfl | omega | (split <;> omega) | (split <;> split <;> omega)) | skip
theorem dX9_tree_0 : decode cX9_tree 0 = .ok (.aload_n 0, 1) := by decide +kernel
theorem dX9_tree_1 : decode cX9_tree 1 = .ok (.getfield 26, 3) := by decide +kernel
theorem dX9_tree_4 : decode cX9_tree 4 = .ok (.getfield 132, 3) := by decide +kernel
theorem dX9_tree_7 : decode cX9_tree 7 = .ok (.iload_n 1, 1) := by decide +kernel
theorem dX9_tree_8 : decode cX9_tree 8 = .ok (.invokevirtual 170, 3) := by decide +kernel
theorem dX9_tree_11 : decode cX9_tree 11 = .ok (.ifCond .ne 6, 3) := by decide +kernel
theorem dX9_tree_14 : decode cX9_tree 14 = .ok (.ldc 75, 2) := by decide +kernel
theorem dX9_tree_16 : decode cX9_tree 16 = .ok (.ireturn, 1) := by decide +kernel
theorem dX9_tree_17 : decode cX9_tree 17 = .ok (.iload_n 2, 1) := by decide +kernel
theorem dX9_tree_18 : decode cX9_tree 18 = .ok (.tableswitch 129 0 6 #[42, 55, 68, 81, 94, 107, 120], 42) := by decide +kernel
theorem dX9_tree_60 : decode cX9_tree 60 = .ok (.aload_n 0, 1) := by decide +kernel
theorem dX9_tree_61 : decode cX9_tree 61 = .ok (.getfield 26, 3) := by decide +kernel
theorem dX9_tree_64 : decode cX9_tree 64 = .ok (.getfield 132, 3) := by decide +kernel
theorem dX9_tree_67 : decode cX9_tree 67 = .ok (.getfield 173, 3) := by decide +kernel
theorem dX9_tree_70 : decode cX9_tree 70 = .ok (.iload_n 1, 1) := by decide +kernel
theorem dX9_tree_71 : decode cX9_tree 71 = .ok (.iaload, 1) := by decide +kernel
theorem dX9_tree_72 : decode cX9_tree 72 = .ok (.ireturn, 1) := by decide +kernel
theorem dX9_tree_73 : decode cX9_tree 73 = .ok (.aload_n 0, 1) := by decide +kernel
theorem dX9_tree_74 : decode cX9_tree 74 = .ok (.getfield 26, 3) := by decide +kernel
theorem dX9_tree_77 : decode cX9_tree 77 = .ok (.getfield 132, 3) := by decide +kernel
theorem dX9_tree_80 : decode cX9_tree 80 = .ok (.getfield 176, 3) := by decide +kernel
theorem dX9_tree_83 : decode cX9_tree 83 = .ok (.iload_n 1, 1) := by decide +kernel
theorem dX9_tree_84 : decode cX9_tree 84 = .ok (.iaload, 1) := by decide +kernel
theorem dX9_tree_85 : decode cX9_tree 85 = .ok (.ireturn, 1) := by decide +kernel
theorem dX9_tree_86 : decode cX9_tree 86 = .ok (.aload_n 0, 1) := by decide +kernel
theorem dX9_tree_87 : decode cX9_tree 87 = .ok (.getfield 26, 3) := by decide +kernel
theorem dX9_tree_90 : decode cX9_tree 90 = .ok (.getfield 132, 3) := by decide +kernel
theorem dX9_tree_93 : decode cX9_tree 93 = .ok (.getfield 179, 3) := by decide +kernel
theorem dX9_tree_96 : decode cX9_tree 96 = .ok (.iload_n 1, 1) := by decide +kernel
theorem dX9_tree_97 : decode cX9_tree 97 = .ok (.iaload, 1) := by decide +kernel
theorem dX9_tree_98 : decode cX9_tree 98 = .ok (.ireturn, 1) := by decide +kernel
theorem dX9_tree_99 : decode cX9_tree 99 = .ok (.aload_n 0, 1) := by decide +kernel
theorem dX9_tree_100 : decode cX9_tree 100 = .ok (.getfield 26, 3) := by decide +kernel
theorem dX9_tree_103 : decode cX9_tree 103 = .ok (.getfield 132, 3) := by decide +kernel
theorem dX9_tree_106 : decode cX9_tree 106 = .ok (.getfield 182, 3) := by decide +kernel
theorem dX9_tree_109 : decode cX9_tree 109 = .ok (.iload_n 1, 1) := by decide +kernel
theorem dX9_tree_110 : decode cX9_tree 110 = .ok (.iaload, 1) := by decide +kernel
theorem dX9_tree_111 : decode cX9_tree 111 = .ok (.ireturn, 1) := by decide +kernel
theorem dX9_tree_112 : decode cX9_tree 112 = .ok (.aload_n 0, 1) := by decide +kernel
theorem dX9_tree_113 : decode cX9_tree 113 = .ok (.getfield 26, 3) := by decide +kernel
theorem dX9_tree_116 : decode cX9_tree 116 = .ok (.getfield 132, 3) := by decide +kernel
theorem dX9_tree_119 : decode cX9_tree 119 = .ok (.getfield 185, 3) := by decide +kernel
theorem dX9_tree_122 : decode cX9_tree 122 = .ok (.iload_n 1, 1) := by decide +kernel
theorem dX9_tree_123 : decode cX9_tree 123 = .ok (.iaload, 1) := by decide +kernel
theorem dX9_tree_124 : decode cX9_tree 124 = .ok (.ireturn, 1) := by decide +kernel
theorem dX9_tree_125 : decode cX9_tree 125 = .ok (.aload_n 0, 1) := by decide +kernel
theorem dX9_tree_126 : decode cX9_tree 126 = .ok (.getfield 26, 3) := by decide +kernel
theorem dX9_tree_129 : decode cX9_tree 129 = .ok (.getfield 132, 3) := by decide +kernel
theorem dX9_tree_132 : decode cX9_tree 132 = .ok (.getfield 188, 3) := by decide +kernel
theorem dX9_tree_135 : decode cX9_tree 135 = .ok (.iload_n 1, 1) := by decide +kernel
theorem dX9_tree_136 : decode cX9_tree 136 = .ok (.iaload, 1) := by decide +kernel
theorem dX9_tree_137 : decode cX9_tree 137 = .ok (.ireturn, 1) := by decide +kernel
theorem dX9_tree_138 : decode cX9_tree 138 = .ok (.aload_n 0, 1) := by decide +kernel
theorem dX9_tree_139 : decode cX9_tree 139 = .ok (.getfield 26, 3) := by decide +kernel
theorem dX9_tree_142 : decode cX9_tree 142 = .ok (.iload_n 1, 1) := by decide +kernel
theorem dX9_tree_143 : decode cX9_tree 143 = .ok (.invokevirtual 191, 3) := by decide +kernel
theorem dX9_tree_146 : decode cX9_tree 146 = .ok (.ireturn, 1) := by decide +kernel
theorem dX9_tree_147 : decode cX9_tree 147 = .ok (.ldc 75, 2) := by decide +kernel
theorem dX9_tree_149 : decode cX9_tree 149 = .ok (.ireturn, 1) := by decide +kernel
set_option maxRecDepth 100000 in
theorem rX9_tree_0 {zx : zX} {zn : Nat} {p : Program} {l : Launch} {e : Env} {s : State} {m : MethodId} {args : Array Value} {below : List Frame} {meth : Method} {c : Code} {D : va_G} {cA : Nat → ClassId} {ad : Nat → Nat} {Ret : zR} (C : z_Cx zx zn (z_A zn ad) 0 0 p { frames := 2, cells := 0, slots := 0, locals := 43 } s m args c cX9_tree yX9_tree.cls 3 D cA ad) (hr : meth.sig.returnType = (some .int)) (hlocks : meth.locks = false) : ∀ L st σ, tX9_tree_0 (z_X zx zn (z_A zn ad) 0 0 p l e { frames := 2, cells := 0, slots := 0, locals := 43 } s m args below meth c (MQ below (z_Qc zn D cA ad Ret) args s 0 0 (z_A zn ad)) 3 D cA ad true) Ret L st σ → z_X zx zn (z_A zn ad) 0 0 p l e { frames := 2, cells := 0, slots := 0, locals := 43 } s m args below meth c (MQ below (z_Qc zn D cA ad Ret) args s 0 0 (z_A zn ad)) 3 D cA ad true 0 L st σ := (s_aload_n C dX9_tree_0 rfl (s_getr C dX9_tree_1 (j := 2) cls_X9 (by decide) rfl (by decide) (by decide) (by decide +kernel) wd_285 (s_getr C dX9_tree_4 (j := 0) cls_X8 (by decide) rfl (by decide) (by decide) (by decide +kernel) wd_195 (s_iload_n C dX9_tree_7 rfl (s_cv1 C dX9_tree_8 (okX6_has l) cls_X6 wd_502 wd_458 wd_459 wd_21 wd_460 ⟨by decide, by decide, by decide +kernel⟩ ⟨by decide, by decide⟩ (s_ifne C dX9_tree_11 (by decide) (s_iload_n C dX9_tree_17 rfl (s_tsw C dX9_tree_18 (by decide) rfl (s_ldc C dX9_tree_147 (v := -1000001) wd_488 ⟨by decide, by decide⟩ (s_iret C dX9_tree_149 hr hlocks)) (fun i hi => match i, hi with | 0, _ => ⟨42, 60, _, rfl, by decide, rfl, (s_aload_n C dX9_tree_60 rfl (s_getr C dX9_tree_61 (j := 2) cls_X9 (by decide) rfl (by decide) (by decide) (by decide +kernel) wd_285 (s_getr C dX9_tree_64 (j := 0) cls_X8 (by decide) rfl (by decide) (by decide) (by decide +kernel) wd_195 (s_getr C dX9_tree_67 (j := 0) cls_X6 (by decide) rfl (by decide) (by decide) (by decide +kernel) wd_108 (s_iload_n C dX9_tree_70 rfl (s_iald C dX9_tree_71 (s_iret C dX9_tree_72 hr hlocks)))))))⟩ | 1, _ => ⟨55, 73, _, rfl, by decide, rfl, (s_aload_n C dX9_tree_73 rfl (s_getr C dX9_tree_74 (j := 2) cls_X9 (by decide) rfl (by decide) (by decide) (by decide +kernel) wd_285 (s_getr C dX9_tree_77 (j := 0) cls_X8 (by decide) rfl (by decide) (by decide) (by decide +kernel) wd_195 (s_getr C dX9_tree_80 (j := 1) cls_X6 (by decide) rfl (by decide) (by decide) (by decide +kernel) wd_111 (s_iload_n C dX9_tree_83 rfl (s_iald C dX9_tree_84 (s_iret C dX9_tree_85 hr hlocks)))))))⟩ | 2, _ => ⟨68, 86, _, rfl, by decide, rfl, (s_aload_n C dX9_tree_86 rfl (s_getr C dX9_tree_87 (j := 2) cls_X9 (by decide) rfl (by decide) (by decide) (by decide +kernel) wd_285 (s_getr C dX9_tree_90 (j := 0) cls_X8 (by decide) rfl (by decide) (by decide) (by decide +kernel) wd_195 (s_getr C dX9_tree_93 (j := 2) cls_X6 (by decide) rfl (by decide) (by decide) (by decide +kernel) wd_114 (s_iload_n C dX9_tree_96 rfl (s_iald C dX9_tree_97 (s_iret C dX9_tree_98 hr hlocks)))))))⟩ | 3, _ => ⟨81, 99, _, rfl, by decide, rfl, (s_aload_n C dX9_tree_99 rfl (s_getr C dX9_tree_100 (j := 2) cls_X9 (by decide) rfl (by decide) (by decide) (by decide +kernel) wd_285 (s_getr C dX9_tree_103 (j := 0) cls_X8 (by decide) rfl (by decide) (by decide) (by decide +kernel) wd_195 (s_getr C dX9_tree_106 (j := 3) cls_X6 (by decide) rfl (by decide) (by decide) (by decide +kernel) wd_116 (s_iload_n C dX9_tree_109 rfl (s_iald C dX9_tree_110 (s_iret C dX9_tree_111 hr hlocks)))))))⟩ | 4, _ => ⟨94, 112, _, rfl, by decide, rfl, (s_aload_n C dX9_tree_112 rfl (s_getr C dX9_tree_113 (j := 2) cls_X9 (by decide) rfl (by decide) (by decide) (by decide +kernel) wd_285 (s_getr C dX9_tree_116 (j := 0) cls_X8 (by decide) rfl (by decide) (by decide) (by decide +kernel) wd_195 (s_getr C dX9_tree_119 (j := 4) cls_X6 (by decide) rfl (by decide) (by decide) (by decide +kernel) wd_119 (s_iload_n C dX9_tree_122 rfl (s_iald C dX9_tree_123 (s_iret C dX9_tree_124 hr hlocks)))))))⟩ | 5, _ => ⟨107, 125, _, rfl, by decide, rfl, (s_aload_n C dX9_tree_125 rfl (s_getr C dX9_tree_126 (j := 2) cls_X9 (by decide) rfl (by decide) (by decide) (by decide +kernel) wd_285 (s_getr C dX9_tree_129 (j := 0) cls_X8 (by decide) rfl (by decide) (by decide) (by decide +kernel) wd_195 (s_getr C dX9_tree_132 (j := 5) cls_X6 (by decide) rfl (by decide) (by decide) (by decide +kernel) wd_122 (s_iload_n C dX9_tree_135 rfl (s_iald C dX9_tree_136 (s_iret C dX9_tree_137 hr hlocks)))))))⟩ | 6, _ => ⟨120, 138, _, rfl, by decide, rfl, (s_aload_n C dX9_tree_138 rfl (s_getr C dX9_tree_139 (j := 2) cls_X9 (by decide) rfl (by decide) (by decide) (by decide +kernel) wd_285 (s_iload_n C dX9_tree_142 rfl (s_cv1 C dX9_tree_143 (okX8_toneOf l) cls_X8 wd_503 wd_504 wd_505 wd_20 wd_506 ⟨by decide, by decide, by decide +kernel⟩ ⟨by decide, by decide⟩ (s_iret C dX9_tree_146 hr hlocks)))))⟩) ⟨by decide, by decide⟩ ⟨by decide, by decide⟩)) (s_ldc C dX9_tree_14 (v := -1000001) wd_488 ⟨by decide, by decide⟩ (s_iret C dX9_tree_16 hr hlocks))))))))
theorem okX9_tree {zx : zX} {zn : Nat} (l : Launch) : z_OK zx zn l yX9_tree cX9_tree 3 (some .int) 2 43 SX9_tree := by
  refine z_ok_of true (by decide +kernel) ?_ ?_
  · intro as σ Ret h
    obtain ⟨k0, x1, x2, rfl⟩ := pX9_tree h
    exact ⟨Nat.le_of_ble_eq_true rfl, by simp⟩
  · intro p e s m args below meth c D cA ad Ret C hr hlocks as σ has hσ h
    obtain ⟨k0, x1, x2, rfl⟩ := pX9_tree h
    exact vX9_tree (rX9_tree_0 C hr hlocks) k0 x1 x2 σ (has _ (List.mem_of_getElem? (i := 0) rfl)).1 (has _ (List.mem_of_getElem? (i := 1) rfl)) (has _ (List.mem_of_getElem? (i := 2) rfl)) hσ h
