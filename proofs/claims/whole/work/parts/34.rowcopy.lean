/-! copy -/
def q_gCopy (a i b j n : Int) (τ : zM) : Int := if ¬ ((0 ≤ a ∧ a < 8) ∧ 0 ≤ b ∧ b < 8) then -1000001 else if τ 90 a.toNat < 0 ∨ τ 90 b.toNat < 0 then -1000011 else if ¬ τ 90 a.toNat = τ 90 b.toNat then -1000015 else if ¬ (0 ≤ i ∧ 0 ≤ j ∧ 0 ≤ n ∧ i + n ≤ τ 91 a.toNat ∧ j + n ≤ τ 91 b.toNat) then -1000012 else n
def q_fCopy (a i b j n : Int) (τ : zM) : zM := if ¬ ((0 ≤ a ∧ a < 8) ∧ 0 ≤ b ∧ b < 8) then τ else if τ 90 a.toNat < 0 ∨ τ 90 b.toNat < 0 then z_up τ 89 1 1 else if ¬ τ 90 a.toNat = τ 90 b.toNat then z_up τ 89 1 5 else if ¬ (0 ≤ i ∧ 0 ≤ j ∧ 0 ≤ n ∧ i + n ≤ τ 91 a.toNat ∧ j + n ≤ τ 91 b.toNat) then z_up τ 89 1 2 else z_cpy (z_up τ 89 1 0) 92 (40 * a.toNat + i.toNat) 92 (40 * b.toNat + j.toNat) n.toNat
def SX9_copy : zS := fun as σ Ret => match as with
  | [.inr (.inr (9, 0, _)), .inl a, .inl i, .inl b, .inl j, .inl n] => q_S9 (q_gCopy a i b j n) (q_fCopy a i b j n) σ Ret
  | _ => False
def tX9_copy_0 (X : Nat → zB) (Ret : zR) (L : zL) (st : List zV) (σ : zM) : Prop := (z_iload 1 (z_cs1 SX5_isRow (z_ifeq (z_push (-1000001) (z_iret Ret)) (z_iload 3 (z_cs1 SX5_isRow (z_ifne (z_aload 0 (z_getr 9 3 5 0 (z_iload 1 (z_cv1 5 SX5_isThere (z_ifeq (z_aload 0 (z_push 1 (z_cv1 9 SX9_found (z_iret Ret)))) (z_aload 0 (z_getr 9 3 5 0 (z_iload 3 (z_cv1 5 SX5_isThere (z_ifne (z_aload 0 (z_getr 9 3 5 0 (z_iload 1 (z_iload 3 (z_cv2 5 SX5_areAlike (z_ifne (z_aload 0 (z_getr 9 3 5 0 (z_iload 1 (z_iload 2 (z_iload 5 (z_cv3 5 SX5_hasPlaces (z_ifeq (z_aload 0 (z_push 2 (z_cv1 9 SX9_found (z_iret Ret)))) (z_aload 0 (z_getr 9 3 5 0 (z_iload 3 (z_iload 4 (z_iload 5 (z_cv3 5 SX5_hasPlaces (z_ifne (z_aload 0 (z_getr 9 3 5 0 (z_iload 1 (z_iload 2 (z_iload 3 (z_iload 4 (z_iload 5 (z_cv5 5 SX5_move (z_aload 0 (z_iload 5 (z_cv1 9 SX9_passed (z_iret Ret)))))))))))) (z_aload 0 (z_push 2 (z_cv1 9 SX9_found (z_iret Ret)))))))))))))))))) (z_aload 0 (z_push 5 (z_cv1 9 SX9_found (z_iret Ret)))))))))) (z_aload 0 (z_push 1 (z_cv1 9 SX9_found (z_iret Ret)))))))))))))) (z_push (-1000001) (z_iret Ret)))))))) L st σ
theorem pX9_copy {as : List zV} {σ : zM} {Ret : zR} (h : SX9_copy as σ Ret) : ∃ (k0 : Nat) (x1 : Int) (x2 : Int) (x3 : Int) (x4 : Int) (x5 : Int), as = [.inr (.inr (9, 0, k0)), .inl x1, .inl x2, .inl x3, .inl x4, .inl x5] := by
  unfold SX9_copy at h
  split at h
  · exact ⟨_, _, _, _, _, _, rfl⟩
  · exact h.elim
set_option maxRecDepth 10000 in
set_option maxHeartbeats 4000000 in
theorem vX9_copy {X : Nat → zB} {Ret : zR} (h0 : ∀ L st σ, tX9_copy_0 X Ret L st σ → X 0 L st σ) (k0 : Nat) (x1 : Int) (x2 : Int) (x3 : Int) (x4 : Int) (x5 : Int) (σ : zM) (hk0 : z_kd k0 = (9, 0)) (hx1 : -2147483648 ≤ x1 ∧ x1 ≤ 2147483647) (hx2 : -2147483648 ≤ x2 ∧ x2 ≤ 2147483647) (hx3 : -2147483648 ≤ x3 ∧ x3 ≤ 2147483647) (hx4 : -2147483648 ≤ x4 ∧ x4 ≤ 2147483647) (hx5 : -2147483648 ≤ x5 ∧ x5 ≤ 2147483647) (hσ : z_okm σ) (h : SX9_copy [.inr (.inr (9, 0, k0)), .inl x1, .inl x2, .inl x3, .inl x4, .inl x5] σ Ret) : X 0 [some (.inr (.inr (9, 0, k0))), some (.inl x1), some (.inl x2), some (.inl x3), some (.inl x4), some (.inl x5)] [] σ := by
  obtain ⟨⟨R, m⟩, h⟩ := h
  obtain rfl := z_kd9 hk0
  by_cases c1 : ¬ ((0 ≤ x1 ∧ x1 < 8) ∧ 0 ≤ x3 ∧ x3 < 8)
  · have fin := h σ (fun _ _ => rfl) (by unfold q_fCopy; rw [if_pos c1]; exact R)
    simp only [q_gCopy, if_pos c1] at fin
    refine h0 _ _ _ ?_
    simp only [z_push, z_lpush, z_iload, z_lload, z_aload, z_istore, z_istoreP, z_lstore, z_astore, z_iinc, z_iincP, z_iadd, z_isub, z_imul, z_iaddW, z_isubW, z_imulW, z_idiv, z_irem, z_iand, z_ior, z_ixor, z_ishl, z_ishr, z_iushr, z_ineg, z_i2l, z_i2b, z_i2s, z_i2c, z_l2i, z_ladd, z_lsub, z_land, z_lor, z_lshl, z_lshr, z_lcmp, z_dup, z_pop, z_dup2, z_goto, z_tsw, z_cases, z_geti, z_getr, z_puti, z_putz, z_ald, z_iast, z_bast, z_zast, z_alen, z_acopy, z_mmax, z_mmin, z_mabs, z_mabsL, z_iret, z_zret, z_nret, z_lret, z_aret, z_vret, z_cat, z_ldcs, z_strv, z_strc, z_gcs, z_gfm, z_sln, z_sald, z_ifeq, z_ifne, z_iflt, z_ifge, z_ifgt, z_ifle, z_iceq, z_icne, z_iclt, z_icge, z_icgt, z_icle, z_cs0, z_cs1, z_cs2, z_cs3, z_cs4, z_cs5, z_cs6, z_cs7, z_cv0, z_cv1, z_cv2, z_cv3, z_cv4, z_cv5, z_cv6, z_cv7, z_g0, z_s0, z_g1, z_s1, z_g2, z_s2, z_g3, z_s3, z_g4, z_s4, z_g5, z_s5, z_g6, z_s6, z_g7, z_s7, z_g8, z_s8, z_g9, z_s9, z_g10, z_s10, z_g11, z_s11, z_g12, z_s12, z_g13, z_s13, z_b0, z_b1, z_b0n, z_b1n, z_up_far1, z_up_far2, z_up_far3, z_up_far4, z_up_far5, z_up_far6, Classical.not_not, not_true_eq_false, z_in, z_inL, Int.cast_ofNat_Int, Nat.reduceLeDiff, List.length_cons, List.length_nil, Nat.reduceAdd, Nat.zero_add, Nat.le_refl, true_and, and_true, List.length, Nat.reduceLT, true_or, or_true, false_or, or_false, false_and, and_false, not_true_eq_false, not_false_eq_true, forall_const, false_implies, true_implies, Int.reduceEq, Int.reduceLT, Int.reduceLE, Int.reduceAdd, Int.reduceSub, Int.reduceMul, Int.reduceNeg, Int.reduceToNat, Int.toNat_natCast, ↓reduceIte, reduceIte, Nat.reduceEqDiff, Nat.reduceSub, Nat.reduceMul, ne_eq, Int.zero_add, Int.add_zero, Int.sub_zero, Nat.add_zero, Int.ofNat_eq_natCast, tX9_copy_0, SX5_isRow]
    repeat' (first | (intro _) | (with_reducible assumption) | (refine And.intro ?_ ?_))
    all_goals first | omega | assumption | (refine z_fin fin ?_ rfl; first | rfl | omega | (split <;> omega) | (split <;> split <;> omega)) | skip
  obtain ⟨a, rfl⟩ := z_nat (show 0 ≤ x1 by omega)
  obtain ⟨b, rfl⟩ := z_nat (show 0 ≤ x3 by omega)
  have ha : a < 8 := by omega
  have hb : b < 8 := by omega
  obtain ⟨ga1, ga2⟩ := R.1 a ha
  obtain ⟨gb1, gb2⟩ := R.1 b hb
  obtain ⟨ma1, ma2⟩ := m.1 a ha
  obtain ⟨mb1, mb2⟩ := m.1 b hb
  have u9 : ∀ v c, c = 90 ∨ c = 91 → z_up σ 0 12 v c = σ c := fun v c hc => funext fun j => z_up_ne (by omega)
  have fnd : ∀ v, q_fCopy a x2 b x4 x5 (z_up σ 0 12 v) = z_up (z_up σ 0 12 v) 89 1 v → Ret (some (.inl (q_gCopy a x2 b x4 x5 σ))) (z_up σ 0 12 v) := by
    intro v e
    have fin := h (z_up σ 0 12 v) (q_up89 (by omega)) (by rw [e]; exact q_R2_fnd R v)
    have e2 : q_gCopy a x2 b x4 x5 (z_up σ 0 12 v) = q_gCopy a x2 b x4 x5 σ := by unfold q_gCopy; rw [u9 v 90 (by omega), u9 v 91 (by omega)]
    rw [e2] at fin
    exact fin
  have fex : ∀ v, q_fCopy a x2 b x4 x5 (z_up σ 0 12 v) = if ¬ (((0 : Int) ≤ a ∧ (a : Int) < 8) ∧ (0 : Int) ≤ b ∧ (b : Int) < 8) then z_up σ 0 12 v else if σ 90 a < 0 ∨ σ 90 b < 0 then z_up (z_up σ 0 12 v) 89 1 1 else if ¬ σ 90 a = σ 90 b then z_up (z_up σ 0 12 v) 89 1 5 else if ¬ (0 ≤ x2 ∧ 0 ≤ x4 ∧ 0 ≤ x5 ∧ x2 + x5 ≤ σ 91 a ∧ x4 + x5 ≤ σ 91 b) then z_up (z_up σ 0 12 v) 89 1 2 else z_cpy (z_up (z_up σ 0 12 v) 89 1 0) 92 (40 * a + x2.toNat) 92 (40 * b + x4.toNat) x5.toNat := by
    intro v
    unfold q_fCopy
    rw [u9 v 90 (by omega), u9 v 91 (by omega), Int.toNat_natCast, Int.toNat_natCast]
  have gex : q_gCopy a x2 b x4 x5 σ = if ¬ (((0 : Int) ≤ a ∧ (a : Int) < 8) ∧ (0 : Int) ≤ b ∧ (b : Int) < 8) then -1000001 else if σ 90 a < 0 ∨ σ 90 b < 0 then -1000011 else if ¬ σ 90 a = σ 90 b then -1000015 else if ¬ (0 ≤ x2 ∧ 0 ≤ x4 ∧ 0 ≤ x5 ∧ x2 + x5 ≤ σ 91 a ∧ x4 + x5 ≤ σ 91 b) then -1000012 else x5 := by
    unfold q_gCopy
    rw [Int.toNat_natCast, Int.toNat_natCast]
  by_cases c2 : σ 90 a < 0 ∨ σ 90 b < 0
  · have fin := fnd 1 (by rw [fex, if_neg c1, if_pos c2])
    rw [gex, if_neg c1, if_pos c2] at fin
    refine h0 _ _ _ ?_
    by_cases ca : σ 90 a < 0
    · rw [if_pos ca] at ga1
      simp only [z_push, z_lpush, z_iload, z_lload, z_aload, z_istore, z_istoreP, z_lstore, z_astore, z_iinc, z_iincP, z_iadd, z_isub, z_imul, z_iaddW, z_isubW, z_imulW, z_idiv, z_irem, z_iand, z_ior, z_ixor, z_ishl, z_ishr, z_iushr, z_ineg, z_i2l, z_i2b, z_i2s, z_i2c, z_l2i, z_ladd, z_lsub, z_land, z_lor, z_lshl, z_lshr, z_lcmp, z_dup, z_pop, z_dup2, z_goto, z_tsw, z_cases, z_geti, z_getr, z_puti, z_putz, z_ald, z_iast, z_bast, z_zast, z_alen, z_acopy, z_mmax, z_mmin, z_mabs, z_mabsL, z_iret, z_zret, z_nret, z_lret, z_aret, z_vret, z_cat, z_ldcs, z_strv, z_strc, z_gcs, z_gfm, z_sln, z_sald, z_ifeq, z_ifne, z_iflt, z_ifge, z_ifgt, z_ifle, z_iceq, z_icne, z_iclt, z_icge, z_icgt, z_icle, z_cs0, z_cs1, z_cs2, z_cs3, z_cs4, z_cs5, z_cs6, z_cs7, z_cv0, z_cv1, z_cv2, z_cv3, z_cv4, z_cv5, z_cv6, z_cv7, z_g0, z_s0, z_g1, z_s1, z_g2, z_s2, z_g3, z_s3, z_g4, z_s4, z_g5, z_s5, z_g6, z_s6, z_g7, z_s7, z_g8, z_s8, z_g9, z_s9, z_g10, z_s10, z_g11, z_s11, z_g12, z_s12, z_g13, z_s13, z_b0, z_b1, z_b0n, z_b1n, z_up_far1, z_up_far2, z_up_far3, z_up_far4, z_up_far5, z_up_far6, Classical.not_not, not_true_eq_false, z_in, z_inL, Int.cast_ofNat_Int, Nat.reduceLeDiff, List.length_cons, List.length_nil, Nat.reduceAdd, Nat.zero_add, Nat.le_refl, true_and, and_true, List.length, Nat.reduceLT, true_or, or_true, false_or, or_false, false_and, and_false, not_true_eq_false, not_false_eq_true, forall_const, false_implies, true_implies, Int.reduceEq, Int.reduceLT, Int.reduceLE, Int.reduceAdd, Int.reduceSub, Int.reduceMul, Int.reduceNeg, Int.reduceToNat, Int.toNat_natCast, ↓reduceIte, reduceIte, Nat.reduceEqDiff, Nat.reduceSub, Nat.reduceMul, ne_eq, Int.zero_add, Int.add_zero, Int.sub_zero, Nat.add_zero, Int.ofNat_eq_natCast, tX9_copy_0, SX5_isRow, SX5_isThere, SX9_found, ga1]
      repeat' (first | (intro _) | (with_reducible assumption) | (refine And.intro ?_ ?_))
      all_goals first | omega | assumption | (refine z_fin fin ?_ rfl; first | rfl | omega | (split <;> omega) | (split <;> split <;> omega)) | skip
    · rw [if_neg ca] at ga1
      rw [if_pos (by omega)] at gb1
      simp only [z_push, z_lpush, z_iload, z_lload, z_aload, z_istore, z_istoreP, z_lstore, z_astore, z_iinc, z_iincP, z_iadd, z_isub, z_imul, z_iaddW, z_isubW, z_imulW, z_idiv, z_irem, z_iand, z_ior, z_ixor, z_ishl, z_ishr, z_iushr, z_ineg, z_i2l, z_i2b, z_i2s, z_i2c, z_l2i, z_ladd, z_lsub, z_land, z_lor, z_lshl, z_lshr, z_lcmp, z_dup, z_pop, z_dup2, z_goto, z_tsw, z_cases, z_geti, z_getr, z_puti, z_putz, z_ald, z_iast, z_bast, z_zast, z_alen, z_acopy, z_mmax, z_mmin, z_mabs, z_mabsL, z_iret, z_zret, z_nret, z_lret, z_aret, z_vret, z_cat, z_ldcs, z_strv, z_strc, z_gcs, z_gfm, z_sln, z_sald, z_ifeq, z_ifne, z_iflt, z_ifge, z_ifgt, z_ifle, z_iceq, z_icne, z_iclt, z_icge, z_icgt, z_icle, z_cs0, z_cs1, z_cs2, z_cs3, z_cs4, z_cs5, z_cs6, z_cs7, z_cv0, z_cv1, z_cv2, z_cv3, z_cv4, z_cv5, z_cv6, z_cv7, z_g0, z_s0, z_g1, z_s1, z_g2, z_s2, z_g3, z_s3, z_g4, z_s4, z_g5, z_s5, z_g6, z_s6, z_g7, z_s7, z_g8, z_s8, z_g9, z_s9, z_g10, z_s10, z_g11, z_s11, z_g12, z_s12, z_g13, z_s13, z_b0, z_b1, z_b0n, z_b1n, z_up_far1, z_up_far2, z_up_far3, z_up_far4, z_up_far5, z_up_far6, Classical.not_not, not_true_eq_false, z_in, z_inL, Int.cast_ofNat_Int, Nat.reduceLeDiff, List.length_cons, List.length_nil, Nat.reduceAdd, Nat.zero_add, Nat.le_refl, true_and, and_true, List.length, Nat.reduceLT, true_or, or_true, false_or, or_false, false_and, and_false, not_true_eq_false, not_false_eq_true, forall_const, false_implies, true_implies, Int.reduceEq, Int.reduceLT, Int.reduceLE, Int.reduceAdd, Int.reduceSub, Int.reduceMul, Int.reduceNeg, Int.reduceToNat, Int.toNat_natCast, ↓reduceIte, reduceIte, Nat.reduceEqDiff, Nat.reduceSub, Nat.reduceMul, ne_eq, Int.zero_add, Int.add_zero, Int.sub_zero, Nat.add_zero, Int.ofNat_eq_natCast, tX9_copy_0, SX5_isRow, SX5_isThere, SX9_found, ga1, gb1]
      repeat' (first | (intro _) | (with_reducible assumption) | (refine And.intro ?_ ?_))
      all_goals first | omega | assumption | (refine z_fin fin ?_ rfl; first | rfl | omega | (split <;> omega) | (split <;> split <;> omega)) | skip
  rw [if_neg (by omega)] at ga1 gb1
  obtain ⟨ga3, ga4, ga5⟩ := ga2 (by omega)
  obtain ⟨gb3, gb4, gb5⟩ := gb2 (by omega)
  by_cases c3 : ¬ σ 90 a = σ 90 b
  · have fin := fnd 5 (by rw [fex, if_neg c1, if_neg c2, if_pos c3])
    rw [gex, if_neg c1, if_neg c2, if_pos c3] at fin
    refine h0 _ _ _ ?_
    simp only [z_push, z_lpush, z_iload, z_lload, z_aload, z_istore, z_istoreP, z_lstore, z_astore, z_iinc, z_iincP, z_iadd, z_isub, z_imul, z_iaddW, z_isubW, z_imulW, z_idiv, z_irem, z_iand, z_ior, z_ixor, z_ishl, z_ishr, z_iushr, z_ineg, z_i2l, z_i2b, z_i2s, z_i2c, z_l2i, z_ladd, z_lsub, z_land, z_lor, z_lshl, z_lshr, z_lcmp, z_dup, z_pop, z_dup2, z_goto, z_tsw, z_cases, z_geti, z_getr, z_puti, z_putz, z_ald, z_iast, z_bast, z_zast, z_alen, z_acopy, z_mmax, z_mmin, z_mabs, z_mabsL, z_iret, z_zret, z_nret, z_lret, z_aret, z_vret, z_cat, z_ldcs, z_strv, z_strc, z_gcs, z_gfm, z_sln, z_sald, z_ifeq, z_ifne, z_iflt, z_ifge, z_ifgt, z_ifle, z_iceq, z_icne, z_iclt, z_icge, z_icgt, z_icle, z_cs0, z_cs1, z_cs2, z_cs3, z_cs4, z_cs5, z_cs6, z_cs7, z_cv0, z_cv1, z_cv2, z_cv3, z_cv4, z_cv5, z_cv6, z_cv7, z_g0, z_s0, z_g1, z_s1, z_g2, z_s2, z_g3, z_s3, z_g4, z_s4, z_g5, z_s5, z_g6, z_s6, z_g7, z_s7, z_g8, z_s8, z_g9, z_s9, z_g10, z_s10, z_g11, z_s11, z_g12, z_s12, z_g13, z_s13, z_b0, z_b1, z_b0n, z_b1n, z_up_far1, z_up_far2, z_up_far3, z_up_far4, z_up_far5, z_up_far6, Classical.not_not, not_true_eq_false, z_in, z_inL, Int.cast_ofNat_Int, Nat.reduceLeDiff, List.length_cons, List.length_nil, Nat.reduceAdd, Nat.zero_add, Nat.le_refl, true_and, and_true, List.length, Nat.reduceLT, true_or, or_true, false_or, or_false, false_and, and_false, not_true_eq_false, not_false_eq_true, forall_const, false_implies, true_implies, Int.reduceEq, Int.reduceLT, Int.reduceLE, Int.reduceAdd, Int.reduceSub, Int.reduceMul, Int.reduceNeg, Int.reduceToNat, Int.toNat_natCast, ↓reduceIte, reduceIte, Nat.reduceEqDiff, Nat.reduceSub, Nat.reduceMul, ne_eq, Int.zero_add, Int.add_zero, Int.sub_zero, Nat.add_zero, Int.ofNat_eq_natCast, tX9_copy_0, SX5_isRow, SX5_isThere, SX5_areAlike, SX9_found, ga1, gb1, ga3, gb3]
    repeat' (first | (intro _) | (with_reducible assumption) | (refine And.intro ?_ ?_))
    all_goals first | omega | assumption | (refine z_fin fin ?_ rfl; first | rfl | omega | (split <;> omega) | (split <;> split <;> omega)) | skip
  by_cases c4 : ¬ (0 ≤ x2 ∧ 0 ≤ x4 ∧ 0 ≤ x5 ∧ x2 + x5 ≤ σ 91 a ∧ x4 + x5 ≤ σ 91 b)
  · have fin := fnd 2 (by rw [fex, if_neg c1, if_neg c2, if_neg c3, if_pos c4])
    rw [gex, if_neg c1, if_neg c2, if_neg c3, if_pos c4] at fin
    refine h0 _ _ _ ?_
    simp only [z_push, z_lpush, z_iload, z_lload, z_aload, z_istore, z_istoreP, z_lstore, z_astore, z_iinc, z_iincP, z_iadd, z_isub, z_imul, z_iaddW, z_isubW, z_imulW, z_idiv, z_irem, z_iand, z_ior, z_ixor, z_ishl, z_ishr, z_iushr, z_ineg, z_i2l, z_i2b, z_i2s, z_i2c, z_l2i, z_ladd, z_lsub, z_land, z_lor, z_lshl, z_lshr, z_lcmp, z_dup, z_pop, z_dup2, z_goto, z_tsw, z_cases, z_geti, z_getr, z_puti, z_putz, z_ald, z_iast, z_bast, z_zast, z_alen, z_acopy, z_mmax, z_mmin, z_mabs, z_mabsL, z_iret, z_zret, z_nret, z_lret, z_aret, z_vret, z_cat, z_ldcs, z_strv, z_strc, z_gcs, z_gfm, z_sln, z_sald, z_ifeq, z_ifne, z_iflt, z_ifge, z_ifgt, z_ifle, z_iceq, z_icne, z_iclt, z_icge, z_icgt, z_icle, z_cs0, z_cs1, z_cs2, z_cs3, z_cs4, z_cs5, z_cs6, z_cs7, z_cv0, z_cv1, z_cv2, z_cv3, z_cv4, z_cv5, z_cv6, z_cv7, z_g0, z_s0, z_g1, z_s1, z_g2, z_s2, z_g3, z_s3, z_g4, z_s4, z_g5, z_s5, z_g6, z_s6, z_g7, z_s7, z_g8, z_s8, z_g9, z_s9, z_g10, z_s10, z_g11, z_s11, z_g12, z_s12, z_g13, z_s13, z_b0, z_b1, z_b0n, z_b1n, z_up_far1, z_up_far2, z_up_far3, z_up_far4, z_up_far5, z_up_far6, Classical.not_not, not_true_eq_false, z_in, z_inL, Int.cast_ofNat_Int, Nat.reduceLeDiff, List.length_cons, List.length_nil, Nat.reduceAdd, Nat.zero_add, Nat.le_refl, true_and, and_true, List.length, Nat.reduceLT, true_or, or_true, false_or, or_false, false_and, and_false, not_true_eq_false, not_false_eq_true, forall_const, false_implies, true_implies, Int.reduceEq, Int.reduceLT, Int.reduceLE, Int.reduceAdd, Int.reduceSub, Int.reduceMul, Int.reduceNeg, Int.reduceToNat, Int.toNat_natCast, ↓reduceIte, reduceIte, Nat.reduceEqDiff, Nat.reduceSub, Nat.reduceMul, ne_eq, Int.zero_add, Int.add_zero, Int.sub_zero, Nat.add_zero, Int.ofNat_eq_natCast, tX9_copy_0, SX5_isRow, SX5_isThere, SX5_areAlike, SX5_hasPlaces, SX9_found, ga1, gb1, ga3, gb3, ga4, gb4]
    repeat' (first | (intro _) | (with_reducible assumption) | (refine And.intro ?_ ?_))
    all_goals first | omega | assumption | (refine z_fin fin ?_ rfl; first | rfl | omega | (split <;> omega) | (split <;> split <;> omega)) | skip
  obtain ⟨i, rfl⟩ := z_nat (show 0 ≤ x2 by omega)
  obtain ⟨j, rfl⟩ := z_nat (show 0 ≤ x4 by omega)
  obtain ⟨n, rfl⟩ := z_nat (show 0 ≤ x5 by omega)
  have r2 : q_R2 (z_up (z_cpy σ 7 (40 * a + i) 7 (40 * b + j) n) 0 12 0) (z_cpy (z_up (z_up (z_cpy σ 7 (40 * a + i) 7 (40 * b + j) n) 0 12 0) 89 1 0) 92 (40 * a + i) 92 (40 * b + j) n) := by
    refine q_R2_row R 0 (fun q hq => ?_) (fun c x h1 => ?_) (fun c x h1 h2 => ?_)
    · obtain ⟨g1, g2⟩ := R.1 q hq
      have := (m.1 q hq).2
      simp only [z_up, z_cpy]
      simp (disch := omega) only [if_neg, if_pos, ↓reduceIte, and_true, true_and, and_self]
      refine ⟨g1, fun hl => ⟨(g2 hl).1, (g2 hl).2.1, fun y hy => ?_⟩⟩
      by_cases e : 40 * b + j ≤ 40 * q + y ∧ 40 * q + y < 40 * b + j + n
      · have eq : q = b := by omega
        subst eq
        have e9 := ga5 (i + (y - j)) (by omega)
        have e10 : 40 * a + i + (40 * q + y - (40 * q + j)) = 40 * a + (i + (y - j)) := by omega
        rw [if_pos e, if_pos e, e10]
        exact e9
      · rw [if_neg e, if_neg e]
        exact (g2 hl).2.2 y hy
    · simp only [z_up, z_cpy]
      rw [if_neg (show ¬ (c = 7 ∧ 40 * b + j ≤ x ∧ x < 40 * b + j + n) by omega)]
    · simp only [z_up, z_cpy]
      simp (disch := omega) only [if_neg]
  have u7 : ∀ c, c = 90 ∨ c = 91 → z_up (z_cpy σ 7 (40 * a + i) 7 (40 * b + j) n) 0 12 0 c = σ c := fun c hc => funext fun x => by simp only [z_up, z_cpy]; simp (disch := omega) only [if_neg]
  have fin := h (z_up (z_cpy σ 7 (40 * a + i) 7 (40 * b + j) n) 0 12 0) (fun c hc => funext fun x => by simp only [z_up, z_cpy]; simp (disch := omega) only [if_neg]) (by
    unfold q_fCopy
    rw [u7 90 (by omega), u7 91 (by omega), Int.toNat_natCast, Int.toNat_natCast, Int.toNat_natCast, Int.toNat_natCast, Int.toNat_natCast, if_neg c1, if_neg c2, if_neg c3, if_neg c4]
    exact r2)
  have e2 : q_gCopy a i b j n (z_up (z_cpy σ 7 (40 * a + i) 7 (40 * b + j) n) 0 12 0) = q_gCopy a i b j n σ := by unfold q_gCopy; rw [u7 90 (by omega), u7 91 (by omega)]
  rw [e2, gex, if_neg c1, if_neg c2, if_neg c3, if_neg c4] at fin
  refine h0 _ _ _ ?_
  simp only [z_push, z_lpush, z_iload, z_lload, z_aload, z_istore, z_istoreP, z_lstore, z_astore, z_iinc, z_iincP, z_iadd, z_isub, z_imul, z_iaddW, z_isubW, z_imulW, z_idiv, z_irem, z_iand, z_ior, z_ixor, z_ishl, z_ishr, z_iushr, z_ineg, z_i2l, z_i2b, z_i2s, z_i2c, z_l2i, z_ladd, z_lsub, z_land, z_lor, z_lshl, z_lshr, z_lcmp, z_dup, z_pop, z_dup2, z_goto, z_tsw, z_cases, z_geti, z_getr, z_puti, z_putz, z_ald, z_iast, z_bast, z_zast, z_alen, z_acopy, z_mmax, z_mmin, z_mabs, z_mabsL, z_iret, z_zret, z_nret, z_lret, z_aret, z_vret, z_cat, z_ldcs, z_strv, z_strc, z_gcs, z_gfm, z_sln, z_sald, z_ifeq, z_ifne, z_iflt, z_ifge, z_ifgt, z_ifle, z_iceq, z_icne, z_iclt, z_icge, z_icgt, z_icle, z_cs0, z_cs1, z_cs2, z_cs3, z_cs4, z_cs5, z_cs6, z_cs7, z_cv0, z_cv1, z_cv2, z_cv3, z_cv4, z_cv5, z_cv6, z_cv7, z_g0, z_s0, z_g1, z_s1, z_g2, z_s2, z_g3, z_s3, z_g4, z_s4, z_g5, z_s5, z_g6, z_s6, z_g7, z_s7, z_g8, z_s8, z_g9, z_s9, z_g10, z_s10, z_g11, z_s11, z_g12, z_s12, z_g13, z_s13, z_b0, z_b1, z_b0n, z_b1n, z_up_far1, z_up_far2, z_up_far3, z_up_far4, z_up_far5, z_up_far6, Classical.not_not, not_true_eq_false, z_in, z_inL, Int.cast_ofNat_Int, Nat.reduceLeDiff, List.length_cons, List.length_nil, Nat.reduceAdd, Nat.zero_add, Nat.le_refl, true_and, and_true, List.length, Nat.reduceLT, true_or, or_true, false_or, or_false, false_and, and_false, not_true_eq_false, not_false_eq_true, forall_const, false_implies, true_implies, Int.reduceEq, Int.reduceLT, Int.reduceLE, Int.reduceAdd, Int.reduceSub, Int.reduceMul, Int.reduceNeg, Int.reduceToNat, Int.toNat_natCast, ↓reduceIte, reduceIte, Nat.reduceEqDiff, Nat.reduceSub, Nat.reduceMul, ne_eq, Int.zero_add, Int.add_zero, Int.sub_zero, Nat.add_zero, Int.ofNat_eq_natCast, tX9_copy_0, SX5_isRow, SX5_isThere, SX5_areAlike, SX5_hasPlaces, SX5_move, SX9_passed, ga1, gb1, ga3, gb3, ga4, gb4]
  repeat' (first | (intro _) | (with_reducible assumption) | (refine And.intro ?_ ?_))
  all_goals first | omega | assumption | (refine z_fin fin ?_ rfl; first | rfl | omega | (split <;> omega) | (split <;> split <;> omega)) | skip
theorem dX9_copy_0 : decode cX9_copy 0 = .ok (.iload_n 1, 1) := by decide +kernel
theorem dX9_copy_1 : decode cX9_copy 1 = .ok (.invokestatic 71, 3) := by decide +kernel
theorem dX9_copy_4 : decode cX9_copy 4 = .ok (.ifCond .eq 10, 3) := by decide +kernel
theorem dX9_copy_7 : decode cX9_copy 7 = .ok (.iload_n 3, 1) := by decide +kernel
theorem dX9_copy_8 : decode cX9_copy 8 = .ok (.invokestatic 71, 3) := by decide +kernel
theorem dX9_copy_11 : decode cX9_copy 11 = .ok (.ifCond .ne 6, 3) := by decide +kernel
theorem dX9_copy_14 : decode cX9_copy 14 = .ok (.ldc 75, 2) := by decide +kernel
theorem dX9_copy_16 : decode cX9_copy 16 = .ok (.ireturn, 1) := by decide +kernel
theorem dX9_copy_17 : decode cX9_copy 17 = .ok (.aload_n 0, 1) := by decide +kernel
theorem dX9_copy_18 : decode cX9_copy 18 = .ok (.getfield 19, 3) := by decide +kernel
theorem dX9_copy_21 : decode cX9_copy 21 = .ok (.iload_n 1, 1) := by decide +kernel
theorem dX9_copy_22 : decode cX9_copy 22 = .ok (.invokevirtual 87, 3) := by decide +kernel
theorem dX9_copy_25 : decode cX9_copy 25 = .ok (.ifCond .eq 14, 3) := by decide +kernel
theorem dX9_copy_28 : decode cX9_copy 28 = .ok (.aload_n 0, 1) := by decide +kernel
theorem dX9_copy_29 : decode cX9_copy 29 = .ok (.getfield 19, 3) := by decide +kernel
theorem dX9_copy_32 : decode cX9_copy 32 = .ok (.iload_n 3, 1) := by decide +kernel
theorem dX9_copy_33 : decode cX9_copy 33 = .ok (.invokevirtual 87, 3) := by decide +kernel
theorem dX9_copy_36 : decode cX9_copy 36 = .ok (.ifCond .ne 9, 3) := by decide +kernel
theorem dX9_copy_39 : decode cX9_copy 39 = .ok (.aload_n 0, 1) := by decide +kernel
theorem dX9_copy_40 : decode cX9_copy 40 = .ok (.iconst 1, 1) := by decide +kernel
theorem dX9_copy_41 : decode cX9_copy 41 = .ok (.invokevirtual 76, 3) := by decide +kernel
theorem dX9_copy_44 : decode cX9_copy 44 = .ok (.ireturn, 1) := by decide +kernel
theorem dX9_copy_45 : decode cX9_copy 45 = .ok (.aload_n 0, 1) := by decide +kernel
theorem dX9_copy_46 : decode cX9_copy 46 = .ok (.getfield 19, 3) := by decide +kernel
theorem dX9_copy_49 : decode cX9_copy 49 = .ok (.iload_n 1, 1) := by decide +kernel
theorem dX9_copy_50 : decode cX9_copy 50 = .ok (.iload_n 3, 1) := by decide +kernel
theorem dX9_copy_51 : decode cX9_copy 51 = .ok (.invokevirtual 98, 3) := by decide +kernel
theorem dX9_copy_54 : decode cX9_copy 54 = .ok (.ifCond .ne 9, 3) := by decide +kernel
theorem dX9_copy_57 : decode cX9_copy 57 = .ok (.aload_n 0, 1) := by decide +kernel
theorem dX9_copy_58 : decode cX9_copy 58 = .ok (.iconst 5, 1) := by decide +kernel
theorem dX9_copy_59 : decode cX9_copy 59 = .ok (.invokevirtual 76, 3) := by decide +kernel
theorem dX9_copy_62 : decode cX9_copy 62 = .ok (.ireturn, 1) := by decide +kernel
theorem dX9_copy_63 : decode cX9_copy 63 = .ok (.aload_n 0, 1) := by decide +kernel
theorem dX9_copy_64 : decode cX9_copy 64 = .ok (.getfield 19, 3) := by decide +kernel
theorem dX9_copy_67 : decode cX9_copy 67 = .ok (.iload_n 1, 1) := by decide +kernel
theorem dX9_copy_68 : decode cX9_copy 68 = .ok (.iload_n 2, 1) := by decide +kernel
theorem dX9_copy_69 : decode cX9_copy 69 = .ok (.iload 5, 2) := by decide +kernel
theorem dX9_copy_71 : decode cX9_copy 71 = .ok (.invokevirtual 90, 3) := by decide +kernel
theorem dX9_copy_74 : decode cX9_copy 74 = .ok (.ifCond .eq 18, 3) := by decide +kernel
theorem dX9_copy_77 : decode cX9_copy 77 = .ok (.aload_n 0, 1) := by decide +kernel
theorem dX9_copy_78 : decode cX9_copy 78 = .ok (.getfield 19, 3) := by decide +kernel
theorem dX9_copy_81 : decode cX9_copy 81 = .ok (.iload_n 3, 1) := by decide +kernel
theorem dX9_copy_82 : decode cX9_copy 82 = .ok (.iload 4, 2) := by decide +kernel
theorem dX9_copy_84 : decode cX9_copy 84 = .ok (.iload 5, 2) := by decide +kernel
theorem dX9_copy_86 : decode cX9_copy 86 = .ok (.invokevirtual 90, 3) := by decide +kernel
theorem dX9_copy_89 : decode cX9_copy 89 = .ok (.ifCond .ne 9, 3) := by decide +kernel
theorem dX9_copy_92 : decode cX9_copy 92 = .ok (.aload_n 0, 1) := by decide +kernel
theorem dX9_copy_93 : decode cX9_copy 93 = .ok (.iconst 2, 1) := by decide +kernel
theorem dX9_copy_94 : decode cX9_copy 94 = .ok (.invokevirtual 76, 3) := by decide +kernel
theorem dX9_copy_97 : decode cX9_copy 97 = .ok (.ireturn, 1) := by decide +kernel
theorem dX9_copy_98 : decode cX9_copy 98 = .ok (.aload_n 0, 1) := by decide +kernel
theorem dX9_copy_99 : decode cX9_copy 99 = .ok (.getfield 19, 3) := by decide +kernel
theorem dX9_copy_102 : decode cX9_copy 102 = .ok (.iload_n 1, 1) := by decide +kernel
theorem dX9_copy_103 : decode cX9_copy 103 = .ok (.iload_n 2, 1) := by decide +kernel
theorem dX9_copy_104 : decode cX9_copy 104 = .ok (.iload_n 3, 1) := by decide +kernel
theorem dX9_copy_105 : decode cX9_copy 105 = .ok (.iload 4, 2) := by decide +kernel
theorem dX9_copy_107 : decode cX9_copy 107 = .ok (.iload 5, 2) := by decide +kernel
theorem dX9_copy_109 : decode cX9_copy 109 = .ok (.invokevirtual 102, 3) := by decide +kernel
theorem dX9_copy_112 : decode cX9_copy 112 = .ok (.aload_n 0, 1) := by decide +kernel
theorem dX9_copy_113 : decode cX9_copy 113 = .ok (.iload 5, 2) := by decide +kernel
theorem dX9_copy_115 : decode cX9_copy 115 = .ok (.invokevirtual 84, 3) := by decide +kernel
theorem dX9_copy_118 : decode cX9_copy 118 = .ok (.ireturn, 1) := by decide +kernel
set_option maxRecDepth 100000 in
theorem rX9_copy_0 {p : Program} {l : Launch} {e : Env} {s : State} {m : MethodId} {args : Array Value} {below : List Frame} {meth : Method} {c : Code} {D : va_G} {cA : Nat → ClassId} {ad : Nat → Nat} {Ret : zR} (C : z_Cx p { frames := 4, cells := 0, slots := 0, locals := 89 } s m args c cX9_copy yX9_copy.cls 6 D cA ad) (hr : meth.sig.returnType = (some .int)) (hlocks : meth.locks = false) : ∀ L st σ, tX9_copy_0 (z_X p l e { frames := 4, cells := 0, slots := 0, locals := 89 } s m args below meth c (MQ below (z_Qc D cA ad Ret) args s 0 0 (z_A ad)) 6 D cA ad true) Ret L st σ → z_X p l e { frames := 4, cells := 0, slots := 0, locals := 89 } s m args below meth c (MQ below (z_Qc D cA ad Ret) args s 0 0 (z_A ad)) 6 D cA ad true 0 L st σ := (s_iload_n C dX9_copy_0 rfl (s_cs1 C dX9_copy_1 (okX5_isRow l) wd_401 wd_402 wd_77 wd_403 ⟨by decide, by decide, by decide +kernel⟩ ⟨by decide, by decide⟩ (s_ifeq C dX9_copy_4 (by decide) (s_ldc C dX9_copy_14 (v := -1000001) wd_404 ⟨by decide, by decide⟩ (s_iret C dX9_copy_16 hr hlocks)) (s_iload_n C dX9_copy_7 rfl (s_cs1 C dX9_copy_8 (okX5_isRow l) wd_401 wd_402 wd_77 wd_403 ⟨by decide, by decide, by decide +kernel⟩ ⟨by decide, by decide⟩ (s_ifne C dX9_copy_11 (by decide) (s_aload_n C dX9_copy_17 rfl (s_getr C dX9_copy_18 (j := 1) cls_X9 (by decide) rfl (by decide) (by decide) (by decide +kernel) wd_358 (s_iload_n C dX9_copy_21 rfl (s_cv1 C dX9_copy_22 (okX5_isThere l) cls_X5 wd_423 wd_424 wd_425 wd_77 wd_426 ⟨by decide, by decide, by decide +kernel⟩ ⟨by decide, by decide⟩ (s_ifeq C dX9_copy_25 (by decide) (s_aload_n C dX9_copy_39 rfl (s_iconst C dX9_copy_40 rfl ⟨by decide, by decide⟩ (s_cv1 C dX9_copy_41 (okX9_found l) cls_X9 wd_405 wd_407 wd_0 wd_75 wd_408 ⟨by decide, by decide, by decide +kernel⟩ ⟨by decide, by decide⟩ (s_iret C dX9_copy_44 hr hlocks)))) (s_aload_n C dX9_copy_28 rfl (s_getr C dX9_copy_29 (j := 1) cls_X9 (by decide) rfl (by decide) (by decide) (by decide +kernel) wd_358 (s_iload_n C dX9_copy_32 rfl (s_cv1 C dX9_copy_33 (okX5_isThere l) cls_X5 wd_423 wd_424 wd_425 wd_77 wd_426 ⟨by decide, by decide, by decide +kernel⟩ ⟨by decide, by decide⟩ (s_ifne C dX9_copy_36 (by decide) (s_aload_n C dX9_copy_45 rfl (s_getr C dX9_copy_46 (j := 1) cls_X9 (by decide) rfl (by decide) (by decide) (by decide +kernel) wd_358 (s_iload_n C dX9_copy_49 rfl (s_iload_n C dX9_copy_50 rfl (s_cv2 C dX9_copy_51 (okX5_areAlike l) cls_X5 wd_441 wd_442 wd_443 wd_77 wd_444 ⟨by decide, by decide, by decide +kernel⟩ ⟨by decide, by decide⟩ (s_ifne C dX9_copy_54 (by decide) (s_aload_n C dX9_copy_63 rfl (s_getr C dX9_copy_64 (j := 1) cls_X9 (by decide) rfl (by decide) (by decide) (by decide +kernel) wd_358 (s_iload_n C dX9_copy_67 rfl (s_iload_n C dX9_copy_68 rfl (s_iload C dX9_copy_69 (s_cv3 C dX9_copy_71 (okX5_hasPlaces l) cls_X5 wd_427 wd_428 wd_429 wd_77 wd_430 ⟨by decide, by decide, by decide +kernel⟩ ⟨by decide, by decide⟩ (s_ifeq C dX9_copy_74 (by decide) (s_aload_n C dX9_copy_92 rfl (s_iconst C dX9_copy_93 rfl ⟨by decide, by decide⟩ (s_cv1 C dX9_copy_94 (okX9_found l) cls_X9 wd_405 wd_407 wd_0 wd_75 wd_408 ⟨by decide, by decide, by decide +kernel⟩ ⟨by decide, by decide⟩ (s_iret C dX9_copy_97 hr hlocks)))) (s_aload_n C dX9_copy_77 rfl (s_getr C dX9_copy_78 (j := 1) cls_X9 (by decide) rfl (by decide) (by decide) (by decide +kernel) wd_358 (s_iload_n C dX9_copy_81 rfl (s_iload C dX9_copy_82 (s_iload C dX9_copy_84 (s_cv3 C dX9_copy_86 (okX5_hasPlaces l) cls_X5 wd_427 wd_428 wd_429 wd_77 wd_430 ⟨by decide, by decide, by decide +kernel⟩ ⟨by decide, by decide⟩ (s_ifne C dX9_copy_89 (by decide) (s_aload_n C dX9_copy_98 rfl (s_getr C dX9_copy_99 (j := 1) cls_X9 (by decide) rfl (by decide) (by decide) (by decide +kernel) wd_358 (s_iload_n C dX9_copy_102 rfl (s_iload_n C dX9_copy_103 rfl (s_iload_n C dX9_copy_104 rfl (s_iload C dX9_copy_105 (s_iload C dX9_copy_107 (s_cv5 C dX9_copy_109 (okX5_move l) cls_X5 wd_445 wd_446 wd_447 wd_77 wd_448 ⟨by decide, by decide, by decide +kernel⟩ ⟨by decide, by decide⟩ (s_aload_n C dX9_copy_112 rfl (s_iload C dX9_copy_113 (s_cv1 C dX9_copy_115 (okX9_passed l) cls_X9 wd_415 wd_417 wd_1 wd_75 wd_418 ⟨by decide, by decide, by decide +kernel⟩ ⟨by decide, by decide⟩ (s_iret C dX9_copy_118 hr hlocks)))))))))))) (s_aload_n C dX9_copy_92 rfl (s_iconst C dX9_copy_93 rfl ⟨by decide, by decide⟩ (s_cv1 C dX9_copy_94 (okX9_found l) cls_X9 wd_405 wd_407 wd_0 wd_75 wd_408 ⟨by decide, by decide, by decide +kernel⟩ ⟨by decide, by decide⟩ (s_iret C dX9_copy_97 hr hlocks)))))))))))))))))) (s_aload_n C dX9_copy_57 rfl (s_iconst C dX9_copy_58 rfl ⟨by decide, by decide⟩ (s_cv1 C dX9_copy_59 (okX9_found l) cls_X9 wd_405 wd_407 wd_0 wd_75 wd_408 ⟨by decide, by decide, by decide +kernel⟩ ⟨by decide, by decide⟩ (s_iret C dX9_copy_62 hr hlocks)))))))))) (s_aload_n C dX9_copy_39 rfl (s_iconst C dX9_copy_40 rfl ⟨by decide, by decide⟩ (s_cv1 C dX9_copy_41 (okX9_found l) cls_X9 wd_405 wd_407 wd_0 wd_75 wd_408 ⟨by decide, by decide, by decide +kernel⟩ ⟨by decide, by decide⟩ (s_iret C dX9_copy_44 hr hlocks)))))))))))))) (s_ldc C dX9_copy_14 (v := -1000001) wd_404 ⟨by decide, by decide⟩ (s_iret C dX9_copy_16 hr hlocks))))))))
theorem okX9_copy (l : Launch) : z_OK l yX9_copy cX9_copy 6 (some .int) 4 89 SX9_copy := by
  refine z_ok_of true (by decide +kernel) ?_ ?_
  · intro as σ Ret h
    obtain ⟨k0, x1, x2, x3, x4, x5, rfl⟩ := pX9_copy h
    exact ⟨Nat.le_of_ble_eq_true rfl, by simp⟩
  · intro p e s m args below meth c D cA ad Ret C hr hlocks as σ has hσ h
    obtain ⟨k0, x1, x2, x3, x4, x5, rfl⟩ := pX9_copy h
    exact vX9_copy (rX9_copy_0 C hr hlocks) k0 x1 x2 x3 x4 x5 σ (has _ (List.mem_of_getElem? (i := 0) rfl)) (has _ (List.mem_of_getElem? (i := 1) rfl)) (has _ (List.mem_of_getElem? (i := 2) rfl)) (has _ (List.mem_of_getElem? (i := 3) rfl)) (has _ (List.mem_of_getElem? (i := 4) rfl)) (has _ (List.mem_of_getElem? (i := 5) rfl)) hσ h
