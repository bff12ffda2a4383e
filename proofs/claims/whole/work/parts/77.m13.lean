/-! images and hung, asked of the model -/
theorem z_cpy_0 {σ : zM} {k1 s k2 d : Nat} : z_cpy σ k1 s k2 d 0 = σ := by
  funext a b
  unfold z_cpy
  rw [if_neg (by omega)]
theorem z_cpy_S {σ : zM} {k1 s k2 d n : Nat} : z_up (z_cpy σ k1 s k2 d n) k2 (d + n) (σ k1 (s + n)) = z_cpy σ k1 s k2 d (n + 1) := by
  funext a b
  unfold z_up z_cpy
  by_cases e : a = k2 ∧ b = d + n
  · rw [if_pos e, if_pos (by omega), e.2, Nat.add_sub_cancel_left]
  · rw [if_neg e]
    by_cases e2 : a = k2 ∧ d ≤ b ∧ b < d + n
    · rw [if_pos e2, if_pos (by omega)]
    · rw [if_neg e2, if_neg (by omega)]
theorem z_cpy_ne {σ : zM} {k1 s k2 d n a b : Nat} (h : a ≠ k2) : z_cpy σ k1 s k2 d n a b = σ a b := by
  unfold z_cpy
  rw [if_neg (by omega)]
def SX10_image : zS := fun as σ Ret => match as with
  | [.inr (.inr (10, 0, _)), .inl k] => q_S10 (q_gImage k) (q_fImage k) σ Ret
  | _ => False
def tX10_image_0 (X : Nat → zB) (Ret : zR) (L : zL) (st : List zV) (σ : zM) : Prop := (z_aload 0 (z_push 0 (z_puti 10 0 (z_iload 1 (z_i2l (z_lpush 0 (z_lpush 1 (z_cs3 SX10_in (z_ifne (z_aload 0 (z_geti 10 7 (z_ifne (z_push 0 (z_istore 2 (X 30))) (z_push (-1000002) (z_iret Ret))))) (z_push (-1000001) (z_iret Ret))))))))))) L st σ
def tX10_image_30 (X : Nat → zB) (Ret : zR) (L : zL) (st : List zV) (σ : zM) : Prop := (z_iload 2 (z_push 106 (z_icge (z_push 0 (z_istore 2 (X 61))) (z_aload 0 (z_getr 10 16 100 212 (z_push 106 (z_iload 1 (z_imul (z_iload 2 (z_iadd (z_aload 0 (z_getr 10 4 100 106 (z_iload 2 (z_ald 0 (z_iast (z_iinc 2 1 (z_goto (X 30)))))))))))))))))) L st σ
def tX10_image_61 (X : Nat → zB) (Ret : zR) (L : zL) (st : List zV) (σ : zM) : Prop := (z_iload 2 (z_push 180 (z_icge (z_aload 0 (z_getr 10 15 102 2 (z_iload 1 (z_push 1 (z_zast (z_push 1 (z_iret Ret))))))) (z_aload 0 (z_getr 10 17 100 360 (z_push 180 (z_iload 1 (z_imul (z_iload 2 (z_iadd (z_aload 0 (z_getr 10 6 100 180 (z_iload 2 (z_ald 0 (z_iast (z_iinc 2 1 (z_goto (X 61)))))))))))))))))) L st σ
theorem pX10_image {as : List zV} {σ : zM} {Ret : zR} (h : SX10_image as σ Ret) : ∃ (k0 : Nat) (x1 : Int), as = [.inr (.inr (10, 0, k0)), .inl x1] := by
  unfold SX10_image at h
  split at h
  · exact ⟨_, _, rfl⟩
  · exact h.elim
set_option maxRecDepth 10000 in
set_option maxHeartbeats 4000000 in
theorem vX10_image {X : Nat → zB} {Ret : zR} (h0 : ∀ L st σ, tX10_image_0 X Ret L st σ → X 0 L st σ) (h30 : ∀ L st σ, tX10_image_30 X Ret L st σ → X 30 L st σ) (h61 : ∀ L st σ, tX10_image_61 X Ret L st σ → X 61 L st σ) (k0 : Nat) (x1 : Int) (σ : zM) (hk0 : z_kd k0 = (10, 0)) (hx1 : -2147483648 ≤ x1 ∧ x1 ≤ 2147483647) (hσ : z_okm σ) (h : SX10_image [.inr (.inr (10, 0, k0)), .inl x1] σ Ret) : X 0 [some (.inr (.inr (10, 0, k0))), some (.inl x1), none] [] σ := by
  obtain ⟨m, h⟩ := h
  obtain rfl := z_kd10 hk0
  have e7 : z_up σ 89 0 0 89 7 = σ 89 7 := z_up_ne (by omega)
  by_cases c2 : ¬ (0 ≤ x1 ∧ x1 ≤ 1)
  · have fin := h (z_up σ 89 0 0) q_th.1 (by unfold q_fImage; rw [if_pos c2]; exact q_th.2)
    simp only [q_gImage, if_pos c2] at fin
    refine h0 _ _ _ ?_
    simp only [z_push, z_lpush, z_iload, z_lload, z_aload, z_istore, z_istoreP, z_lstore, z_astore, z_iinc, z_iincP, z_iadd, z_isub, z_imul, z_iaddW, z_isubW, z_imulW, z_idiv, z_irem, z_iand, z_ior, z_ixor, z_ishl, z_ishr, z_iushr, z_ineg, z_i2l, z_i2b, z_i2s, z_i2c, z_l2i, z_ladd, z_lsub, z_land, z_lor, z_lshl, z_lshr, z_lcmp, z_dup, z_pop, z_dup2, z_goto, z_tsw, z_cases, z_geti, z_getr, z_puti, z_putz, z_ald, z_iast, z_bast, z_zast, z_alen, z_acopy, z_mmax, z_mmin, z_mabs, z_mabsL, z_iret, z_zret, z_nret, z_lret, z_aret, z_vret, z_cat, z_ldcs, z_strv, z_strc, z_gcs, z_gfm, z_sln, z_sald, z_ifeq, z_ifne, z_iflt, z_ifge, z_ifgt, z_ifle, z_iceq, z_icne, z_iclt, z_icge, z_icgt, z_icle, z_cs0, z_cs1, z_cs2, z_cs3, z_cs4, z_cs5, z_cs6, z_cs7, z_cv0, z_cv1, z_cv2, z_cv3, z_cv4, z_cv5, z_cv6, z_cv7, z_g0, z_s0, z_g1, z_s1, z_g2, z_s2, z_g3, z_s3, z_g4, z_s4, z_g5, z_s5, z_g6, z_s6, z_g7, z_s7, z_g8, z_s8, z_g9, z_s9, z_g10, z_s10, z_g11, z_s11, z_g12, z_s12, z_g13, z_s13, z_b0, z_b1, z_b0n, z_b1n, z_up_far1, z_up_far2, z_up_far3, z_up_far4, z_up_far5, z_up_far6, Classical.not_not, not_true_eq_false, z_in, z_inL, Int.cast_ofNat_Int, Nat.reduceLeDiff, List.length_cons, List.length_nil, Nat.reduceAdd, Nat.zero_add, Nat.le_refl, true_and, and_true, List.length, Nat.reduceLT, true_or, or_true, false_or, or_false, false_and, and_false, not_true_eq_false, not_false_eq_true, forall_const, false_implies, true_implies, Int.reduceEq, Int.reduceLT, Int.reduceLE, Int.reduceAdd, Int.reduceSub, Int.reduceMul, Int.reduceNeg, Int.reduceToNat, Int.toNat_natCast, ↓reduceIte, reduceIte, Nat.reduceEqDiff, Nat.reduceSub, Nat.reduceMul, ne_eq, Int.zero_add, Int.add_zero, Int.sub_zero, Nat.add_zero, Int.ofNat_eq_natCast, tX10_image_0, SX10_in]
    repeat' (first | (intro _) | (with_reducible assumption) | (refine And.intro ?_ ?_))
    all_goals first | omega | assumption | (refine z_fin fin ?_ rfl; first | rfl | omega | (split <;> omega) | (split <;> split <;> omega)) | skip
  by_cases c1 : σ 89 7 = 0
  · have fin := h (z_up σ 89 0 0) q_th.1 (by unfold q_fImage; rw [if_neg c2, if_pos c1]; exact q_th.2)
    simp only [q_gImage, if_neg c2, if_pos c1] at fin
    rw [c1] at e7
    refine h0 _ _ _ ?_
    simp only [z_push, z_lpush, z_iload, z_lload, z_aload, z_istore, z_istoreP, z_lstore, z_astore, z_iinc, z_iincP, z_iadd, z_isub, z_imul, z_iaddW, z_isubW, z_imulW, z_idiv, z_irem, z_iand, z_ior, z_ixor, z_ishl, z_ishr, z_iushr, z_ineg, z_i2l, z_i2b, z_i2s, z_i2c, z_l2i, z_ladd, z_lsub, z_land, z_lor, z_lshl, z_lshr, z_lcmp, z_dup, z_pop, z_dup2, z_goto, z_tsw, z_cases, z_geti, z_getr, z_puti, z_putz, z_ald, z_iast, z_bast, z_zast, z_alen, z_acopy, z_mmax, z_mmin, z_mabs, z_mabsL, z_iret, z_zret, z_nret, z_lret, z_aret, z_vret, z_cat, z_ldcs, z_strv, z_strc, z_gcs, z_gfm, z_sln, z_sald, z_ifeq, z_ifne, z_iflt, z_ifge, z_ifgt, z_ifle, z_iceq, z_icne, z_iclt, z_icge, z_icgt, z_icle, z_cs0, z_cs1, z_cs2, z_cs3, z_cs4, z_cs5, z_cs6, z_cs7, z_cv0, z_cv1, z_cv2, z_cv3, z_cv4, z_cv5, z_cv6, z_cv7, z_g0, z_s0, z_g1, z_s1, z_g2, z_s2, z_g3, z_s3, z_g4, z_s4, z_g5, z_s5, z_g6, z_s6, z_g7, z_s7, z_g8, z_s8, z_g9, z_s9, z_g10, z_s10, z_g11, z_s11, z_g12, z_s12, z_g13, z_s13, z_b0, z_b1, z_b0n, z_b1n, z_up_far1, z_up_far2, z_up_far3, z_up_far4, z_up_far5, z_up_far6, Classical.not_not, not_true_eq_false, z_in, z_inL, Int.cast_ofNat_Int, Nat.reduceLeDiff, List.length_cons, List.length_nil, Nat.reduceAdd, Nat.zero_add, Nat.le_refl, true_and, and_true, List.length, Nat.reduceLT, true_or, or_true, false_or, or_false, false_and, and_false, not_true_eq_false, not_false_eq_true, forall_const, false_implies, true_implies, Int.reduceEq, Int.reduceLT, Int.reduceLE, Int.reduceAdd, Int.reduceSub, Int.reduceMul, Int.reduceNeg, Int.reduceToNat, Int.toNat_natCast, ↓reduceIte, reduceIte, Nat.reduceEqDiff, Nat.reduceSub, Nat.reduceMul, ne_eq, Int.zero_add, Int.add_zero, Int.sub_zero, Nat.add_zero, Int.ofNat_eq_natCast, tX10_image_0, SX10_in, e7]
    repeat' (first | (intro _) | (with_reducible assumption) | (refine And.intro ?_ ?_))
    all_goals first | omega | assumption | (refine z_fin fin ?_ rfl; first | rfl | omega | (split <;> omega) | (split <;> split <;> omega)) | skip
  obtain ⟨k, rfl⟩ := z_nat (show 0 ≤ x1 by omega)
  generalize hb : z_up σ 89 0 0 = B
  generalize hb2 : z_cpy B 93 0 105 (106 * k) 106 = B2
  have fin := h (z_up (z_cpy B2 95 0 106 (180 * k) 180) 104 k 1) (fun c hc => funext fun j => by subst hb2 hb; rw [z_up_ne (by omega), z_cpy_ne (by omega), z_cpy_ne (by omega), z_up_ne (by omega)]) (fun a j hc => by
    subst hb2 hb
    unfold q_fImage
    rw [if_neg c2, if_neg c1, Int.toNat_natCast]
    unfold q_last at hc
    simp only [q_kp, z_cpy, z_up]
    by_cases a5 : a = 105
    · subst a5
      rw [if_neg (by omega), if_neg (by omega)]
      by_cases e : 106 * k ≤ j ∧ j < 106 * k + 106
      · rw [if_pos (by omega), if_neg (by omega), if_pos (by omega), Nat.zero_add]
      · rw [if_neg (by omega), if_neg (by omega), if_neg (by omega), if_neg (by omega), if_neg (by omega)]
    · by_cases a6 : a = 106
      · subst a6
        rw [if_neg (by omega)]
        by_cases e : 180 * k ≤ j ∧ j < 180 * k + 180
        · rw [if_pos (by omega), if_neg (by omega), if_neg (by omega), if_neg (by omega), if_pos (by omega), Nat.zero_add]
        · rw [if_neg (by omega), if_neg (by omega), if_neg (by omega), if_neg (by omega), if_neg (by omega), if_neg (by omega)]
      · by_cases a4 : a = 104 ∧ j = k
        · rw [if_pos a4, if_neg (by omega), if_neg (by omega), if_pos a4]
        · rw [if_neg a4, if_neg (by omega), if_neg (by omega), if_neg (by omega), if_neg (by omega), if_neg (by omega), if_neg a4])
  simp only [q_gImage, if_neg c2, if_neg c1] at fin
  have L61 : ∀ (d i : Nat), i + d = 180 → X 61 [some (.inr (.inr (10, 0, 89))), some (.inl (k : Int)), some (.inl (i : Int))] [] (z_cpy B2 95 0 106 (180 * k) i) := by
    intro d
    induction d with
    | zero =>
      intro i hi
      obtain rfl : i = 180 := by omega
      refine h61 _ _ _ ?_
      simp only [z_push, z_lpush, z_iload, z_lload, z_aload, z_istore, z_istoreP, z_lstore, z_astore, z_iinc, z_iincP, z_iadd, z_isub, z_imul, z_iaddW, z_isubW, z_imulW, z_idiv, z_irem, z_iand, z_ior, z_ixor, z_ishl, z_ishr, z_iushr, z_ineg, z_i2l, z_i2b, z_i2s, z_i2c, z_l2i, z_ladd, z_lsub, z_land, z_lor, z_lshl, z_lshr, z_lcmp, z_dup, z_pop, z_dup2, z_goto, z_tsw, z_cases, z_geti, z_getr, z_puti, z_putz, z_ald, z_iast, z_bast, z_zast, z_alen, z_acopy, z_mmax, z_mmin, z_mabs, z_mabsL, z_iret, z_zret, z_nret, z_lret, z_aret, z_vret, z_cat, z_ldcs, z_strv, z_strc, z_gcs, z_gfm, z_sln, z_sald, z_ifeq, z_ifne, z_iflt, z_ifge, z_ifgt, z_ifle, z_iceq, z_icne, z_iclt, z_icge, z_icgt, z_icle, z_cs0, z_cs1, z_cs2, z_cs3, z_cs4, z_cs5, z_cs6, z_cs7, z_cv0, z_cv1, z_cv2, z_cv3, z_cv4, z_cv5, z_cv6, z_cv7, z_g0, z_s0, z_g1, z_s1, z_g2, z_s2, z_g3, z_s3, z_g4, z_s4, z_g5, z_s5, z_g6, z_s6, z_g7, z_s7, z_g8, z_s8, z_g9, z_s9, z_g10, z_s10, z_g11, z_s11, z_g12, z_s12, z_g13, z_s13, z_b0, z_b1, z_b0n, z_b1n, z_up_far1, z_up_far2, z_up_far3, z_up_far4, z_up_far5, z_up_far6, Classical.not_not, not_true_eq_false, z_in, z_inL, Int.cast_ofNat_Int, Nat.reduceLeDiff, List.length_cons, List.length_nil, Nat.reduceAdd, Nat.zero_add, Nat.le_refl, true_and, and_true, List.length, Nat.reduceLT, true_or, or_true, false_or, or_false, false_and, and_false, not_true_eq_false, not_false_eq_true, forall_const, false_implies, true_implies, Int.reduceEq, Int.reduceLT, Int.reduceLE, Int.reduceAdd, Int.reduceSub, Int.reduceMul, Int.reduceNeg, Int.reduceToNat, Int.toNat_natCast, ↓reduceIte, reduceIte, Nat.reduceEqDiff, Nat.reduceSub, Nat.reduceMul, ne_eq, Int.zero_add, Int.add_zero, Int.sub_zero, Nat.add_zero, Int.ofNat_eq_natCast, tX10_image_61]
      repeat' (first | (intro _) | (with_reducible assumption) | (refine And.intro ?_ ?_))
      all_goals first | omega | assumption | (refine z_fin fin ?_ rfl; first | rfl | omega | (split <;> omega) | (split <;> split <;> omega)) | skip
    | succ d ih =>
      intro i hi
      have nx := ih (i + 1) (by omega)
      rw [← z_cpy_S, Nat.zero_add] at nx
      have e : (180 * (k : Int) + (i : Int)).toNat = 180 * k + i := by omega
      have e2 : z_cpy B2 95 0 106 (180 * k) i 95 i = B2 95 i := z_cpy_ne (by omega)
      refine h61 _ _ _ ?_
      simp only [z_push, z_lpush, z_iload, z_lload, z_aload, z_istore, z_istoreP, z_lstore, z_astore, z_iinc, z_iincP, z_iadd, z_isub, z_imul, z_iaddW, z_isubW, z_imulW, z_idiv, z_irem, z_iand, z_ior, z_ixor, z_ishl, z_ishr, z_iushr, z_ineg, z_i2l, z_i2b, z_i2s, z_i2c, z_l2i, z_ladd, z_lsub, z_land, z_lor, z_lshl, z_lshr, z_lcmp, z_dup, z_pop, z_dup2, z_goto, z_tsw, z_cases, z_geti, z_getr, z_puti, z_putz, z_ald, z_iast, z_bast, z_zast, z_alen, z_acopy, z_mmax, z_mmin, z_mabs, z_mabsL, z_iret, z_zret, z_nret, z_lret, z_aret, z_vret, z_cat, z_ldcs, z_strv, z_strc, z_gcs, z_gfm, z_sln, z_sald, z_ifeq, z_ifne, z_iflt, z_ifge, z_ifgt, z_ifle, z_iceq, z_icne, z_iclt, z_icge, z_icgt, z_icle, z_cs0, z_cs1, z_cs2, z_cs3, z_cs4, z_cs5, z_cs6, z_cs7, z_cv0, z_cv1, z_cv2, z_cv3, z_cv4, z_cv5, z_cv6, z_cv7, z_g0, z_s0, z_g1, z_s1, z_g2, z_s2, z_g3, z_s3, z_g4, z_s4, z_g5, z_s5, z_g6, z_s6, z_g7, z_s7, z_g8, z_s8, z_g9, z_s9, z_g10, z_s10, z_g11, z_s11, z_g12, z_s12, z_g13, z_s13, z_b0, z_b1, z_b0n, z_b1n, z_up_far1, z_up_far2, z_up_far3, z_up_far4, z_up_far5, z_up_far6, Classical.not_not, not_true_eq_false, z_in, z_inL, Int.cast_ofNat_Int, Nat.reduceLeDiff, List.length_cons, List.length_nil, Nat.reduceAdd, Nat.zero_add, Nat.le_refl, true_and, and_true, List.length, Nat.reduceLT, true_or, or_true, false_or, or_false, false_and, and_false, not_true_eq_false, not_false_eq_true, forall_const, false_implies, true_implies, Int.reduceEq, Int.reduceLT, Int.reduceLE, Int.reduceAdd, Int.reduceSub, Int.reduceMul, Int.reduceNeg, Int.reduceToNat, Int.toNat_natCast, ↓reduceIte, reduceIte, Nat.reduceEqDiff, Nat.reduceSub, Nat.reduceMul, ne_eq, Int.zero_add, Int.add_zero, Int.sub_zero, Nat.add_zero, Int.ofNat_eq_natCast, tX10_image_61, e, e2]
      repeat' (first | (intro _) | (with_reducible assumption) | (refine And.intro ?_ ?_))
      all_goals first | omega | assumption | (refine z_fin nx ?_ rfl; first | rfl | omega | (split <;> omega) | (split <;> split <;> omega)) | skip
  have L30 : ∀ (d i : Nat), i + d = 106 → X 30 [some (.inr (.inr (10, 0, 89))), some (.inl (k : Int)), some (.inl (i : Int))] [] (z_cpy B 93 0 105 (106 * k) i) := by
    intro d
    induction d with
    | zero =>
      intro i hi
      obtain rfl : i = 106 := by omega
      have nx := L61 180 0 (by omega)
      rw [z_cpy_0, ← hb2] at nx
      refine h30 _ _ _ ?_
      simp only [z_push, z_lpush, z_iload, z_lload, z_aload, z_istore, z_istoreP, z_lstore, z_astore, z_iinc, z_iincP, z_iadd, z_isub, z_imul, z_iaddW, z_isubW, z_imulW, z_idiv, z_irem, z_iand, z_ior, z_ixor, z_ishl, z_ishr, z_iushr, z_ineg, z_i2l, z_i2b, z_i2s, z_i2c, z_l2i, z_ladd, z_lsub, z_land, z_lor, z_lshl, z_lshr, z_lcmp, z_dup, z_pop, z_dup2, z_goto, z_tsw, z_cases, z_geti, z_getr, z_puti, z_putz, z_ald, z_iast, z_bast, z_zast, z_alen, z_acopy, z_mmax, z_mmin, z_mabs, z_mabsL, z_iret, z_zret, z_nret, z_lret, z_aret, z_vret, z_cat, z_ldcs, z_strv, z_strc, z_gcs, z_gfm, z_sln, z_sald, z_ifeq, z_ifne, z_iflt, z_ifge, z_ifgt, z_ifle, z_iceq, z_icne, z_iclt, z_icge, z_icgt, z_icle, z_cs0, z_cs1, z_cs2, z_cs3, z_cs4, z_cs5, z_cs6, z_cs7, z_cv0, z_cv1, z_cv2, z_cv3, z_cv4, z_cv5, z_cv6, z_cv7, z_g0, z_s0, z_g1, z_s1, z_g2, z_s2, z_g3, z_s3, z_g4, z_s4, z_g5, z_s5, z_g6, z_s6, z_g7, z_s7, z_g8, z_s8, z_g9, z_s9, z_g10, z_s10, z_g11, z_s11, z_g12, z_s12, z_g13, z_s13, z_b0, z_b1, z_b0n, z_b1n, z_up_far1, z_up_far2, z_up_far3, z_up_far4, z_up_far5, z_up_far6, Classical.not_not, not_true_eq_false, z_in, z_inL, Int.cast_ofNat_Int, Nat.reduceLeDiff, List.length_cons, List.length_nil, Nat.reduceAdd, Nat.zero_add, Nat.le_refl, true_and, and_true, List.length, Nat.reduceLT, true_or, or_true, false_or, or_false, false_and, and_false, not_true_eq_false, not_false_eq_true, forall_const, false_implies, true_implies, Int.reduceEq, Int.reduceLT, Int.reduceLE, Int.reduceAdd, Int.reduceSub, Int.reduceMul, Int.reduceNeg, Int.reduceToNat, Int.toNat_natCast, ↓reduceIte, reduceIte, Nat.reduceEqDiff, Nat.reduceSub, Nat.reduceMul, ne_eq, Int.zero_add, Int.add_zero, Int.sub_zero, Nat.add_zero, Int.ofNat_eq_natCast, tX10_image_30]
      repeat' (first | (intro _) | (with_reducible assumption) | (refine And.intro ?_ ?_))
      all_goals first | omega | assumption | (refine z_fin nx ?_ rfl; first | rfl | omega | (split <;> omega) | (split <;> split <;> omega)) | skip
    | succ d ih =>
      intro i hi
      have nx := ih (i + 1) (by omega)
      rw [← z_cpy_S, Nat.zero_add] at nx
      have e : (106 * (k : Int) + (i : Int)).toNat = 106 * k + i := by omega
      have e2 : z_cpy B 93 0 105 (106 * k) i 93 i = B 93 i := z_cpy_ne (by omega)
      refine h30 _ _ _ ?_
      simp only [z_push, z_lpush, z_iload, z_lload, z_aload, z_istore, z_istoreP, z_lstore, z_astore, z_iinc, z_iincP, z_iadd, z_isub, z_imul, z_iaddW, z_isubW, z_imulW, z_idiv, z_irem, z_iand, z_ior, z_ixor, z_ishl, z_ishr, z_iushr, z_ineg, z_i2l, z_i2b, z_i2s, z_i2c, z_l2i, z_ladd, z_lsub, z_land, z_lor, z_lshl, z_lshr, z_lcmp, z_dup, z_pop, z_dup2, z_goto, z_tsw, z_cases, z_geti, z_getr, z_puti, z_putz, z_ald, z_iast, z_bast, z_zast, z_alen, z_acopy, z_mmax, z_mmin, z_mabs, z_mabsL, z_iret, z_zret, z_nret, z_lret, z_aret, z_vret, z_cat, z_ldcs, z_strv, z_strc, z_gcs, z_gfm, z_sln, z_sald, z_ifeq, z_ifne, z_iflt, z_ifge, z_ifgt, z_ifle, z_iceq, z_icne, z_iclt, z_icge, z_icgt, z_icle, z_cs0, z_cs1, z_cs2, z_cs3, z_cs4, z_cs5, z_cs6, z_cs7, z_cv0, z_cv1, z_cv2, z_cv3, z_cv4, z_cv5, z_cv6, z_cv7, z_g0, z_s0, z_g1, z_s1, z_g2, z_s2, z_g3, z_s3, z_g4, z_s4, z_g5, z_s5, z_g6, z_s6, z_g7, z_s7, z_g8, z_s8, z_g9, z_s9, z_g10, z_s10, z_g11, z_s11, z_g12, z_s12, z_g13, z_s13, z_b0, z_b1, z_b0n, z_b1n, z_up_far1, z_up_far2, z_up_far3, z_up_far4, z_up_far5, z_up_far6, Classical.not_not, not_true_eq_false, z_in, z_inL, Int.cast_ofNat_Int, Nat.reduceLeDiff, List.length_cons, List.length_nil, Nat.reduceAdd, Nat.zero_add, Nat.le_refl, true_and, and_true, List.length, Nat.reduceLT, true_or, or_true, false_or, or_false, false_and, and_false, not_true_eq_false, not_false_eq_true, forall_const, false_implies, true_implies, Int.reduceEq, Int.reduceLT, Int.reduceLE, Int.reduceAdd, Int.reduceSub, Int.reduceMul, Int.reduceNeg, Int.reduceToNat, Int.toNat_natCast, ↓reduceIte, reduceIte, Nat.reduceEqDiff, Nat.reduceSub, Nat.reduceMul, ne_eq, Int.zero_add, Int.add_zero, Int.sub_zero, Nat.add_zero, Int.ofNat_eq_natCast, tX10_image_30, e, e2]
      repeat' (first | (intro _) | (with_reducible assumption) | (refine And.intro ?_ ?_))
      all_goals first | omega | assumption | (refine z_fin nx ?_ rfl; first | rfl | omega | (split <;> omega) | (split <;> split <;> omega)) | skip
  have nx := L30 106 0 (by omega)
  rw [z_cpy_0, ← hb] at nx
  refine h0 _ _ _ ?_
  simp only [z_push, z_lpush, z_iload, z_lload, z_aload, z_istore, z_istoreP, z_lstore, z_astore, z_iinc, z_iincP, z_iadd, z_isub, z_imul, z_iaddW, z_isubW, z_imulW, z_idiv, z_irem, z_iand, z_ior, z_ixor, z_ishl, z_ishr, z_iushr, z_ineg, z_i2l, z_i2b, z_i2s, z_i2c, z_l2i, z_ladd, z_lsub, z_land, z_lor, z_lshl, z_lshr, z_lcmp, z_dup, z_pop, z_dup2, z_goto, z_tsw, z_cases, z_geti, z_getr, z_puti, z_putz, z_ald, z_iast, z_bast, z_zast, z_alen, z_acopy, z_mmax, z_mmin, z_mabs, z_mabsL, z_iret, z_zret, z_nret, z_lret, z_aret, z_vret, z_cat, z_ldcs, z_strv, z_strc, z_gcs, z_gfm, z_sln, z_sald, z_ifeq, z_ifne, z_iflt, z_ifge, z_ifgt, z_ifle, z_iceq, z_icne, z_iclt, z_icge, z_icgt, z_icle, z_cs0, z_cs1, z_cs2, z_cs3, z_cs4, z_cs5, z_cs6, z_cs7, z_cv0, z_cv1, z_cv2, z_cv3, z_cv4, z_cv5, z_cv6, z_cv7, z_g0, z_s0, z_g1, z_s1, z_g2, z_s2, z_g3, z_s3, z_g4, z_s4, z_g5, z_s5, z_g6, z_s6, z_g7, z_s7, z_g8, z_s8, z_g9, z_s9, z_g10, z_s10, z_g11, z_s11, z_g12, z_s12, z_g13, z_s13, z_b0, z_b1, z_b0n, z_b1n, z_up_far1, z_up_far2, z_up_far3, z_up_far4, z_up_far5, z_up_far6, Classical.not_not, not_true_eq_false, z_in, z_inL, Int.cast_ofNat_Int, Nat.reduceLeDiff, List.length_cons, List.length_nil, Nat.reduceAdd, Nat.zero_add, Nat.le_refl, true_and, and_true, List.length, Nat.reduceLT, true_or, or_true, false_or, or_false, false_and, and_false, not_true_eq_false, not_false_eq_true, forall_const, false_implies, true_implies, Int.reduceEq, Int.reduceLT, Int.reduceLE, Int.reduceAdd, Int.reduceSub, Int.reduceMul, Int.reduceNeg, Int.reduceToNat, Int.toNat_natCast, ↓reduceIte, reduceIte, Nat.reduceEqDiff, Nat.reduceSub, Nat.reduceMul, ne_eq, Int.zero_add, Int.add_zero, Int.sub_zero, Nat.add_zero, Int.ofNat_eq_natCast, tX10_image_0, SX10_in, e7, c1]
  repeat' (first | (intro _) | (with_reducible assumption) | (refine And.intro ?_ ?_))
  all_goals first | omega | assumption | (refine z_fin nx ?_ rfl; first | rfl | omega | (split <;> omega) | (split <;> split <;> omega)) | skip
theorem dX10_image_0 : decode cX10_image 0 = .ok (.aload_n 0, 1) := by decide +kernel
theorem dX10_image_1 : decode cX10_image 1 = .ok (.iconst 0, 1) := by decide +kernel
theorem dX10_image_2 : decode cX10_image 2 = .ok (.putfield 65, 3) := by decide +kernel
theorem dX10_image_5 : decode cX10_image 5 = .ok (.iload_n 1, 1) := by decide +kernel
theorem dX10_image_6 : decode cX10_image 6 = .ok (.i2l, 1) := by decide +kernel
theorem dX10_image_7 : decode cX10_image 7 = .ok (.lconst 0, 1) := by decide +kernel
theorem dX10_image_8 : decode cX10_image 8 = .ok (.lconst 1, 1) := by decide +kernel
theorem dX10_image_9 : decode cX10_image 9 = .ok (.invokestatic 75, 3) := by decide +kernel
theorem dX10_image_12 : decode cX10_image 12 = .ok (.ifCond .ne 6, 3) := by decide +kernel
theorem dX10_image_15 : decode cX10_image 15 = .ok (.ldc 85, 2) := by decide +kernel
theorem dX10_image_17 : decode cX10_image 17 = .ok (.ireturn, 1) := by decide +kernel
theorem dX10_image_18 : decode cX10_image 18 = .ok (.aload_n 0, 1) := by decide +kernel
theorem dX10_image_19 : decode cX10_image 19 = .ok (.getfield 205, 3) := by decide +kernel
theorem dX10_image_22 : decode cX10_image 22 = .ok (.ifCond .ne 6, 3) := by decide +kernel
theorem dX10_image_25 : decode cX10_image 25 = .ok (.ldc 219, 2) := by decide +kernel
theorem dX10_image_27 : decode cX10_image 27 = .ok (.ireturn, 1) := by decide +kernel
theorem dX10_image_28 : decode cX10_image 28 = .ok (.iconst 0, 1) := by decide +kernel
theorem dX10_image_29 : decode cX10_image 29 = .ok (.istore_n 2, 1) := by decide +kernel
theorem dX10_image_30 : decode cX10_image 30 = .ok (.iload_n 2, 1) := by decide +kernel
theorem dX10_image_31 : decode cX10_image 31 = .ok (.bipush 106, 2) := by decide +kernel
theorem dX10_image_33 : decode cX10_image 33 = .ok (.if_icmp .ge 26, 3) := by decide +kernel
theorem dX10_image_36 : decode cX10_image 36 = .ok (.aload_n 0, 1) := by decide +kernel
theorem dX10_image_37 : decode cX10_image 37 = .ok (.getfield 56, 3) := by decide +kernel
theorem dX10_image_40 : decode cX10_image 40 = .ok (.bipush 106, 2) := by decide +kernel
theorem dX10_image_42 : decode cX10_image 42 = .ok (.iload_n 1, 1) := by decide +kernel
theorem dX10_image_43 : decode cX10_image 43 = .ok (.imul, 1) := by decide +kernel
theorem dX10_image_44 : decode cX10_image 44 = .ok (.iload_n 2, 1) := by decide +kernel
theorem dX10_image_45 : decode cX10_image 45 = .ok (.iadd, 1) := by decide +kernel
theorem dX10_image_46 : decode cX10_image 46 = .ok (.aload_n 0, 1) := by decide +kernel
theorem dX10_image_47 : decode cX10_image 47 = .ok (.getfield 19, 3) := by decide +kernel
theorem dX10_image_50 : decode cX10_image 50 = .ok (.iload_n 2, 1) := by decide +kernel
theorem dX10_image_51 : decode cX10_image 51 = .ok (.iaload, 1) := by decide +kernel
theorem dX10_image_52 : decode cX10_image 52 = .ok (.iastore, 1) := by decide +kernel
theorem dX10_image_53 : decode cX10_image 53 = .ok (.iinc 2 1, 3) := by decide +kernel
theorem dX10_image_56 : decode cX10_image 56 = .ok (.goto (-26), 3) := by decide +kernel
theorem dX10_image_59 : decode cX10_image 59 = .ok (.iconst 0, 1) := by decide +kernel
theorem dX10_image_60 : decode cX10_image 60 = .ok (.istore_n 2, 1) := by decide +kernel
theorem dX10_image_61 : decode cX10_image 61 = .ok (.iload_n 2, 1) := by decide +kernel
theorem dX10_image_62 : decode cX10_image 62 = .ok (.sipush 180, 3) := by decide +kernel
theorem dX10_image_65 : decode cX10_image 65 = .ok (.if_icmp .ge 27, 3) := by decide +kernel
theorem dX10_image_68 : decode cX10_image 68 = .ok (.aload_n 0, 1) := by decide +kernel
theorem dX10_image_69 : decode cX10_image 69 = .ok (.getfield 59, 3) := by decide +kernel
theorem dX10_image_72 : decode cX10_image 72 = .ok (.sipush 180, 3) := by decide +kernel
theorem dX10_image_75 : decode cX10_image 75 = .ok (.iload_n 1, 1) := by decide +kernel
theorem dX10_image_76 : decode cX10_image 76 = .ok (.imul, 1) := by decide +kernel
theorem dX10_image_77 : decode cX10_image 77 = .ok (.iload_n 2, 1) := by decide +kernel
theorem dX10_image_78 : decode cX10_image 78 = .ok (.iadd, 1) := by decide +kernel
theorem dX10_image_79 : decode cX10_image 79 = .ok (.aload_n 0, 1) := by decide +kernel
theorem dX10_image_80 : decode cX10_image 80 = .ok (.getfield 25, 3) := by decide +kernel
theorem dX10_image_83 : decode cX10_image 83 = .ok (.iload_n 2, 1) := by decide +kernel
theorem dX10_image_84 : decode cX10_image 84 = .ok (.iaload, 1) := by decide +kernel
theorem dX10_image_85 : decode cX10_image 85 = .ok (.iastore, 1) := by decide +kernel
theorem dX10_image_86 : decode cX10_image 86 = .ok (.iinc 2 1, 3) := by decide +kernel
theorem dX10_image_89 : decode cX10_image 89 = .ok (.goto (-28), 3) := by decide +kernel
theorem dX10_image_92 : decode cX10_image 92 = .ok (.aload_n 0, 1) := by decide +kernel
theorem dX10_image_93 : decode cX10_image 93 = .ok (.getfield 52, 3) := by decide +kernel
theorem dX10_image_96 : decode cX10_image 96 = .ok (.iload_n 1, 1) := by decide +kernel
theorem dX10_image_97 : decode cX10_image 97 = .ok (.iconst 1, 1) := by decide +kernel
theorem dX10_image_98 : decode cX10_image 98 = .ok (.bastore, 1) := by decide +kernel
theorem dX10_image_99 : decode cX10_image 99 = .ok (.iconst 1, 1) := by decide +kernel
theorem dX10_image_100 : decode cX10_image 100 = .ok (.ireturn, 1) := by decide +kernel
set_option maxRecDepth 100000 in
theorem rX10_image_0 {p : Program} {l : Launch} {e : Env} {s : State} {m : MethodId} {args : Array Value} {below : List Frame} {meth : Method} {c : Code} {D : va_G} {cA : Nat → ClassId} {ad : Nat → Nat} {Ret : zR} (C : z_Cx p { frames := 1, cells := 0, slots := 0, locals := 25 } s m args c cX10_image yX10_image.cls 3 D cA ad) (hr : meth.sig.returnType = (some .int)) (hlocks : meth.locks = false) : ∀ L st σ, tX10_image_0 (z_X p l e { frames := 1, cells := 0, slots := 0, locals := 25 } s m args below meth c (MQ below (z_Qc D cA ad Ret) args s 0 0 (z_A ad)) 3 D cA ad true) Ret L st σ → z_X p l e { frames := 1, cells := 0, slots := 0, locals := 25 } s m args below meth c (MQ below (z_Qc D cA ad Ret) args s 0 0 (z_A ad)) 3 D cA ad true 0 L st σ := (s_aload_n C dX10_image_0 rfl (s_iconst C dX10_image_1 rfl ⟨by decide, by decide⟩ (s_puti C dX10_image_2 cls_X10 (by decide) rfl wd_968 rfl rfl (s_iload_n C dX10_image_5 rfl (s_i2l C dX10_image_6 (s_lconst C dX10_image_7 (v := 0) rfl ⟨by decide, by decide⟩ (s_lconst C dX10_image_8 (v := 1) rfl ⟨by decide, by decide⟩ (s_cs3 C dX10_image_9 (okX10_in l) wd_1082 wd_1083 wd_85 wd_1084 ⟨by decide, by decide, by decide +kernel⟩ ⟨by decide, by decide⟩ (s_ifne C dX10_image_12 (by decide) (s_aload_n C dX10_image_18 rfl (s_geti C dX10_image_19 cls_X10 (by decide) rfl wd_975 (s_ifne C dX10_image_22 (by decide) (s_iconst C dX10_image_28 rfl ⟨by decide, by decide⟩ (s_istore_n C dX10_image_29 (by decide) rfl rfl (fun _ _ _ h => h))) (s_ldc C dX10_image_25 (v := -1000002) wd_1191 ⟨by decide, by decide⟩ (s_iret C dX10_image_27 hr hlocks))))) (s_ldc C dX10_image_15 (v := -1000001) wd_1086 ⟨by decide, by decide⟩ (s_iret C dX10_image_17 hr hlocks)))))))))))
set_option maxRecDepth 100000 in
theorem rX10_image_30 {p : Program} {l : Launch} {e : Env} {s : State} {m : MethodId} {args : Array Value} {below : List Frame} {meth : Method} {c : Code} {D : va_G} {cA : Nat → ClassId} {ad : Nat → Nat} {Ret : zR} (C : z_Cx p { frames := 1, cells := 0, slots := 0, locals := 25 } s m args c cX10_image yX10_image.cls 3 D cA ad) (hr : meth.sig.returnType = (some .int)) (hlocks : meth.locks = false) : ∀ L st σ, tX10_image_30 (z_X p l e { frames := 1, cells := 0, slots := 0, locals := 25 } s m args below meth c (MQ below (z_Qc D cA ad Ret) args s 0 0 (z_A ad)) 3 D cA ad true) Ret L st σ → z_X p l e { frames := 1, cells := 0, slots := 0, locals := 25 } s m args below meth c (MQ below (z_Qc D cA ad Ret) args s 0 0 (z_A ad)) 3 D cA ad true 30 L st σ := (s_iload_n C dX10_image_30 rfl (s_bipush C dX10_image_31 rfl ⟨by decide, by decide⟩ (s_icge C dX10_image_33 (by decide) (s_iconst C dX10_image_59 rfl ⟨by decide, by decide⟩ (s_istore_n C dX10_image_60 (by decide) rfl rfl (fun _ _ _ h => h))) (s_aload_n C dX10_image_36 rfl (s_getr C dX10_image_37 (j := 31) cls_X10 (by decide) rfl (by decide) (by decide) (by decide +kernel) wd_999 (s_bipush C dX10_image_40 rfl ⟨by decide, by decide⟩ (s_iload_n C dX10_image_42 rfl (s_imul C dX10_image_43 (s_iload_n C dX10_image_44 rfl (s_iadd C dX10_image_45 (s_aload_n C dX10_image_46 rfl (s_getr C dX10_image_47 (j := 5) cls_X10 (by decide) rfl (by decide) (by decide) (by decide +kernel) wd_973 (s_iload_n C dX10_image_50 rfl (s_iald C dX10_image_51 (s_iast C dX10_image_52 (s_iinc C dX10_image_53 (by decide) rfl (s_goto C dX10_image_56 (by decide) (fun _ _ _ h => h))))))))))))))))))
set_option maxRecDepth 100000 in
theorem rX10_image_61 {p : Program} {l : Launch} {e : Env} {s : State} {m : MethodId} {args : Array Value} {below : List Frame} {meth : Method} {c : Code} {D : va_G} {cA : Nat → ClassId} {ad : Nat → Nat} {Ret : zR} (C : z_Cx p { frames := 1, cells := 0, slots := 0, locals := 25 } s m args c cX10_image yX10_image.cls 3 D cA ad) (hr : meth.sig.returnType = (some .int)) (hlocks : meth.locks = false) : ∀ L st σ, tX10_image_61 (z_X p l e { frames := 1, cells := 0, slots := 0, locals := 25 } s m args below meth c (MQ below (z_Qc D cA ad Ret) args s 0 0 (z_A ad)) 3 D cA ad true) Ret L st σ → z_X p l e { frames := 1, cells := 0, slots := 0, locals := 25 } s m args below meth c (MQ below (z_Qc D cA ad Ret) args s 0 0 (z_A ad)) 3 D cA ad true 61 L st σ := (s_iload_n C dX10_image_61 rfl (s_sipush C dX10_image_62 rfl ⟨by decide, by decide⟩ (s_icge C dX10_image_65 (by decide) (s_aload_n C dX10_image_92 rfl (s_getr C dX10_image_93 (j := 30) cls_X10 (by decide) rfl (by decide) (by decide) (by decide +kernel) wd_998 (s_iload_n C dX10_image_96 rfl (s_iconst C dX10_image_97 rfl ⟨by decide, by decide⟩ (s_zast C dX10_image_98 (s_iconst C dX10_image_99 rfl ⟨by decide, by decide⟩ (s_iret C dX10_image_100 hr hlocks))))))) (s_aload_n C dX10_image_68 rfl (s_getr C dX10_image_69 (j := 32) cls_X10 (by decide) rfl (by decide) (by decide) (by decide +kernel) wd_1000 (s_sipush C dX10_image_72 rfl ⟨by decide, by decide⟩ (s_iload_n C dX10_image_75 rfl (s_imul C dX10_image_76 (s_iload_n C dX10_image_77 rfl (s_iadd C dX10_image_78 (s_aload_n C dX10_image_79 rfl (s_getr C dX10_image_80 (j := 8) cls_X10 (by decide) rfl (by decide) (by decide) (by decide +kernel) wd_976 (s_iload_n C dX10_image_83 rfl (s_iald C dX10_image_84 (s_iast C dX10_image_85 (s_iinc C dX10_image_86 (by decide) rfl (s_goto C dX10_image_89 (by decide) (fun _ _ _ h => h))))))))))))))))))
theorem okX10_image (l : Launch) : z_OK l yX10_image cX10_image 3 (some .int) 1 25 SX10_image := by
  refine z_ok_of true (by decide +kernel) ?_ ?_
  · intro as σ Ret h
    obtain ⟨k0, x1, rfl⟩ := pX10_image h
    exact ⟨Nat.le_of_ble_eq_true rfl, by simp⟩
  · intro p e s m args below meth c D cA ad Ret C hr hlocks as σ has hσ h
    obtain ⟨k0, x1, rfl⟩ := pX10_image h
    exact vX10_image (rX10_image_0 C hr hlocks) (rX10_image_30 C hr hlocks) (rX10_image_61 C hr hlocks) k0 x1 σ (has _ (List.mem_of_getElem? (i := 0) rfl)) (has _ (List.mem_of_getElem? (i := 1) rfl)) hσ h
def SX10_restore : zS := fun as σ Ret => match as with
  | [.inr (.inr (10, 0, _)), .inl k] => q_S10 (q_gRestore k) (q_fRestore k) σ Ret
  | _ => False
def tX10_restore_0 (X : Nat → zB) (Ret : zR) (L : zL) (st : List zV) (σ : zM) : Prop := (z_aload 0 (z_push 0 (z_puti 10 0 (z_iload 1 (z_i2l (z_lpush 0 (z_lpush 1 (z_cs3 SX10_in (z_ifne (z_aload 0 (z_getr 10 15 102 2 (z_iload 1 (z_ald 2 (z_ifne (z_push 0 (z_istore 2 (X 32))) (z_push (-1000002) (z_iret Ret))))))) (z_push (-1000001) (z_iret Ret))))))))))) L st σ
def tX10_restore_32 (X : Nat → zB) (Ret : zR) (L : zL) (st : List zV) (σ : zM) : Prop := (z_iload 2 (z_push 106 (z_icge (z_push 0 (z_istore 2 (X 63))) (z_aload 0 (z_getr 10 4 100 106 (z_iload 2 (z_aload 0 (z_getr 10 16 100 212 (z_push 106 (z_iload 1 (z_imul (z_iload 2 (z_iadd (z_ald 0 (z_iast (z_iinc 2 1 (z_goto (X 32)))))))))))))))))) L st σ
def tX10_restore_63 (X : Nat → zB) (Ret : zR) (L : zL) (st : List zV) (σ : zM) : Prop := (z_iload 2 (z_push 180 (z_icge (z_push 1 (z_iret Ret)) (z_aload 0 (z_getr 10 6 100 180 (z_iload 2 (z_aload 0 (z_getr 10 17 100 360 (z_push 180 (z_iload 1 (z_imul (z_iload 2 (z_iadd (z_ald 0 (z_iast (z_iinc 2 1 (z_goto (X 63)))))))))))))))))) L st σ
theorem pX10_restore {as : List zV} {σ : zM} {Ret : zR} (h : SX10_restore as σ Ret) : ∃ (k0 : Nat) (x1 : Int), as = [.inr (.inr (10, 0, k0)), .inl x1] := by
  unfold SX10_restore at h
  split at h
  · exact ⟨_, _, rfl⟩
  · exact h.elim
set_option maxRecDepth 10000 in
set_option maxHeartbeats 4000000 in
theorem vX10_restore {X : Nat → zB} {Ret : zR} (h0 : ∀ L st σ, tX10_restore_0 X Ret L st σ → X 0 L st σ) (h32 : ∀ L st σ, tX10_restore_32 X Ret L st σ → X 32 L st σ) (h63 : ∀ L st σ, tX10_restore_63 X Ret L st σ → X 63 L st σ) (k0 : Nat) (x1 : Int) (σ : zM) (hk0 : z_kd k0 = (10, 0)) (hx1 : -2147483648 ≤ x1 ∧ x1 ≤ 2147483647) (hσ : z_okm σ) (h : SX10_restore [.inr (.inr (10, 0, k0)), .inl x1] σ Ret) : X 0 [some (.inr (.inr (10, 0, k0))), some (.inl x1), none] [] σ := by
  obtain ⟨m, h⟩ := h
  obtain rfl := z_kd10 hk0
  by_cases c2 : ¬ (0 ≤ x1 ∧ x1 ≤ 1)
  · have fin := h (z_up σ 89 0 0) q_th.1 (by unfold q_fRestore; rw [if_pos c2]; exact q_th.2)
    simp only [q_gRestore, if_pos c2] at fin
    refine h0 _ _ _ ?_
    simp only [z_push, z_lpush, z_iload, z_lload, z_aload, z_istore, z_istoreP, z_lstore, z_astore, z_iinc, z_iincP, z_iadd, z_isub, z_imul, z_iaddW, z_isubW, z_imulW, z_idiv, z_irem, z_iand, z_ior, z_ixor, z_ishl, z_ishr, z_iushr, z_ineg, z_i2l, z_i2b, z_i2s, z_i2c, z_l2i, z_ladd, z_lsub, z_land, z_lor, z_lshl, z_lshr, z_lcmp, z_dup, z_pop, z_dup2, z_goto, z_tsw, z_cases, z_geti, z_getr, z_puti, z_putz, z_ald, z_iast, z_bast, z_zast, z_alen, z_acopy, z_mmax, z_mmin, z_mabs, z_mabsL, z_iret, z_zret, z_nret, z_lret, z_aret, z_vret, z_cat, z_ldcs, z_strv, z_strc, z_gcs, z_gfm, z_sln, z_sald, z_ifeq, z_ifne, z_iflt, z_ifge, z_ifgt, z_ifle, z_iceq, z_icne, z_iclt, z_icge, z_icgt, z_icle, z_cs0, z_cs1, z_cs2, z_cs3, z_cs4, z_cs5, z_cs6, z_cs7, z_cv0, z_cv1, z_cv2, z_cv3, z_cv4, z_cv5, z_cv6, z_cv7, z_g0, z_s0, z_g1, z_s1, z_g2, z_s2, z_g3, z_s3, z_g4, z_s4, z_g5, z_s5, z_g6, z_s6, z_g7, z_s7, z_g8, z_s8, z_g9, z_s9, z_g10, z_s10, z_g11, z_s11, z_g12, z_s12, z_g13, z_s13, z_b0, z_b1, z_b0n, z_b1n, z_up_far1, z_up_far2, z_up_far3, z_up_far4, z_up_far5, z_up_far6, Classical.not_not, not_true_eq_false, z_in, z_inL, Int.cast_ofNat_Int, Nat.reduceLeDiff, List.length_cons, List.length_nil, Nat.reduceAdd, Nat.zero_add, Nat.le_refl, true_and, and_true, List.length, Nat.reduceLT, true_or, or_true, false_or, or_false, false_and, and_false, not_true_eq_false, not_false_eq_true, forall_const, false_implies, true_implies, Int.reduceEq, Int.reduceLT, Int.reduceLE, Int.reduceAdd, Int.reduceSub, Int.reduceMul, Int.reduceNeg, Int.reduceToNat, Int.toNat_natCast, ↓reduceIte, reduceIte, Nat.reduceEqDiff, Nat.reduceSub, Nat.reduceMul, ne_eq, Int.zero_add, Int.add_zero, Int.sub_zero, Nat.add_zero, Int.ofNat_eq_natCast, tX10_restore_0, SX10_in]
    repeat' (first | (intro _) | (with_reducible assumption) | (refine And.intro ?_ ?_))
    all_goals first | omega | assumption | (refine z_fin fin ?_ rfl; first | rfl | omega | (split <;> omega) | (split <;> split <;> omega)) | skip
  obtain ⟨k, rfl⟩ := z_nat (show 0 ≤ x1 by omega)
  have e7 : z_up σ 89 0 0 104 k = σ 104 k := z_up_ne (by omega)
  by_cases c1 : σ 104 k = 0
  · have fin := h (z_up σ 89 0 0) q_th.1 (by unfold q_fRestore; rw [if_neg c2, Int.toNat_natCast, if_pos c1]; exact q_th.2)
    simp only [q_gRestore, if_neg c2, Int.toNat_natCast, if_pos c1] at fin
    rw [c1] at e7
    refine h0 _ _ _ ?_
    simp only [z_push, z_lpush, z_iload, z_lload, z_aload, z_istore, z_istoreP, z_lstore, z_astore, z_iinc, z_iincP, z_iadd, z_isub, z_imul, z_iaddW, z_isubW, z_imulW, z_idiv, z_irem, z_iand, z_ior, z_ixor, z_ishl, z_ishr, z_iushr, z_ineg, z_i2l, z_i2b, z_i2s, z_i2c, z_l2i, z_ladd, z_lsub, z_land, z_lor, z_lshl, z_lshr, z_lcmp, z_dup, z_pop, z_dup2, z_goto, z_tsw, z_cases, z_geti, z_getr, z_puti, z_putz, z_ald, z_iast, z_bast, z_zast, z_alen, z_acopy, z_mmax, z_mmin, z_mabs, z_mabsL, z_iret, z_zret, z_nret, z_lret, z_aret, z_vret, z_cat, z_ldcs, z_strv, z_strc, z_gcs, z_gfm, z_sln, z_sald, z_ifeq, z_ifne, z_iflt, z_ifge, z_ifgt, z_ifle, z_iceq, z_icne, z_iclt, z_icge, z_icgt, z_icle, z_cs0, z_cs1, z_cs2, z_cs3, z_cs4, z_cs5, z_cs6, z_cs7, z_cv0, z_cv1, z_cv2, z_cv3, z_cv4, z_cv5, z_cv6, z_cv7, z_g0, z_s0, z_g1, z_s1, z_g2, z_s2, z_g3, z_s3, z_g4, z_s4, z_g5, z_s5, z_g6, z_s6, z_g7, z_s7, z_g8, z_s8, z_g9, z_s9, z_g10, z_s10, z_g11, z_s11, z_g12, z_s12, z_g13, z_s13, z_b0, z_b1, z_b0n, z_b1n, z_up_far1, z_up_far2, z_up_far3, z_up_far4, z_up_far5, z_up_far6, Classical.not_not, not_true_eq_false, z_in, z_inL, Int.cast_ofNat_Int, Nat.reduceLeDiff, List.length_cons, List.length_nil, Nat.reduceAdd, Nat.zero_add, Nat.le_refl, true_and, and_true, List.length, Nat.reduceLT, true_or, or_true, false_or, or_false, false_and, and_false, not_true_eq_false, not_false_eq_true, forall_const, false_implies, true_implies, Int.reduceEq, Int.reduceLT, Int.reduceLE, Int.reduceAdd, Int.reduceSub, Int.reduceMul, Int.reduceNeg, Int.reduceToNat, Int.toNat_natCast, ↓reduceIte, reduceIte, Nat.reduceEqDiff, Nat.reduceSub, Nat.reduceMul, ne_eq, Int.zero_add, Int.add_zero, Int.sub_zero, Nat.add_zero, Int.ofNat_eq_natCast, tX10_restore_0, SX10_in, e7]
    repeat' (first | (intro _) | (with_reducible assumption) | (refine And.intro ?_ ?_))
    all_goals first | omega | assumption | (refine z_fin fin ?_ rfl; first | rfl | omega | (split <;> omega) | (split <;> split <;> omega)) | skip
  generalize hb : z_up σ 89 0 0 = B
  generalize hb2 : z_cpy B 105 (106 * k) 93 0 106 = B2
  have fin := h (z_cpy B2 106 (180 * k) 95 0 180) (fun c hc => funext fun j => by subst hb2 hb; rw [z_cpy_ne (by omega), z_cpy_ne (by omega), z_up_ne (by omega)]) (fun a j hc => by
    subst hb2 hb
    unfold q_fRestore
    rw [if_neg c2, Int.toNat_natCast, if_neg c1]
    unfold q_last at hc
    simp only [q_rp, z_cpy, z_up]
    by_cases a5 : a = 93 ∧ j < 106
    · rw [if_neg (by omega), if_pos (by omega), if_neg (by omega), if_pos a5, Nat.sub_zero]
    · by_cases a6 : a = 95 ∧ j < 180
      · rw [if_pos (by omega), if_neg (by omega), if_neg (by omega), if_neg (by omega), if_pos a6, Nat.sub_zero]
      · rw [if_neg (by omega), if_neg (by omega), if_neg (by omega), if_neg a5, if_neg a6])
  simp only [q_gRestore, if_neg c2, Int.toNat_natCast, if_neg c1] at fin
  have L63 : ∀ (d i : Nat), i + d = 180 → X 63 [some (.inr (.inr (10, 0, 89))), some (.inl (k : Int)), some (.inl (i : Int))] [] (z_cpy B2 106 (180 * k) 95 0 i) := by
    intro d
    induction d with
    | zero =>
      intro i hi
      obtain rfl : i = 180 := by omega
      refine h63 _ _ _ ?_
      simp only [z_push, z_lpush, z_iload, z_lload, z_aload, z_istore, z_istoreP, z_lstore, z_astore, z_iinc, z_iincP, z_iadd, z_isub, z_imul, z_iaddW, z_isubW, z_imulW, z_idiv, z_irem, z_iand, z_ior, z_ixor, z_ishl, z_ishr, z_iushr, z_ineg, z_i2l, z_i2b, z_i2s, z_i2c, z_l2i, z_ladd, z_lsub, z_land, z_lor, z_lshl, z_lshr, z_lcmp, z_dup, z_pop, z_dup2, z_goto, z_tsw, z_cases, z_geti, z_getr, z_puti, z_putz, z_ald, z_iast, z_bast, z_zast, z_alen, z_acopy, z_mmax, z_mmin, z_mabs, z_mabsL, z_iret, z_zret, z_nret, z_lret, z_aret, z_vret, z_cat, z_ldcs, z_strv, z_strc, z_gcs, z_gfm, z_sln, z_sald, z_ifeq, z_ifne, z_iflt, z_ifge, z_ifgt, z_ifle, z_iceq, z_icne, z_iclt, z_icge, z_icgt, z_icle, z_cs0, z_cs1, z_cs2, z_cs3, z_cs4, z_cs5, z_cs6, z_cs7, z_cv0, z_cv1, z_cv2, z_cv3, z_cv4, z_cv5, z_cv6, z_cv7, z_g0, z_s0, z_g1, z_s1, z_g2, z_s2, z_g3, z_s3, z_g4, z_s4, z_g5, z_s5, z_g6, z_s6, z_g7, z_s7, z_g8, z_s8, z_g9, z_s9, z_g10, z_s10, z_g11, z_s11, z_g12, z_s12, z_g13, z_s13, z_b0, z_b1, z_b0n, z_b1n, z_up_far1, z_up_far2, z_up_far3, z_up_far4, z_up_far5, z_up_far6, Classical.not_not, not_true_eq_false, z_in, z_inL, Int.cast_ofNat_Int, Nat.reduceLeDiff, List.length_cons, List.length_nil, Nat.reduceAdd, Nat.zero_add, Nat.le_refl, true_and, and_true, List.length, Nat.reduceLT, true_or, or_true, false_or, or_false, false_and, and_false, not_true_eq_false, not_false_eq_true, forall_const, false_implies, true_implies, Int.reduceEq, Int.reduceLT, Int.reduceLE, Int.reduceAdd, Int.reduceSub, Int.reduceMul, Int.reduceNeg, Int.reduceToNat, Int.toNat_natCast, ↓reduceIte, reduceIte, Nat.reduceEqDiff, Nat.reduceSub, Nat.reduceMul, ne_eq, Int.zero_add, Int.add_zero, Int.sub_zero, Nat.add_zero, Int.ofNat_eq_natCast, tX10_restore_63]
      repeat' (first | (intro _) | (with_reducible assumption) | (refine And.intro ?_ ?_))
      all_goals first | omega | assumption | (refine z_fin fin ?_ rfl; first | rfl | omega | (split <;> omega) | (split <;> split <;> omega)) | skip
    | succ d ih =>
      intro i hi
      have nx := ih (i + 1) (by omega)
      rw [← z_cpy_S, Nat.zero_add] at nx
      have e : (180 * (k : Int) + (i : Int)).toNat = 180 * k + i := by omega
      have e2 : z_cpy B2 106 (180 * k) 95 0 i 106 (180 * k + i) = B2 106 (180 * k + i) := z_cpy_ne (by omega)
      refine h63 _ _ _ ?_
      simp only [z_push, z_lpush, z_iload, z_lload, z_aload, z_istore, z_istoreP, z_lstore, z_astore, z_iinc, z_iincP, z_iadd, z_isub, z_imul, z_iaddW, z_isubW, z_imulW, z_idiv, z_irem, z_iand, z_ior, z_ixor, z_ishl, z_ishr, z_iushr, z_ineg, z_i2l, z_i2b, z_i2s, z_i2c, z_l2i, z_ladd, z_lsub, z_land, z_lor, z_lshl, z_lshr, z_lcmp, z_dup, z_pop, z_dup2, z_goto, z_tsw, z_cases, z_geti, z_getr, z_puti, z_putz, z_ald, z_iast, z_bast, z_zast, z_alen, z_acopy, z_mmax, z_mmin, z_mabs, z_mabsL, z_iret, z_zret, z_nret, z_lret, z_aret, z_vret, z_cat, z_ldcs, z_strv, z_strc, z_gcs, z_gfm, z_sln, z_sald, z_ifeq, z_ifne, z_iflt, z_ifge, z_ifgt, z_ifle, z_iceq, z_icne, z_iclt, z_icge, z_icgt, z_icle, z_cs0, z_cs1, z_cs2, z_cs3, z_cs4, z_cs5, z_cs6, z_cs7, z_cv0, z_cv1, z_cv2, z_cv3, z_cv4, z_cv5, z_cv6, z_cv7, z_g0, z_s0, z_g1, z_s1, z_g2, z_s2, z_g3, z_s3, z_g4, z_s4, z_g5, z_s5, z_g6, z_s6, z_g7, z_s7, z_g8, z_s8, z_g9, z_s9, z_g10, z_s10, z_g11, z_s11, z_g12, z_s12, z_g13, z_s13, z_b0, z_b1, z_b0n, z_b1n, z_up_far1, z_up_far2, z_up_far3, z_up_far4, z_up_far5, z_up_far6, Classical.not_not, not_true_eq_false, z_in, z_inL, Int.cast_ofNat_Int, Nat.reduceLeDiff, List.length_cons, List.length_nil, Nat.reduceAdd, Nat.zero_add, Nat.le_refl, true_and, and_true, List.length, Nat.reduceLT, true_or, or_true, false_or, or_false, false_and, and_false, not_true_eq_false, not_false_eq_true, forall_const, false_implies, true_implies, Int.reduceEq, Int.reduceLT, Int.reduceLE, Int.reduceAdd, Int.reduceSub, Int.reduceMul, Int.reduceNeg, Int.reduceToNat, Int.toNat_natCast, ↓reduceIte, reduceIte, Nat.reduceEqDiff, Nat.reduceSub, Nat.reduceMul, ne_eq, Int.zero_add, Int.add_zero, Int.sub_zero, Nat.add_zero, Int.ofNat_eq_natCast, tX10_restore_63, e, e2]
      repeat' (first | (intro _) | (with_reducible assumption) | (refine And.intro ?_ ?_))
      all_goals first | omega | assumption | (refine z_fin nx ?_ rfl; first | rfl | omega | (split <;> omega) | (split <;> split <;> omega)) | skip
  have L32 : ∀ (d i : Nat), i + d = 106 → X 32 [some (.inr (.inr (10, 0, 89))), some (.inl (k : Int)), some (.inl (i : Int))] [] (z_cpy B 105 (106 * k) 93 0 i) := by
    intro d
    induction d with
    | zero =>
      intro i hi
      obtain rfl : i = 106 := by omega
      have nx := L63 180 0 (by omega)
      rw [z_cpy_0, ← hb2] at nx
      refine h32 _ _ _ ?_
      simp only [z_push, z_lpush, z_iload, z_lload, z_aload, z_istore, z_istoreP, z_lstore, z_astore, z_iinc, z_iincP, z_iadd, z_isub, z_imul, z_iaddW, z_isubW, z_imulW, z_idiv, z_irem, z_iand, z_ior, z_ixor, z_ishl, z_ishr, z_iushr, z_ineg, z_i2l, z_i2b, z_i2s, z_i2c, z_l2i, z_ladd, z_lsub, z_land, z_lor, z_lshl, z_lshr, z_lcmp, z_dup, z_pop, z_dup2, z_goto, z_tsw, z_cases, z_geti, z_getr, z_puti, z_putz, z_ald, z_iast, z_bast, z_zast, z_alen, z_acopy, z_mmax, z_mmin, z_mabs, z_mabsL, z_iret, z_zret, z_nret, z_lret, z_aret, z_vret, z_cat, z_ldcs, z_strv, z_strc, z_gcs, z_gfm, z_sln, z_sald, z_ifeq, z_ifne, z_iflt, z_ifge, z_ifgt, z_ifle, z_iceq, z_icne, z_iclt, z_icge, z_icgt, z_icle, z_cs0, z_cs1, z_cs2, z_cs3, z_cs4, z_cs5, z_cs6, z_cs7, z_cv0, z_cv1, z_cv2, z_cv3, z_cv4, z_cv5, z_cv6, z_cv7, z_g0, z_s0, z_g1, z_s1, z_g2, z_s2, z_g3, z_s3, z_g4, z_s4, z_g5, z_s5, z_g6, z_s6, z_g7, z_s7, z_g8, z_s8, z_g9, z_s9, z_g10, z_s10, z_g11, z_s11, z_g12, z_s12, z_g13, z_s13, z_b0, z_b1, z_b0n, z_b1n, z_up_far1, z_up_far2, z_up_far3, z_up_far4, z_up_far5, z_up_far6, Classical.not_not, not_true_eq_false, z_in, z_inL, Int.cast_ofNat_Int, Nat.reduceLeDiff, List.length_cons, List.length_nil, Nat.reduceAdd, Nat.zero_add, Nat.le_refl, true_and, and_true, List.length, Nat.reduceLT, true_or, or_true, false_or, or_false, false_and, and_false, not_true_eq_false, not_false_eq_true, forall_const, false_implies, true_implies, Int.reduceEq, Int.reduceLT, Int.reduceLE, Int.reduceAdd, Int.reduceSub, Int.reduceMul, Int.reduceNeg, Int.reduceToNat, Int.toNat_natCast, ↓reduceIte, reduceIte, Nat.reduceEqDiff, Nat.reduceSub, Nat.reduceMul, ne_eq, Int.zero_add, Int.add_zero, Int.sub_zero, Nat.add_zero, Int.ofNat_eq_natCast, tX10_restore_32]
      repeat' (first | (intro _) | (with_reducible assumption) | (refine And.intro ?_ ?_))
      all_goals first | omega | assumption | (refine z_fin nx ?_ rfl; first | rfl | omega | (split <;> omega) | (split <;> split <;> omega)) | skip
    | succ d ih =>
      intro i hi
      have nx := ih (i + 1) (by omega)
      rw [← z_cpy_S, Nat.zero_add] at nx
      have e : (106 * (k : Int) + (i : Int)).toNat = 106 * k + i := by omega
      have e2 : z_cpy B 105 (106 * k) 93 0 i 105 (106 * k + i) = B 105 (106 * k + i) := z_cpy_ne (by omega)
      refine h32 _ _ _ ?_
      simp only [z_push, z_lpush, z_iload, z_lload, z_aload, z_istore, z_istoreP, z_lstore, z_astore, z_iinc, z_iincP, z_iadd, z_isub, z_imul, z_iaddW, z_isubW, z_imulW, z_idiv, z_irem, z_iand, z_ior, z_ixor, z_ishl, z_ishr, z_iushr, z_ineg, z_i2l, z_i2b, z_i2s, z_i2c, z_l2i, z_ladd, z_lsub, z_land, z_lor, z_lshl, z_lshr, z_lcmp, z_dup, z_pop, z_dup2, z_goto, z_tsw, z_cases, z_geti, z_getr, z_puti, z_putz, z_ald, z_iast, z_bast, z_zast, z_alen, z_acopy, z_mmax, z_mmin, z_mabs, z_mabsL, z_iret, z_zret, z_nret, z_lret, z_aret, z_vret, z_cat, z_ldcs, z_strv, z_strc, z_gcs, z_gfm, z_sln, z_sald, z_ifeq, z_ifne, z_iflt, z_ifge, z_ifgt, z_ifle, z_iceq, z_icne, z_iclt, z_icge, z_icgt, z_icle, z_cs0, z_cs1, z_cs2, z_cs3, z_cs4, z_cs5, z_cs6, z_cs7, z_cv0, z_cv1, z_cv2, z_cv3, z_cv4, z_cv5, z_cv6, z_cv7, z_g0, z_s0, z_g1, z_s1, z_g2, z_s2, z_g3, z_s3, z_g4, z_s4, z_g5, z_s5, z_g6, z_s6, z_g7, z_s7, z_g8, z_s8, z_g9, z_s9, z_g10, z_s10, z_g11, z_s11, z_g12, z_s12, z_g13, z_s13, z_b0, z_b1, z_b0n, z_b1n, z_up_far1, z_up_far2, z_up_far3, z_up_far4, z_up_far5, z_up_far6, Classical.not_not, not_true_eq_false, z_in, z_inL, Int.cast_ofNat_Int, Nat.reduceLeDiff, List.length_cons, List.length_nil, Nat.reduceAdd, Nat.zero_add, Nat.le_refl, true_and, and_true, List.length, Nat.reduceLT, true_or, or_true, false_or, or_false, false_and, and_false, not_true_eq_false, not_false_eq_true, forall_const, false_implies, true_implies, Int.reduceEq, Int.reduceLT, Int.reduceLE, Int.reduceAdd, Int.reduceSub, Int.reduceMul, Int.reduceNeg, Int.reduceToNat, Int.toNat_natCast, ↓reduceIte, reduceIte, Nat.reduceEqDiff, Nat.reduceSub, Nat.reduceMul, ne_eq, Int.zero_add, Int.add_zero, Int.sub_zero, Nat.add_zero, Int.ofNat_eq_natCast, tX10_restore_32, e, e2]
      repeat' (first | (intro _) | (with_reducible assumption) | (refine And.intro ?_ ?_))
      all_goals first | omega | assumption | (refine z_fin nx ?_ rfl; first | rfl | omega | (split <;> omega) | (split <;> split <;> omega)) | skip
  have nx := L32 106 0 (by omega)
  rw [z_cpy_0, ← hb] at nx
  refine h0 _ _ _ ?_
  simp only [z_push, z_lpush, z_iload, z_lload, z_aload, z_istore, z_istoreP, z_lstore, z_astore, z_iinc, z_iincP, z_iadd, z_isub, z_imul, z_iaddW, z_isubW, z_imulW, z_idiv, z_irem, z_iand, z_ior, z_ixor, z_ishl, z_ishr, z_iushr, z_ineg, z_i2l, z_i2b, z_i2s, z_i2c, z_l2i, z_ladd, z_lsub, z_land, z_lor, z_lshl, z_lshr, z_lcmp, z_dup, z_pop, z_dup2, z_goto, z_tsw, z_cases, z_geti, z_getr, z_puti, z_putz, z_ald, z_iast, z_bast, z_zast, z_alen, z_acopy, z_mmax, z_mmin, z_mabs, z_mabsL, z_iret, z_zret, z_nret, z_lret, z_aret, z_vret, z_cat, z_ldcs, z_strv, z_strc, z_gcs, z_gfm, z_sln, z_sald, z_ifeq, z_ifne, z_iflt, z_ifge, z_ifgt, z_ifle, z_iceq, z_icne, z_iclt, z_icge, z_icgt, z_icle, z_cs0, z_cs1, z_cs2, z_cs3, z_cs4, z_cs5, z_cs6, z_cs7, z_cv0, z_cv1, z_cv2, z_cv3, z_cv4, z_cv5, z_cv6, z_cv7, z_g0, z_s0, z_g1, z_s1, z_g2, z_s2, z_g3, z_s3, z_g4, z_s4, z_g5, z_s5, z_g6, z_s6, z_g7, z_s7, z_g8, z_s8, z_g9, z_s9, z_g10, z_s10, z_g11, z_s11, z_g12, z_s12, z_g13, z_s13, z_b0, z_b1, z_b0n, z_b1n, z_up_far1, z_up_far2, z_up_far3, z_up_far4, z_up_far5, z_up_far6, Classical.not_not, not_true_eq_false, z_in, z_inL, Int.cast_ofNat_Int, Nat.reduceLeDiff, List.length_cons, List.length_nil, Nat.reduceAdd, Nat.zero_add, Nat.le_refl, true_and, and_true, List.length, Nat.reduceLT, true_or, or_true, false_or, or_false, false_and, and_false, not_true_eq_false, not_false_eq_true, forall_const, false_implies, true_implies, Int.reduceEq, Int.reduceLT, Int.reduceLE, Int.reduceAdd, Int.reduceSub, Int.reduceMul, Int.reduceNeg, Int.reduceToNat, Int.toNat_natCast, ↓reduceIte, reduceIte, Nat.reduceEqDiff, Nat.reduceSub, Nat.reduceMul, ne_eq, Int.zero_add, Int.add_zero, Int.sub_zero, Nat.add_zero, Int.ofNat_eq_natCast, tX10_restore_0, SX10_in, e7, c1]
  repeat' (first | (intro _) | (with_reducible assumption) | (refine And.intro ?_ ?_))
  all_goals first | omega | assumption | (refine z_fin nx ?_ rfl; first | rfl | omega | (split <;> omega) | (split <;> split <;> omega)) | skip
theorem dX10_restore_0 : decode cX10_restore 0 = .ok (.aload_n 0, 1) := by decide +kernel
theorem dX10_restore_1 : decode cX10_restore 1 = .ok (.iconst 0, 1) := by decide +kernel
theorem dX10_restore_2 : decode cX10_restore 2 = .ok (.putfield 65, 3) := by decide +kernel
theorem dX10_restore_5 : decode cX10_restore 5 = .ok (.iload_n 1, 1) := by decide +kernel
theorem dX10_restore_6 : decode cX10_restore 6 = .ok (.i2l, 1) := by decide +kernel
theorem dX10_restore_7 : decode cX10_restore 7 = .ok (.lconst 0, 1) := by decide +kernel
theorem dX10_restore_8 : decode cX10_restore 8 = .ok (.lconst 1, 1) := by decide +kernel
theorem dX10_restore_9 : decode cX10_restore 9 = .ok (.invokestatic 75, 3) := by decide +kernel
theorem dX10_restore_12 : decode cX10_restore 12 = .ok (.ifCond .ne 6, 3) := by decide +kernel
theorem dX10_restore_15 : decode cX10_restore 15 = .ok (.ldc 85, 2) := by decide +kernel
theorem dX10_restore_17 : decode cX10_restore 17 = .ok (.ireturn, 1) := by decide +kernel
theorem dX10_restore_18 : decode cX10_restore 18 = .ok (.aload_n 0, 1) := by decide +kernel
theorem dX10_restore_19 : decode cX10_restore 19 = .ok (.getfield 52, 3) := by decide +kernel
theorem dX10_restore_22 : decode cX10_restore 22 = .ok (.iload_n 1, 1) := by decide +kernel
theorem dX10_restore_23 : decode cX10_restore 23 = .ok (.baload, 1) := by decide +kernel
theorem dX10_restore_24 : decode cX10_restore 24 = .ok (.ifCond .ne 6, 3) := by decide +kernel
theorem dX10_restore_27 : decode cX10_restore 27 = .ok (.ldc 219, 2) := by decide +kernel
theorem dX10_restore_29 : decode cX10_restore 29 = .ok (.ireturn, 1) := by decide +kernel
theorem dX10_restore_30 : decode cX10_restore 30 = .ok (.iconst 0, 1) := by decide +kernel
theorem dX10_restore_31 : decode cX10_restore 31 = .ok (.istore_n 2, 1) := by decide +kernel
theorem dX10_restore_32 : decode cX10_restore 32 = .ok (.iload_n 2, 1) := by decide +kernel
theorem dX10_restore_33 : decode cX10_restore 33 = .ok (.bipush 106, 2) := by decide +kernel
theorem dX10_restore_35 : decode cX10_restore 35 = .ok (.if_icmp .ge 26, 3) := by decide +kernel
theorem dX10_restore_38 : decode cX10_restore 38 = .ok (.aload_n 0, 1) := by decide +kernel
theorem dX10_restore_39 : decode cX10_restore 39 = .ok (.getfield 19, 3) := by decide +kernel
theorem dX10_restore_42 : decode cX10_restore 42 = .ok (.iload_n 2, 1) := by decide +kernel
theorem dX10_restore_43 : decode cX10_restore 43 = .ok (.aload_n 0, 1) := by decide +kernel
theorem dX10_restore_44 : decode cX10_restore 44 = .ok (.getfield 56, 3) := by decide +kernel
theorem dX10_restore_47 : decode cX10_restore 47 = .ok (.bipush 106, 2) := by decide +kernel
theorem dX10_restore_49 : decode cX10_restore 49 = .ok (.iload_n 1, 1) := by decide +kernel
theorem dX10_restore_50 : decode cX10_restore 50 = .ok (.imul, 1) := by decide +kernel
theorem dX10_restore_51 : decode cX10_restore 51 = .ok (.iload_n 2, 1) := by decide +kernel
theorem dX10_restore_52 : decode cX10_restore 52 = .ok (.iadd, 1) := by decide +kernel
theorem dX10_restore_53 : decode cX10_restore 53 = .ok (.iaload, 1) := by decide +kernel
theorem dX10_restore_54 : decode cX10_restore 54 = .ok (.iastore, 1) := by decide +kernel
theorem dX10_restore_55 : decode cX10_restore 55 = .ok (.iinc 2 1, 3) := by decide +kernel
theorem dX10_restore_58 : decode cX10_restore 58 = .ok (.goto (-26), 3) := by decide +kernel
theorem dX10_restore_61 : decode cX10_restore 61 = .ok (.iconst 0, 1) := by decide +kernel
theorem dX10_restore_62 : decode cX10_restore 62 = .ok (.istore_n 2, 1) := by decide +kernel
theorem dX10_restore_63 : decode cX10_restore 63 = .ok (.iload_n 2, 1) := by decide +kernel
theorem dX10_restore_64 : decode cX10_restore 64 = .ok (.sipush 180, 3) := by decide +kernel
theorem dX10_restore_67 : decode cX10_restore 67 = .ok (.if_icmp .ge 27, 3) := by decide +kernel
theorem dX10_restore_70 : decode cX10_restore 70 = .ok (.aload_n 0, 1) := by decide +kernel
theorem dX10_restore_71 : decode cX10_restore 71 = .ok (.getfield 25, 3) := by decide +kernel
theorem dX10_restore_74 : decode cX10_restore 74 = .ok (.iload_n 2, 1) := by decide +kernel
theorem dX10_restore_75 : decode cX10_restore 75 = .ok (.aload_n 0, 1) := by decide +kernel
theorem dX10_restore_76 : decode cX10_restore 76 = .ok (.getfield 59, 3) := by decide +kernel
theorem dX10_restore_79 : decode cX10_restore 79 = .ok (.sipush 180, 3) := by decide +kernel
theorem dX10_restore_82 : decode cX10_restore 82 = .ok (.iload_n 1, 1) := by decide +kernel
theorem dX10_restore_83 : decode cX10_restore 83 = .ok (.imul, 1) := by decide +kernel
theorem dX10_restore_84 : decode cX10_restore 84 = .ok (.iload_n 2, 1) := by decide +kernel
theorem dX10_restore_85 : decode cX10_restore 85 = .ok (.iadd, 1) := by decide +kernel
theorem dX10_restore_86 : decode cX10_restore 86 = .ok (.iaload, 1) := by decide +kernel
theorem dX10_restore_87 : decode cX10_restore 87 = .ok (.iastore, 1) := by decide +kernel
theorem dX10_restore_88 : decode cX10_restore 88 = .ok (.iinc 2 1, 3) := by decide +kernel
theorem dX10_restore_91 : decode cX10_restore 91 = .ok (.goto (-28), 3) := by decide +kernel
theorem dX10_restore_94 : decode cX10_restore 94 = .ok (.iconst 1, 1) := by decide +kernel
theorem dX10_restore_95 : decode cX10_restore 95 = .ok (.ireturn, 1) := by decide +kernel
set_option maxRecDepth 100000 in
theorem rX10_restore_0 {p : Program} {l : Launch} {e : Env} {s : State} {m : MethodId} {args : Array Value} {below : List Frame} {meth : Method} {c : Code} {D : va_G} {cA : Nat → ClassId} {ad : Nat → Nat} {Ret : zR} (C : z_Cx p { frames := 1, cells := 0, slots := 0, locals := 25 } s m args c cX10_restore yX10_restore.cls 3 D cA ad) (hr : meth.sig.returnType = (some .int)) (hlocks : meth.locks = false) : ∀ L st σ, tX10_restore_0 (z_X p l e { frames := 1, cells := 0, slots := 0, locals := 25 } s m args below meth c (MQ below (z_Qc D cA ad Ret) args s 0 0 (z_A ad)) 3 D cA ad true) Ret L st σ → z_X p l e { frames := 1, cells := 0, slots := 0, locals := 25 } s m args below meth c (MQ below (z_Qc D cA ad Ret) args s 0 0 (z_A ad)) 3 D cA ad true 0 L st σ := (s_aload_n C dX10_restore_0 rfl (s_iconst C dX10_restore_1 rfl ⟨by decide, by decide⟩ (s_puti C dX10_restore_2 cls_X10 (by decide) rfl wd_968 rfl rfl (s_iload_n C dX10_restore_5 rfl (s_i2l C dX10_restore_6 (s_lconst C dX10_restore_7 (v := 0) rfl ⟨by decide, by decide⟩ (s_lconst C dX10_restore_8 (v := 1) rfl ⟨by decide, by decide⟩ (s_cs3 C dX10_restore_9 (okX10_in l) wd_1082 wd_1083 wd_85 wd_1084 ⟨by decide, by decide, by decide +kernel⟩ ⟨by decide, by decide⟩ (s_ifne C dX10_restore_12 (by decide) (s_aload_n C dX10_restore_18 rfl (s_getr C dX10_restore_19 (j := 30) cls_X10 (by decide) rfl (by decide) (by decide) (by decide +kernel) wd_998 (s_iload_n C dX10_restore_22 rfl (s_zald C dX10_restore_23 (s_ifne C dX10_restore_24 (by decide) (s_iconst C dX10_restore_30 rfl ⟨by decide, by decide⟩ (s_istore_n C dX10_restore_31 (by decide) rfl rfl (fun _ _ _ h => h))) (s_ldc C dX10_restore_27 (v := -1000002) wd_1191 ⟨by decide, by decide⟩ (s_iret C dX10_restore_29 hr hlocks))))))) (s_ldc C dX10_restore_15 (v := -1000001) wd_1086 ⟨by decide, by decide⟩ (s_iret C dX10_restore_17 hr hlocks)))))))))))
set_option maxRecDepth 100000 in
theorem rX10_restore_32 {p : Program} {l : Launch} {e : Env} {s : State} {m : MethodId} {args : Array Value} {below : List Frame} {meth : Method} {c : Code} {D : va_G} {cA : Nat → ClassId} {ad : Nat → Nat} {Ret : zR} (C : z_Cx p { frames := 1, cells := 0, slots := 0, locals := 25 } s m args c cX10_restore yX10_restore.cls 3 D cA ad) (hr : meth.sig.returnType = (some .int)) (hlocks : meth.locks = false) : ∀ L st σ, tX10_restore_32 (z_X p l e { frames := 1, cells := 0, slots := 0, locals := 25 } s m args below meth c (MQ below (z_Qc D cA ad Ret) args s 0 0 (z_A ad)) 3 D cA ad true) Ret L st σ → z_X p l e { frames := 1, cells := 0, slots := 0, locals := 25 } s m args below meth c (MQ below (z_Qc D cA ad Ret) args s 0 0 (z_A ad)) 3 D cA ad true 32 L st σ := (s_iload_n C dX10_restore_32 rfl (s_bipush C dX10_restore_33 rfl ⟨by decide, by decide⟩ (s_icge C dX10_restore_35 (by decide) (s_iconst C dX10_restore_61 rfl ⟨by decide, by decide⟩ (s_istore_n C dX10_restore_62 (by decide) rfl rfl (fun _ _ _ h => h))) (s_aload_n C dX10_restore_38 rfl (s_getr C dX10_restore_39 (j := 5) cls_X10 (by decide) rfl (by decide) (by decide) (by decide +kernel) wd_973 (s_iload_n C dX10_restore_42 rfl (s_aload_n C dX10_restore_43 rfl (s_getr C dX10_restore_44 (j := 31) cls_X10 (by decide) rfl (by decide) (by decide) (by decide +kernel) wd_999 (s_bipush C dX10_restore_47 rfl ⟨by decide, by decide⟩ (s_iload_n C dX10_restore_49 rfl (s_imul C dX10_restore_50 (s_iload_n C dX10_restore_51 rfl (s_iadd C dX10_restore_52 (s_iald C dX10_restore_53 (s_iast C dX10_restore_54 (s_iinc C dX10_restore_55 (by decide) rfl (s_goto C dX10_restore_58 (by decide) (fun _ _ _ h => h))))))))))))))))))
set_option maxRecDepth 100000 in
theorem rX10_restore_63 {p : Program} {l : Launch} {e : Env} {s : State} {m : MethodId} {args : Array Value} {below : List Frame} {meth : Method} {c : Code} {D : va_G} {cA : Nat → ClassId} {ad : Nat → Nat} {Ret : zR} (C : z_Cx p { frames := 1, cells := 0, slots := 0, locals := 25 } s m args c cX10_restore yX10_restore.cls 3 D cA ad) (hr : meth.sig.returnType = (some .int)) (hlocks : meth.locks = false) : ∀ L st σ, tX10_restore_63 (z_X p l e { frames := 1, cells := 0, slots := 0, locals := 25 } s m args below meth c (MQ below (z_Qc D cA ad Ret) args s 0 0 (z_A ad)) 3 D cA ad true) Ret L st σ → z_X p l e { frames := 1, cells := 0, slots := 0, locals := 25 } s m args below meth c (MQ below (z_Qc D cA ad Ret) args s 0 0 (z_A ad)) 3 D cA ad true 63 L st σ := (s_iload_n C dX10_restore_63 rfl (s_sipush C dX10_restore_64 rfl ⟨by decide, by decide⟩ (s_icge C dX10_restore_67 (by decide) (s_iconst C dX10_restore_94 rfl ⟨by decide, by decide⟩ (s_iret C dX10_restore_95 hr hlocks)) (s_aload_n C dX10_restore_70 rfl (s_getr C dX10_restore_71 (j := 8) cls_X10 (by decide) rfl (by decide) (by decide) (by decide +kernel) wd_976 (s_iload_n C dX10_restore_74 rfl (s_aload_n C dX10_restore_75 rfl (s_getr C dX10_restore_76 (j := 32) cls_X10 (by decide) rfl (by decide) (by decide) (by decide +kernel) wd_1000 (s_sipush C dX10_restore_79 rfl ⟨by decide, by decide⟩ (s_iload_n C dX10_restore_82 rfl (s_imul C dX10_restore_83 (s_iload_n C dX10_restore_84 rfl (s_iadd C dX10_restore_85 (s_iald C dX10_restore_86 (s_iast C dX10_restore_87 (s_iinc C dX10_restore_88 (by decide) rfl (s_goto C dX10_restore_91 (by decide) (fun _ _ _ h => h))))))))))))))))))
theorem okX10_restore (l : Launch) : z_OK l yX10_restore cX10_restore 3 (some .int) 1 25 SX10_restore := by
  refine z_ok_of true (by decide +kernel) ?_ ?_
  · intro as σ Ret h
    obtain ⟨k0, x1, rfl⟩ := pX10_restore h
    exact ⟨Nat.le_of_ble_eq_true rfl, by simp⟩
  · intro p e s m args below meth c D cA ad Ret C hr hlocks as σ has hσ h
    obtain ⟨k0, x1, rfl⟩ := pX10_restore h
    exact vX10_restore (rX10_restore_0 C hr hlocks) (rX10_restore_32 C hr hlocks) (rX10_restore_63 C hr hlocks) k0 x1 σ (has _ (List.mem_of_getElem? (i := 0) rfl)) (has _ (List.mem_of_getElem? (i := 1) rfl)) hσ h
def SX10_hung : zS := fun as σ Ret => match as with
  | [.inr (.inr (10, 0, _)), .inl p, .inl g, .inl u, .inl y] => q_S10 (q_gHung p g u y) q_fId σ Ret
  | _ => False
def tX10_hung_0 (X : Nat → zB) (Ret : zR) (L : zL) (st : List zV) (σ : zM) : Prop := (z_aload 0 (z_push 0 (z_puti 10 0 (z_iload 1 (z_i2l (z_lpush 1 (z_lpush 20 (z_cs3 SX10_in (z_ifeq (z_push (-1000001) (z_iret Ret)) (z_iload 2 (z_i2l (z_lpush 0 (z_lpush 5 (z_cs3 SX10_in (z_ifeq (z_push (-1000001) (z_iret Ret)) (z_iload 3 (z_i2l (z_lpush 0 (z_lpush 2000 (z_cs3 SX10_in (z_ifeq (z_push (-1000001) (z_iret Ret)) (z_iload 4 (z_i2l (z_lpush 0 (z_lpush 60 (z_cs3 SX10_in (z_ifne (z_push 10 (z_istore 5 (X 61))) (z_push (-1000001) (z_iret Ret))))))))))))))))))))))))))))) L st σ
def tX10_hung_61 (X : Nat → zB) (Ret : zR) (L : zL) (st : List zV) (σ : zM) : Prop := (z_iload 5 (z_push 99 (z_icgt (z_push (-1000000) (z_iret Ret)) (z_push 1000 (z_iload 1 (z_imul (z_aload 0 (z_iload 5 (z_iload 2 (z_iload 4 (z_imul (z_iadd (z_cv1 10 SX10_lengthOf (z_idiv (z_iload 3 (z_icne (z_iinc 5 1 (z_goto (X 61))) (z_iload 5 (z_iret Ret)))))))))))))))))) L st σ
theorem pX10_hung {as : List zV} {σ : zM} {Ret : zR} (h : SX10_hung as σ Ret) : ∃ (k0 : Nat) (x1 : Int) (x2 : Int) (x3 : Int) (x4 : Int), as = [.inr (.inr (10, 0, k0)), .inl x1, .inl x2, .inl x3, .inl x4] := by
  unfold SX10_hung at h
  split at h
  · exact ⟨_, _, _, _, _, rfl⟩
  · exact h.elim
set_option maxRecDepth 10000 in
set_option maxHeartbeats 4000000 in
theorem vX10_hung {X : Nat → zB} {Ret : zR} (h0 : ∀ L st σ, tX10_hung_0 X Ret L st σ → X 0 L st σ) (h61 : ∀ L st σ, tX10_hung_61 X Ret L st σ → X 61 L st σ) (k0 : Nat) (x1 : Int) (x2 : Int) (x3 : Int) (x4 : Int) (σ : zM) (hk0 : z_kd k0 = (10, 0)) (hx1 : -2147483648 ≤ x1 ∧ x1 ≤ 2147483647) (hx2 : -2147483648 ≤ x2 ∧ x2 ≤ 2147483647) (hx3 : -2147483648 ≤ x3 ∧ x3 ≤ 2147483647) (hx4 : -2147483648 ≤ x4 ∧ x4 ≤ 2147483647) (hσ : z_okm σ) (h : SX10_hung [.inr (.inr (10, 0, k0)), .inl x1, .inl x2, .inl x3, .inl x4] σ Ret) : X 0 [some (.inr (.inr (10, 0, k0))), some (.inl x1), some (.inl x2), some (.inl x3), some (.inl x4), none] [] σ := by
  obtain ⟨m, h⟩ := h
  obtain rfl := z_kd10 hk0
  have fin := h (z_up σ 89 0 0) q_th.1 q_th.2
  unfold q_gHung at fin
  by_cases c : ¬ ((1 ≤ x1 ∧ x1 ≤ 20) ∧ (0 ≤ x2 ∧ x2 ≤ 5) ∧ (0 ≤ x3 ∧ x3 ≤ 2000) ∧ 0 ≤ x4 ∧ x4 ≤ 60)
  · rw [if_pos c] at fin
    refine h0 _ _ _ ?_
    simp only [z_push, z_lpush, z_iload, z_lload, z_aload, z_istore, z_istoreP, z_lstore, z_astore, z_iinc, z_iincP, z_iadd, z_isub, z_imul, z_iaddW, z_isubW, z_imulW, z_idiv, z_irem, z_iand, z_ior, z_ixor, z_ishl, z_ishr, z_iushr, z_ineg, z_i2l, z_i2b, z_i2s, z_i2c, z_l2i, z_ladd, z_lsub, z_land, z_lor, z_lshl, z_lshr, z_lcmp, z_dup, z_pop, z_dup2, z_goto, z_tsw, z_cases, z_geti, z_getr, z_puti, z_putz, z_ald, z_iast, z_bast, z_zast, z_alen, z_acopy, z_mmax, z_mmin, z_mabs, z_mabsL, z_iret, z_zret, z_nret, z_lret, z_aret, z_vret, z_cat, z_ldcs, z_strv, z_strc, z_gcs, z_gfm, z_sln, z_sald, z_ifeq, z_ifne, z_iflt, z_ifge, z_ifgt, z_ifle, z_iceq, z_icne, z_iclt, z_icge, z_icgt, z_icle, z_cs0, z_cs1, z_cs2, z_cs3, z_cs4, z_cs5, z_cs6, z_cs7, z_cv0, z_cv1, z_cv2, z_cv3, z_cv4, z_cv5, z_cv6, z_cv7, z_g0, z_s0, z_g1, z_s1, z_g2, z_s2, z_g3, z_s3, z_g4, z_s4, z_g5, z_s5, z_g6, z_s6, z_g7, z_s7, z_g8, z_s8, z_g9, z_s9, z_g10, z_s10, z_g11, z_s11, z_g12, z_s12, z_g13, z_s13, z_b0, z_b1, z_b0n, z_b1n, z_up_far1, z_up_far2, z_up_far3, z_up_far4, z_up_far5, z_up_far6, Classical.not_not, not_true_eq_false, z_in, z_inL, Int.cast_ofNat_Int, Nat.reduceLeDiff, List.length_cons, List.length_nil, Nat.reduceAdd, Nat.zero_add, Nat.le_refl, true_and, and_true, List.length, Nat.reduceLT, true_or, or_true, false_or, or_false, false_and, and_false, not_true_eq_false, not_false_eq_true, forall_const, false_implies, true_implies, Int.reduceEq, Int.reduceLT, Int.reduceLE, Int.reduceAdd, Int.reduceSub, Int.reduceMul, Int.reduceNeg, Int.reduceToNat, Int.toNat_natCast, ↓reduceIte, reduceIte, Nat.reduceEqDiff, Nat.reduceSub, Nat.reduceMul, ne_eq, Int.zero_add, Int.add_zero, Int.sub_zero, Nat.add_zero, Int.ofNat_eq_natCast, tX10_hung_0, SX10_in]
    repeat' (first | (intro _) | (with_reducible assumption) | (refine And.intro ?_ ?_))
    all_goals first | omega | assumption | (refine z_fin fin ?_ rfl; first | rfl | omega | (split <;> omega) | (split <;> split <;> omega)) | skip
  rw [if_neg c] at fin
  have ha : 0 ≤ x2 * x4 ∧ x2 * x4 ≤ 300 := by
    obtain ⟨a, rfl⟩ := z_nat (show 0 ≤ x2 by omega)
    obtain ⟨b, rfl⟩ := z_nat (show 0 ≤ x4 by omega)
    have h1 : a * b ≤ 5 * 60 := Nat.mul_le_mul (by omega) (by omega)
    have h2 : (a : Int) * (b : Int) = ((a * b : Nat) : Int) := by push_cast; rfl
    omega
  have L61 : ∀ (d i : Nat), i + d = 100 → Ret (some (.inl (q_hg x1 x3 (x2 * x4) d i))) (z_up σ 89 0 0) → 10 ≤ i → X 61 [some (.inr (.inr (10, 0, 89))), some (.inl x1), some (.inl x2), some (.inl x3), some (.inl x4), some (.inl (i : Int))] [] (z_up σ 89 0 0) := by
    intro d
    induction d with
    | zero =>
      intro i hi hr h10
      rw [q_hg] at hr
      refine h61 _ _ _ ?_
      simp only [z_push, z_lpush, z_iload, z_lload, z_aload, z_istore, z_istoreP, z_lstore, z_astore, z_iinc, z_iincP, z_iadd, z_isub, z_imul, z_iaddW, z_isubW, z_imulW, z_idiv, z_irem, z_iand, z_ior, z_ixor, z_ishl, z_ishr, z_iushr, z_ineg, z_i2l, z_i2b, z_i2s, z_i2c, z_l2i, z_ladd, z_lsub, z_land, z_lor, z_lshl, z_lshr, z_lcmp, z_dup, z_pop, z_dup2, z_goto, z_tsw, z_cases, z_geti, z_getr, z_puti, z_putz, z_ald, z_iast, z_bast, z_zast, z_alen, z_acopy, z_mmax, z_mmin, z_mabs, z_mabsL, z_iret, z_zret, z_nret, z_lret, z_aret, z_vret, z_cat, z_ldcs, z_strv, z_strc, z_gcs, z_gfm, z_sln, z_sald, z_ifeq, z_ifne, z_iflt, z_ifge, z_ifgt, z_ifle, z_iceq, z_icne, z_iclt, z_icge, z_icgt, z_icle, z_cs0, z_cs1, z_cs2, z_cs3, z_cs4, z_cs5, z_cs6, z_cs7, z_cv0, z_cv1, z_cv2, z_cv3, z_cv4, z_cv5, z_cv6, z_cv7, z_g0, z_s0, z_g1, z_s1, z_g2, z_s2, z_g3, z_s3, z_g4, z_s4, z_g5, z_s5, z_g6, z_s6, z_g7, z_s7, z_g8, z_s8, z_g9, z_s9, z_g10, z_s10, z_g11, z_s11, z_g12, z_s12, z_g13, z_s13, z_b0, z_b1, z_b0n, z_b1n, z_up_far1, z_up_far2, z_up_far3, z_up_far4, z_up_far5, z_up_far6, Classical.not_not, not_true_eq_false, z_in, z_inL, Int.cast_ofNat_Int, Nat.reduceLeDiff, List.length_cons, List.length_nil, Nat.reduceAdd, Nat.zero_add, Nat.le_refl, true_and, and_true, List.length, Nat.reduceLT, true_or, or_true, false_or, or_false, false_and, and_false, not_true_eq_false, not_false_eq_true, forall_const, false_implies, true_implies, Int.reduceEq, Int.reduceLT, Int.reduceLE, Int.reduceAdd, Int.reduceSub, Int.reduceMul, Int.reduceNeg, Int.reduceToNat, Int.toNat_natCast, ↓reduceIte, reduceIte, Nat.reduceEqDiff, Nat.reduceSub, Nat.reduceMul, ne_eq, Int.zero_add, Int.add_zero, Int.sub_zero, Nat.add_zero, Int.ofNat_eq_natCast, tX10_hung_61]
      repeat' (first | (intro _) | (with_reducible assumption) | (refine And.intro ?_ ?_))
      all_goals first | omega | assumption | (refine z_fin hr ?_ rfl; first | rfl | omega | (split <;> omega) | (split <;> split <;> omega)) | skip
    | succ d ih =>
      intro i hi hr h10
      rw [q_hg] at hr
      have cl := q_clamp ((i : Int) + x2 * x4)
      have dr := q_dry_in (p := x1) (l := max 10 (min 999 ((i : Int) + x2 * x4))) (by omega) (by omega)
      unfold q_dry at hr dr
      refine h61 _ _ _ ?_
      simp only [z_push, z_lpush, z_iload, z_lload, z_aload, z_istore, z_istoreP, z_lstore, z_astore, z_iinc, z_iincP, z_iadd, z_isub, z_imul, z_iaddW, z_isubW, z_imulW, z_idiv, z_irem, z_iand, z_ior, z_ixor, z_ishl, z_ishr, z_iushr, z_ineg, z_i2l, z_i2b, z_i2s, z_i2c, z_l2i, z_ladd, z_lsub, z_land, z_lor, z_lshl, z_lshr, z_lcmp, z_dup, z_pop, z_dup2, z_goto, z_tsw, z_cases, z_geti, z_getr, z_puti, z_putz, z_ald, z_iast, z_bast, z_zast, z_alen, z_acopy, z_mmax, z_mmin, z_mabs, z_mabsL, z_iret, z_zret, z_nret, z_lret, z_aret, z_vret, z_cat, z_ldcs, z_strv, z_strc, z_gcs, z_gfm, z_sln, z_sald, z_ifeq, z_ifne, z_iflt, z_ifge, z_ifgt, z_ifle, z_iceq, z_icne, z_iclt, z_icge, z_icgt, z_icle, z_cs0, z_cs1, z_cs2, z_cs3, z_cs4, z_cs5, z_cs6, z_cs7, z_cv0, z_cv1, z_cv2, z_cv3, z_cv4, z_cv5, z_cv6, z_cv7, z_g0, z_s0, z_g1, z_s1, z_g2, z_s2, z_g3, z_s3, z_g4, z_s4, z_g5, z_s5, z_g6, z_s6, z_g7, z_s7, z_g8, z_s8, z_g9, z_s9, z_g10, z_s10, z_g11, z_s11, z_g12, z_s12, z_g13, z_s13, z_b0, z_b1, z_b0n, z_b1n, z_up_far1, z_up_far2, z_up_far3, z_up_far4, z_up_far5, z_up_far6, Classical.not_not, not_true_eq_false, z_in, z_inL, Int.cast_ofNat_Int, Nat.reduceLeDiff, List.length_cons, List.length_nil, Nat.reduceAdd, Nat.zero_add, Nat.le_refl, true_and, and_true, List.length, Nat.reduceLT, true_or, or_true, false_or, or_false, false_and, and_false, not_true_eq_false, not_false_eq_true, forall_const, false_implies, true_implies, Int.reduceEq, Int.reduceLT, Int.reduceLE, Int.reduceAdd, Int.reduceSub, Int.reduceMul, Int.reduceNeg, Int.reduceToNat, Int.toNat_natCast, ↓reduceIte, reduceIte, Nat.reduceEqDiff, Nat.reduceSub, Nat.reduceMul, ne_eq, Int.zero_add, Int.add_zero, Int.sub_zero, Nat.add_zero, Int.ofNat_eq_natCast, tX10_hung_61, SX10_lengthOf]
      by_cases e : (1000 * x1).tdiv (max 10 (min 999 ((i : Int) + x2 * x4))) = x3
      · rw [if_pos e] at hr
        repeat' (first | (intro _) | (with_reducible assumption) | (refine And.intro ?_ ?_))
        all_goals first | omega | assumption | (refine z_fin hr ?_ rfl; first | rfl | omega | (split <;> omega) | (split <;> split <;> omega)) | skip
      · rw [if_neg e] at hr
        have nx := ih (i + 1) (by omega) hr (by omega)
        repeat' (first | (intro _) | (with_reducible assumption) | (refine And.intro ?_ ?_))
        all_goals first | omega | assumption | (refine z_fin nx ?_ rfl; first | rfl | omega | (split <;> omega) | (split <;> split <;> omega)) | skip
  have nx := L61 90 10 (by omega) fin (by omega)
  refine h0 _ _ _ ?_
  simp only [z_push, z_lpush, z_iload, z_lload, z_aload, z_istore, z_istoreP, z_lstore, z_astore, z_iinc, z_iincP, z_iadd, z_isub, z_imul, z_iaddW, z_isubW, z_imulW, z_idiv, z_irem, z_iand, z_ior, z_ixor, z_ishl, z_ishr, z_iushr, z_ineg, z_i2l, z_i2b, z_i2s, z_i2c, z_l2i, z_ladd, z_lsub, z_land, z_lor, z_lshl, z_lshr, z_lcmp, z_dup, z_pop, z_dup2, z_goto, z_tsw, z_cases, z_geti, z_getr, z_puti, z_putz, z_ald, z_iast, z_bast, z_zast, z_alen, z_acopy, z_mmax, z_mmin, z_mabs, z_mabsL, z_iret, z_zret, z_nret, z_lret, z_aret, z_vret, z_cat, z_ldcs, z_strv, z_strc, z_gcs, z_gfm, z_sln, z_sald, z_ifeq, z_ifne, z_iflt, z_ifge, z_ifgt, z_ifle, z_iceq, z_icne, z_iclt, z_icge, z_icgt, z_icle, z_cs0, z_cs1, z_cs2, z_cs3, z_cs4, z_cs5, z_cs6, z_cs7, z_cv0, z_cv1, z_cv2, z_cv3, z_cv4, z_cv5, z_cv6, z_cv7, z_g0, z_s0, z_g1, z_s1, z_g2, z_s2, z_g3, z_s3, z_g4, z_s4, z_g5, z_s5, z_g6, z_s6, z_g7, z_s7, z_g8, z_s8, z_g9, z_s9, z_g10, z_s10, z_g11, z_s11, z_g12, z_s12, z_g13, z_s13, z_b0, z_b1, z_b0n, z_b1n, z_up_far1, z_up_far2, z_up_far3, z_up_far4, z_up_far5, z_up_far6, Classical.not_not, not_true_eq_false, z_in, z_inL, Int.cast_ofNat_Int, Nat.reduceLeDiff, List.length_cons, List.length_nil, Nat.reduceAdd, Nat.zero_add, Nat.le_refl, true_and, and_true, List.length, Nat.reduceLT, true_or, or_true, false_or, or_false, false_and, and_false, not_true_eq_false, not_false_eq_true, forall_const, false_implies, true_implies, Int.reduceEq, Int.reduceLT, Int.reduceLE, Int.reduceAdd, Int.reduceSub, Int.reduceMul, Int.reduceNeg, Int.reduceToNat, Int.toNat_natCast, ↓reduceIte, reduceIte, Nat.reduceEqDiff, Nat.reduceSub, Nat.reduceMul, ne_eq, Int.zero_add, Int.add_zero, Int.sub_zero, Nat.add_zero, Int.ofNat_eq_natCast, tX10_hung_0, SX10_in]
  repeat' (first | (intro _) | (with_reducible assumption) | (refine And.intro ?_ ?_))
  all_goals first | omega | assumption | (refine z_fin nx ?_ rfl; first | rfl | omega | (split <;> omega) | (split <;> split <;> omega)) | skip
theorem dX10_hung_0 : decode cX10_hung 0 = .ok (.aload_n 0, 1) := by decide +kernel
theorem dX10_hung_1 : decode cX10_hung 1 = .ok (.iconst 0, 1) := by decide +kernel
theorem dX10_hung_2 : decode cX10_hung 2 = .ok (.putfield 65, 3) := by decide +kernel
theorem dX10_hung_5 : decode cX10_hung 5 = .ok (.iload_n 1, 1) := by decide +kernel
theorem dX10_hung_6 : decode cX10_hung 6 = .ok (.i2l, 1) := by decide +kernel
theorem dX10_hung_7 : decode cX10_hung 7 = .ok (.lconst 1, 1) := by decide +kernel
theorem dX10_hung_8 : decode cX10_hung 8 = .ok (.ldc2_w 271, 3) := by decide +kernel
theorem dX10_hung_11 : decode cX10_hung 11 = .ok (.invokestatic 75, 3) := by decide +kernel
theorem dX10_hung_14 : decode cX10_hung 14 = .ok (.ifCond .eq 40, 3) := by decide +kernel
theorem dX10_hung_17 : decode cX10_hung 17 = .ok (.iload_n 2, 1) := by decide +kernel
theorem dX10_hung_18 : decode cX10_hung 18 = .ok (.i2l, 1) := by decide +kernel
theorem dX10_hung_19 : decode cX10_hung 19 = .ok (.lconst 0, 1) := by decide +kernel
theorem dX10_hung_20 : decode cX10_hung 20 = .ok (.ldc2_w 298, 3) := by decide +kernel
theorem dX10_hung_23 : decode cX10_hung 23 = .ok (.invokestatic 75, 3) := by decide +kernel
theorem dX10_hung_26 : decode cX10_hung 26 = .ok (.ifCond .eq 28, 3) := by decide +kernel
theorem dX10_hung_29 : decode cX10_hung 29 = .ok (.iload_n 3, 1) := by decide +kernel
theorem dX10_hung_30 : decode cX10_hung 30 = .ok (.i2l, 1) := by decide +kernel
theorem dX10_hung_31 : decode cX10_hung 31 = .ok (.lconst 0, 1) := by decide +kernel
theorem dX10_hung_32 : decode cX10_hung 32 = .ok (.ldc2_w 300, 3) := by decide +kernel
theorem dX10_hung_35 : decode cX10_hung 35 = .ok (.invokestatic 75, 3) := by decide +kernel
theorem dX10_hung_38 : decode cX10_hung 38 = .ok (.ifCond .eq 16, 3) := by decide +kernel
theorem dX10_hung_41 : decode cX10_hung 41 = .ok (.iload 4, 2) := by decide +kernel
theorem dX10_hung_43 : decode cX10_hung 43 = .ok (.i2l, 1) := by decide +kernel
theorem dX10_hung_44 : decode cX10_hung 44 = .ok (.lconst 0, 1) := by decide +kernel
theorem dX10_hung_45 : decode cX10_hung 45 = .ok (.ldc2_w 230, 3) := by decide +kernel
theorem dX10_hung_48 : decode cX10_hung 48 = .ok (.invokestatic 75, 3) := by decide +kernel
theorem dX10_hung_51 : decode cX10_hung 51 = .ok (.ifCond .ne 6, 3) := by decide +kernel
theorem dX10_hung_54 : decode cX10_hung 54 = .ok (.ldc 85, 2) := by decide +kernel
theorem dX10_hung_56 : decode cX10_hung 56 = .ok (.ireturn, 1) := by decide +kernel
theorem dX10_hung_57 : decode cX10_hung 57 = .ok (.bipush 10, 2) := by decide +kernel
theorem dX10_hung_59 : decode cX10_hung 59 = .ok (.istore 5, 2) := by decide +kernel
theorem dX10_hung_61 : decode cX10_hung 61 = .ok (.iload 5, 2) := by decide +kernel
theorem dX10_hung_63 : decode cX10_hung 63 = .ok (.bipush 99, 2) := by decide +kernel
theorem dX10_hung_65 : decode cX10_hung 65 = .ok (.if_icmp .gt 33, 3) := by decide +kernel
theorem dX10_hung_68 : decode cX10_hung 68 = .ok (.sipush 1000, 3) := by decide +kernel
theorem dX10_hung_71 : decode cX10_hung 71 = .ok (.iload_n 1, 1) := by decide +kernel
theorem dX10_hung_72 : decode cX10_hung 72 = .ok (.imul, 1) := by decide +kernel
theorem dX10_hung_73 : decode cX10_hung 73 = .ok (.aload_n 0, 1) := by decide +kernel
theorem dX10_hung_74 : decode cX10_hung 74 = .ok (.iload 5, 2) := by decide +kernel
theorem dX10_hung_76 : decode cX10_hung 76 = .ok (.iload_n 2, 1) := by decide +kernel
theorem dX10_hung_77 : decode cX10_hung 77 = .ok (.iload 4, 2) := by decide +kernel
theorem dX10_hung_79 : decode cX10_hung 79 = .ok (.imul, 1) := by decide +kernel
theorem dX10_hung_80 : decode cX10_hung 80 = .ok (.iadd, 1) := by decide +kernel
theorem dX10_hung_81 : decode cX10_hung 81 = .ok (.invokevirtual 216, 3) := by decide +kernel
theorem dX10_hung_84 : decode cX10_hung 84 = .ok (.idiv, 1) := by decide +kernel
theorem dX10_hung_85 : decode cX10_hung 85 = .ok (.iload_n 3, 1) := by decide +kernel
theorem dX10_hung_86 : decode cX10_hung 86 = .ok (.if_icmp .ne 6, 3) := by decide +kernel
theorem dX10_hung_89 : decode cX10_hung 89 = .ok (.iload 5, 2) := by decide +kernel
theorem dX10_hung_91 : decode cX10_hung 91 = .ok (.ireturn, 1) := by decide +kernel
theorem dX10_hung_92 : decode cX10_hung 92 = .ok (.iinc 5 1, 3) := by decide +kernel
theorem dX10_hung_95 : decode cX10_hung 95 = .ok (.goto (-34), 3) := by decide +kernel
theorem dX10_hung_98 : decode cX10_hung 98 = .ok (.ldc 101, 2) := by decide +kernel
theorem dX10_hung_100 : decode cX10_hung 100 = .ok (.ireturn, 1) := by decide +kernel
set_option maxRecDepth 100000 in
theorem rX10_hung_0 {p : Program} {l : Launch} {e : Env} {s : State} {m : MethodId} {args : Array Value} {below : List Frame} {meth : Method} {c : Code} {D : va_G} {cA : Nat → ClassId} {ad : Nat → Nat} {Ret : zR} (C : z_Cx p { frames := 1, cells := 0, slots := 0, locals := 25 } s m args c cX10_hung yX10_hung.cls 6 D cA ad) (hr : meth.sig.returnType = (some .int)) (hlocks : meth.locks = false) : ∀ L st σ, tX10_hung_0 (z_X p l e { frames := 1, cells := 0, slots := 0, locals := 25 } s m args below meth c (MQ below (z_Qc D cA ad Ret) args s 0 0 (z_A ad)) 6 D cA ad true) Ret L st σ → z_X p l e { frames := 1, cells := 0, slots := 0, locals := 25 } s m args below meth c (MQ below (z_Qc D cA ad Ret) args s 0 0 (z_A ad)) 6 D cA ad true 0 L st σ := (s_aload_n C dX10_hung_0 rfl (s_iconst C dX10_hung_1 rfl ⟨by decide, by decide⟩ (s_puti C dX10_hung_2 cls_X10 (by decide) rfl wd_968 rfl rfl (s_iload_n C dX10_hung_5 rfl (s_i2l C dX10_hung_6 (s_lconst C dX10_hung_7 (v := 1) rfl ⟨by decide, by decide⟩ (s_ldc2 C dX10_hung_8 (v := 20) wd_1295 ⟨by decide, by decide⟩ (s_cs3 C dX10_hung_11 (okX10_in l) wd_1082 wd_1083 wd_85 wd_1084 ⟨by decide, by decide, by decide +kernel⟩ ⟨by decide, by decide⟩ (s_ifeq C dX10_hung_14 (by decide) (s_ldc C dX10_hung_54 (v := -1000001) wd_1086 ⟨by decide, by decide⟩ (s_iret C dX10_hung_56 hr hlocks)) (s_iload_n C dX10_hung_17 rfl (s_i2l C dX10_hung_18 (s_lconst C dX10_hung_19 (v := 0) rfl ⟨by decide, by decide⟩ (s_ldc2 C dX10_hung_20 (v := 5) wd_1330 ⟨by decide, by decide⟩ (s_cs3 C dX10_hung_23 (okX10_in l) wd_1082 wd_1083 wd_85 wd_1084 ⟨by decide, by decide, by decide +kernel⟩ ⟨by decide, by decide⟩ (s_ifeq C dX10_hung_26 (by decide) (s_ldc C dX10_hung_54 (v := -1000001) wd_1086 ⟨by decide, by decide⟩ (s_iret C dX10_hung_56 hr hlocks)) (s_iload_n C dX10_hung_29 rfl (s_i2l C dX10_hung_30 (s_lconst C dX10_hung_31 (v := 0) rfl ⟨by decide, by decide⟩ (s_ldc2 C dX10_hung_32 (v := 2000) wd_1331 ⟨by decide, by decide⟩ (s_cs3 C dX10_hung_35 (okX10_in l) wd_1082 wd_1083 wd_85 wd_1084 ⟨by decide, by decide, by decide +kernel⟩ ⟨by decide, by decide⟩ (s_ifeq C dX10_hung_38 (by decide) (s_ldc C dX10_hung_54 (v := -1000001) wd_1086 ⟨by decide, by decide⟩ (s_iret C dX10_hung_56 hr hlocks)) (s_iload C dX10_hung_41 (s_i2l C dX10_hung_43 (s_lconst C dX10_hung_44 (v := 0) rfl ⟨by decide, by decide⟩ (s_ldc2 C dX10_hung_45 (v := 60) wd_1227 ⟨by decide, by decide⟩ (s_cs3 C dX10_hung_48 (okX10_in l) wd_1082 wd_1083 wd_85 wd_1084 ⟨by decide, by decide, by decide +kernel⟩ ⟨by decide, by decide⟩ (s_ifne C dX10_hung_51 (by decide) (s_bipush C dX10_hung_57 rfl ⟨by decide, by decide⟩ (s_istore C dX10_hung_59 (by decide) rfl (fun _ _ _ h => h))) (s_ldc C dX10_hung_54 (v := -1000001) wd_1086 ⟨by decide, by decide⟩ (s_iret C dX10_hung_56 hr hlocks)))))))))))))))))))))))))))))
set_option maxRecDepth 100000 in
theorem rX10_hung_61 {p : Program} {l : Launch} {e : Env} {s : State} {m : MethodId} {args : Array Value} {below : List Frame} {meth : Method} {c : Code} {D : va_G} {cA : Nat → ClassId} {ad : Nat → Nat} {Ret : zR} (C : z_Cx p { frames := 1, cells := 0, slots := 0, locals := 25 } s m args c cX10_hung yX10_hung.cls 6 D cA ad) (hr : meth.sig.returnType = (some .int)) (hlocks : meth.locks = false) : ∀ L st σ, tX10_hung_61 (z_X p l e { frames := 1, cells := 0, slots := 0, locals := 25 } s m args below meth c (MQ below (z_Qc D cA ad Ret) args s 0 0 (z_A ad)) 6 D cA ad true) Ret L st σ → z_X p l e { frames := 1, cells := 0, slots := 0, locals := 25 } s m args below meth c (MQ below (z_Qc D cA ad Ret) args s 0 0 (z_A ad)) 6 D cA ad true 61 L st σ := (s_iload C dX10_hung_61 (s_bipush C dX10_hung_63 rfl ⟨by decide, by decide⟩ (s_icgt C dX10_hung_65 (by decide) (s_ldc C dX10_hung_98 (v := -1000000) wd_1127 ⟨by decide, by decide⟩ (s_iret C dX10_hung_100 hr hlocks)) (s_sipush C dX10_hung_68 rfl ⟨by decide, by decide⟩ (s_iload_n C dX10_hung_71 rfl (s_imul C dX10_hung_72 (s_aload_n C dX10_hung_73 rfl (s_iload C dX10_hung_74 (s_iload_n C dX10_hung_76 rfl (s_iload C dX10_hung_77 (s_imul C dX10_hung_79 (s_iadd C dX10_hung_80 (s_cv1 C dX10_hung_81 (okX10_lengthOf l) cls_X10 wd_1211 wd_1213 wd_53 wd_85 wd_1214 ⟨by decide, by decide, by decide +kernel⟩ ⟨by decide, by decide⟩ (s_idiv C dX10_hung_84 (s_iload_n C dX10_hung_85 rfl (s_icne C dX10_hung_86 (by decide) (s_iinc C dX10_hung_92 (by decide) rfl (s_goto C dX10_hung_95 (by decide) (fun _ _ _ h => h))) (s_iload C dX10_hung_89 (s_iret C dX10_hung_91 hr hlocks))))))))))))))))))
theorem okX10_hung (l : Launch) : z_OK l yX10_hung cX10_hung 6 (some .int) 1 25 SX10_hung := by
  refine z_ok_of true (by decide +kernel) ?_ ?_
  · intro as σ Ret h
    obtain ⟨k0, x1, x2, x3, x4, rfl⟩ := pX10_hung h
    exact ⟨Nat.le_of_ble_eq_true rfl, by simp⟩
  · intro p e s m args below meth c D cA ad Ret C hr hlocks as σ has hσ h
    obtain ⟨k0, x1, x2, x3, x4, rfl⟩ := pX10_hung h
    exact vX10_hung (rX10_hung_0 C hr hlocks) (rX10_hung_61 C hr hlocks) k0 x1 x2 x3 x4 σ (has _ (List.mem_of_getElem? (i := 0) rfl)) (has _ (List.mem_of_getElem? (i := 1) rfl)) (has _ (List.mem_of_getElem? (i := 2) rfl)) (has _ (List.mem_of_getElem? (i := 3) rfl)) (has _ (List.mem_of_getElem? (i := 4) rfl)) hσ h
