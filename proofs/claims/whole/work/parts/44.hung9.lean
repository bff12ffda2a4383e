/-! hung, asked of the program -/
def q_hg (p u a : Int) : Nat → Nat → Int
  | 0, _ => -1000000
  | n + 1, l => if q_dry p (max 10 (min 999 ((l : Int) + a))) = u then l else q_hg p u a n (l + 1)
def q_gHung (p g u y : Int) (_ : zM) : Int := if ¬ ((1 ≤ p ∧ p ≤ 20) ∧ (0 ≤ g ∧ g ≤ 5) ∧ (0 ≤ u ∧ u ≤ 2000) ∧ 0 ≤ y ∧ y ≤ 60) then -1000001 else q_hg p u (g * y) 90 10
def SX9_hung : zS := fun as σ Ret => match as with
  | [.inr (.inr (9, 0, _)), .inl p, .inl g, .inl u, .inl y] => q_S9 (q_gHung p g u y) q_fId σ Ret
  | _ => False
def tX9_hung_0 (X : Nat → zB) (Ret : zR) (L : zL) (st : List zV) (σ : zM) : Prop := (z_iload 1 (z_push 1 (z_iclt (z_push (-1000001) (z_iret Ret)) (z_iload 1 (z_push 20 (z_icgt (z_push (-1000001) (z_iret Ret)) (z_iload 2 (z_iflt (z_push (-1000001) (z_iret Ret)) (z_iload 2 (z_push 5 (z_icgt (z_push (-1000001) (z_iret Ret)) (z_iload 3 (z_iflt (z_push (-1000001) (z_iret Ret)) (z_iload 3 (z_push 2000 (z_icgt (z_push (-1000001) (z_iret Ret)) (z_iload 4 (z_iflt (z_push (-1000001) (z_iret Ret)) (z_iload 4 (z_push 60 (z_icle (z_push 10 (z_istore 5 (X 50))) (z_push (-1000001) (z_iret Ret))))))))))))))))))))))) L st σ
def tX9_hung_50 (X : Nat → zB) (Ret : zR) (L : zL) (st : List zV) (σ : zM) : Prop := (z_iload 5 (z_push 99 (z_icgt (z_push (-1000000) (z_iret Ret)) (z_iload 1 (z_iload 5 (z_iload 4 (z_iload 2 (z_imul (z_cs2 SX6_longer (z_cs2 SX8_dryTone (z_iload 3 (z_icne (z_iinc 5 1 (z_goto (X 50))) (z_iload 5 (z_iret Ret)))))))))))))) L st σ
theorem pX9_hung {as : List zV} {σ : zM} {Ret : zR} (h : SX9_hung as σ Ret) : ∃ (k0 : Nat) (x1 : Int) (x2 : Int) (x3 : Int) (x4 : Int), as = [.inr (.inr (9, 0, k0)), .inl x1, .inl x2, .inl x3, .inl x4] := by
  unfold SX9_hung at h
  split at h
  · exact ⟨_, _, _, _, _, rfl⟩
  · exact h.elim
set_option maxRecDepth 10000 in
set_option maxHeartbeats 4000000 in
theorem vX9_hung {X : Nat → zB} {Ret : zR} (h0 : ∀ L st σ, tX9_hung_0 X Ret L st σ → X 0 L st σ) (h50 : ∀ L st σ, tX9_hung_50 X Ret L st σ → X 50 L st σ) (k0 : Nat) (x1 : Int) (x2 : Int) (x3 : Int) (x4 : Int) (σ : zM) (hk0 : z_kd k0 = (9, 0)) (hx1 : -2147483648 ≤ x1 ∧ x1 ≤ 2147483647) (hx2 : -2147483648 ≤ x2 ∧ x2 ≤ 2147483647) (hx3 : -2147483648 ≤ x3 ∧ x3 ≤ 2147483647) (hx4 : -2147483648 ≤ x4 ∧ x4 ≤ 2147483647) (hσ : z_okm σ) (h : SX9_hung [.inr (.inr (9, 0, k0)), .inl x1, .inl x2, .inl x3, .inl x4] σ Ret) : X 0 [some (.inr (.inr (9, 0, k0))), some (.inl x1), some (.inl x2), some (.inl x3), some (.inl x4), none] [] σ := by
  obtain ⟨⟨R, m⟩, h⟩ := h
  obtain rfl := z_kd9 hk0
  have fin := h σ (fun _ _ => rfl) R
  unfold q_gHung at fin
  by_cases c : ¬ ((1 ≤ x1 ∧ x1 ≤ 20) ∧ (0 ≤ x2 ∧ x2 ≤ 5) ∧ (0 ≤ x3 ∧ x3 ≤ 2000) ∧ 0 ≤ x4 ∧ x4 ≤ 60)
  · rw [if_pos c] at fin
    refine h0 _ _ _ ?_
    simp only [z_push, z_lpush, z_iload, z_lload, z_aload, z_istore, z_istoreP, z_lstore, z_astore, z_iinc, z_iincP, z_iadd, z_isub, z_imul, z_iaddW, z_isubW, z_imulW, z_idiv, z_irem, z_iand, z_ior, z_ixor, z_ishl, z_ishr, z_iushr, z_ineg, z_i2l, z_i2b, z_i2s, z_i2c, z_l2i, z_ladd, z_lsub, z_land, z_lor, z_lshl, z_lshr, z_lcmp, z_dup, z_pop, z_dup2, z_goto, z_tsw, z_cases, z_geti, z_getr, z_puti, z_putz, z_ald, z_iast, z_bast, z_zast, z_alen, z_acopy, z_mmax, z_mmin, z_mabs, z_mabsL, z_iret, z_zret, z_nret, z_lret, z_aret, z_vret, z_cat, z_ldcs, z_strv, z_strc, z_gcs, z_gfm, z_sln, z_sald, z_ifeq, z_ifne, z_iflt, z_ifge, z_ifgt, z_ifle, z_iceq, z_icne, z_iclt, z_icge, z_icgt, z_icle, z_cs0, z_cs1, z_cs2, z_cs3, z_cs4, z_cs5, z_cs6, z_cs7, z_cv0, z_cv1, z_cv2, z_cv3, z_cv4, z_cv5, z_cv6, z_cv7, z_g0, z_s0, z_g1, z_s1, z_g2, z_s2, z_g3, z_s3, z_g4, z_s4, z_g5, z_s5, z_g6, z_s6, z_g7, z_s7, z_g8, z_s8, z_g9, z_s9, z_g10, z_s10, z_g11, z_s11, z_g12, z_s12, z_g13, z_s13, z_b0, z_b1, z_b0n, z_b1n, z_up_far1, z_up_far2, z_up_far3, z_up_far4, z_up_far5, z_up_far6, Classical.not_not, not_true_eq_false, z_in, z_inL, Int.cast_ofNat_Int, Nat.reduceLeDiff, List.length_cons, List.length_nil, Nat.reduceAdd, Nat.zero_add, Nat.le_refl, true_and, and_true, List.length, Nat.reduceLT, true_or, or_true, false_or, or_false, false_and, and_false, not_true_eq_false, not_false_eq_true, forall_const, false_implies, true_implies, Int.reduceEq, Int.reduceLT, Int.reduceLE, Int.reduceAdd, Int.reduceSub, Int.reduceMul, Int.reduceNeg, Int.reduceToNat, Int.toNat_natCast, ↓reduceIte, reduceIte, Nat.reduceEqDiff, Nat.reduceSub, Nat.reduceMul, ne_eq, Int.zero_add, Int.add_zero, Int.sub_zero, Nat.add_zero, Int.ofNat_eq_natCast, tX9_hung_0]
    repeat' (first | (intro _) | (with_reducible assumption) | (refine And.intro ?_ ?_))
    all_goals first | omega | assumption | (refine z_fin fin ?_ rfl; first | rfl | omega | (split <;> omega) | (split <;> split <;> omega)) | skip
  rw [if_neg c] at fin
  have ha : 0 ≤ x4 * x2 ∧ x4 * x2 ≤ 300 := by
    constructor
    · exact Int.mul_nonneg (by omega) (by omega)
    · exact Int.le_trans (Int.mul_le_mul (show x4 ≤ 60 by omega) (show x2 ≤ 5 by omega) (by omega) (by omega)) (by omega)
  have L50 : ∀ (d l : Nat), l + d = 100 → 10 ≤ l → Ret (some (.inl (q_hg x1 x3 (x2 * x4) d l))) σ → X 50 [some (.inr (.inr (9, 0, 0))), some (.inl x1), some (.inl x2), some (.inl x3), some (.inl x4), some (.inl (l : Int))] [] σ := by
    intro d
    induction d with
    | zero =>
      intro l hl h10 hr
      rw [q_hg] at hr
      refine h50 _ _ _ ?_
      simp only [z_push, z_lpush, z_iload, z_lload, z_aload, z_istore, z_istoreP, z_lstore, z_astore, z_iinc, z_iincP, z_iadd, z_isub, z_imul, z_iaddW, z_isubW, z_imulW, z_idiv, z_irem, z_iand, z_ior, z_ixor, z_ishl, z_ishr, z_iushr, z_ineg, z_i2l, z_i2b, z_i2s, z_i2c, z_l2i, z_ladd, z_lsub, z_land, z_lor, z_lshl, z_lshr, z_lcmp, z_dup, z_pop, z_dup2, z_goto, z_tsw, z_cases, z_geti, z_getr, z_puti, z_putz, z_ald, z_iast, z_bast, z_zast, z_alen, z_acopy, z_mmax, z_mmin, z_mabs, z_mabsL, z_iret, z_zret, z_nret, z_lret, z_aret, z_vret, z_cat, z_ldcs, z_strv, z_strc, z_gcs, z_gfm, z_sln, z_sald, z_ifeq, z_ifne, z_iflt, z_ifge, z_ifgt, z_ifle, z_iceq, z_icne, z_iclt, z_icge, z_icgt, z_icle, z_cs0, z_cs1, z_cs2, z_cs3, z_cs4, z_cs5, z_cs6, z_cs7, z_cv0, z_cv1, z_cv2, z_cv3, z_cv4, z_cv5, z_cv6, z_cv7, z_g0, z_s0, z_g1, z_s1, z_g2, z_s2, z_g3, z_s3, z_g4, z_s4, z_g5, z_s5, z_g6, z_s6, z_g7, z_s7, z_g8, z_s8, z_g9, z_s9, z_g10, z_s10, z_g11, z_s11, z_g12, z_s12, z_g13, z_s13, z_b0, z_b1, z_b0n, z_b1n, z_up_far1, z_up_far2, z_up_far3, z_up_far4, z_up_far5, z_up_far6, Classical.not_not, not_true_eq_false, z_in, z_inL, Int.cast_ofNat_Int, Nat.reduceLeDiff, List.length_cons, List.length_nil, Nat.reduceAdd, Nat.zero_add, Nat.le_refl, true_and, and_true, List.length, Nat.reduceLT, true_or, or_true, false_or, or_false, false_and, and_false, not_true_eq_false, not_false_eq_true, forall_const, false_implies, true_implies, Int.reduceEq, Int.reduceLT, Int.reduceLE, Int.reduceAdd, Int.reduceSub, Int.reduceMul, Int.reduceNeg, Int.reduceToNat, Int.toNat_natCast, ↓reduceIte, reduceIte, Nat.reduceEqDiff, Nat.reduceSub, Nat.reduceMul, ne_eq, Int.zero_add, Int.add_zero, Int.sub_zero, Nat.add_zero, Int.ofNat_eq_natCast, tX9_hung_50]
      repeat' (first | (intro _) | (with_reducible assumption) | (refine And.intro ?_ ?_))
      all_goals first | omega | assumption | (refine z_fin hr ?_ rfl; first | rfl | omega | (split <;> omega) | (split <;> split <;> omega)) | skip
    | succ d ih =>
      intro l hl h10 hr
      rw [q_hg, Int.mul_comm x2 x4] at hr
      refine h50 _ _ _ ?_
      simp only [z_push, z_lpush, z_iload, z_lload, z_aload, z_istore, z_istoreP, z_lstore, z_astore, z_iinc, z_iincP, z_iadd, z_isub, z_imul, z_iaddW, z_isubW, z_imulW, z_idiv, z_irem, z_iand, z_ior, z_ixor, z_ishl, z_ishr, z_iushr, z_ineg, z_i2l, z_i2b, z_i2s, z_i2c, z_l2i, z_ladd, z_lsub, z_land, z_lor, z_lshl, z_lshr, z_lcmp, z_dup, z_pop, z_dup2, z_goto, z_tsw, z_cases, z_geti, z_getr, z_puti, z_putz, z_ald, z_iast, z_bast, z_zast, z_alen, z_acopy, z_mmax, z_mmin, z_mabs, z_mabsL, z_iret, z_zret, z_nret, z_lret, z_aret, z_vret, z_cat, z_ldcs, z_strv, z_strc, z_gcs, z_gfm, z_sln, z_sald, z_ifeq, z_ifne, z_iflt, z_ifge, z_ifgt, z_ifle, z_iceq, z_icne, z_iclt, z_icge, z_icgt, z_icle, z_cs0, z_cs1, z_cs2, z_cs3, z_cs4, z_cs5, z_cs6, z_cs7, z_cv0, z_cv1, z_cv2, z_cv3, z_cv4, z_cv5, z_cv6, z_cv7, z_g0, z_s0, z_g1, z_s1, z_g2, z_s2, z_g3, z_s3, z_g4, z_s4, z_g5, z_s5, z_g6, z_s6, z_g7, z_s7, z_g8, z_s8, z_g9, z_s9, z_g10, z_s10, z_g11, z_s11, z_g12, z_s12, z_g13, z_s13, z_b0, z_b1, z_b0n, z_b1n, z_up_far1, z_up_far2, z_up_far3, z_up_far4, z_up_far5, z_up_far6, Classical.not_not, not_true_eq_false, z_in, z_inL, Int.cast_ofNat_Int, Nat.reduceLeDiff, List.length_cons, List.length_nil, Nat.reduceAdd, Nat.zero_add, Nat.le_refl, true_and, and_true, List.length, Nat.reduceLT, true_or, or_true, false_or, or_false, false_and, and_false, not_true_eq_false, not_false_eq_true, forall_const, false_implies, true_implies, Int.reduceEq, Int.reduceLT, Int.reduceLE, Int.reduceAdd, Int.reduceSub, Int.reduceMul, Int.reduceNeg, Int.reduceToNat, Int.toNat_natCast, ↓reduceIte, reduceIte, Nat.reduceEqDiff, Nat.reduceSub, Nat.reduceMul, ne_eq, Int.zero_add, Int.add_zero, Int.sub_zero, Nat.add_zero, Int.ofNat_eq_natCast, tX9_hung_50, SX6_longer, SX8_dryTone]
      have mx : 1 ≤ max 10 (min 999 ((l : Int) + x4 * x2)) := by omega
      refine ⟨fun e => absurd e (by omega), fun _ => ⟨by omega, ⟨by omega, by omega, by omega, by omega⟩, ⟨by omega, mx⟩, fun e => ⟨by omega, ?_⟩, fun e => ?_⟩⟩
      · rw [if_neg e, Int.mul_comm x4 x2] at hr
        exact ih (l + 1) (by omega) (by omega) hr
      · rw [if_pos e] at hr
        exact hr
  have nx := L50 90 10 (by omega) (by omega) fin
  refine h0 _ _ _ ?_
  simp only [z_push, z_lpush, z_iload, z_lload, z_aload, z_istore, z_istoreP, z_lstore, z_astore, z_iinc, z_iincP, z_iadd, z_isub, z_imul, z_iaddW, z_isubW, z_imulW, z_idiv, z_irem, z_iand, z_ior, z_ixor, z_ishl, z_ishr, z_iushr, z_ineg, z_i2l, z_i2b, z_i2s, z_i2c, z_l2i, z_ladd, z_lsub, z_land, z_lor, z_lshl, z_lshr, z_lcmp, z_dup, z_pop, z_dup2, z_goto, z_tsw, z_cases, z_geti, z_getr, z_puti, z_putz, z_ald, z_iast, z_bast, z_zast, z_alen, z_acopy, z_mmax, z_mmin, z_mabs, z_mabsL, z_iret, z_zret, z_nret, z_lret, z_aret, z_vret, z_cat, z_ldcs, z_strv, z_strc, z_gcs, z_gfm, z_sln, z_sald, z_ifeq, z_ifne, z_iflt, z_ifge, z_ifgt, z_ifle, z_iceq, z_icne, z_iclt, z_icge, z_icgt, z_icle, z_cs0, z_cs1, z_cs2, z_cs3, z_cs4, z_cs5, z_cs6, z_cs7, z_cv0, z_cv1, z_cv2, z_cv3, z_cv4, z_cv5, z_cv6, z_cv7, z_g0, z_s0, z_g1, z_s1, z_g2, z_s2, z_g3, z_s3, z_g4, z_s4, z_g5, z_s5, z_g6, z_s6, z_g7, z_s7, z_g8, z_s8, z_g9, z_s9, z_g10, z_s10, z_g11, z_s11, z_g12, z_s12, z_g13, z_s13, z_b0, z_b1, z_b0n, z_b1n, z_up_far1, z_up_far2, z_up_far3, z_up_far4, z_up_far5, z_up_far6, Classical.not_not, not_true_eq_false, z_in, z_inL, Int.cast_ofNat_Int, Nat.reduceLeDiff, List.length_cons, List.length_nil, Nat.reduceAdd, Nat.zero_add, Nat.le_refl, true_and, and_true, List.length, Nat.reduceLT, true_or, or_true, false_or, or_false, false_and, and_false, not_true_eq_false, not_false_eq_true, forall_const, false_implies, true_implies, Int.reduceEq, Int.reduceLT, Int.reduceLE, Int.reduceAdd, Int.reduceSub, Int.reduceMul, Int.reduceNeg, Int.reduceToNat, Int.toNat_natCast, ↓reduceIte, reduceIte, Nat.reduceEqDiff, Nat.reduceSub, Nat.reduceMul, ne_eq, Int.zero_add, Int.add_zero, Int.sub_zero, Nat.add_zero, Int.ofNat_eq_natCast, tX9_hung_0]
  exact ⟨fun e => absurd e (by omega), fun _ => ⟨fun e => absurd e (by omega), fun _ => ⟨fun e => absurd e (by omega), fun _ => ⟨fun e => absurd e (by omega), fun _ => ⟨fun e => absurd e (by omega), fun _ => ⟨fun e => absurd e (by omega), fun _ => ⟨fun e => absurd e (by omega), fun _ => ⟨fun _ => nx, fun e => absurd e (by omega)⟩⟩⟩⟩⟩⟩⟩⟩
theorem dX9_hung_0 : decode cX9_hung 0 = .ok (.iload_n 1, 1) := by decide +kernel
theorem dX9_hung_1 : decode cX9_hung 1 = .ok (.iconst 1, 1) := by decide +kernel
theorem dX9_hung_2 : decode cX9_hung 2 = .ok (.if_icmp .lt 41, 3) := by decide +kernel
theorem dX9_hung_5 : decode cX9_hung 5 = .ok (.iload_n 1, 1) := by decide +kernel
theorem dX9_hung_6 : decode cX9_hung 6 = .ok (.bipush 20, 2) := by decide +kernel
theorem dX9_hung_8 : decode cX9_hung 8 = .ok (.if_icmp .gt 35, 3) := by decide +kernel
theorem dX9_hung_11 : decode cX9_hung 11 = .ok (.iload_n 2, 1) := by decide +kernel
theorem dX9_hung_12 : decode cX9_hung 12 = .ok (.ifCond .lt 31, 3) := by decide +kernel
theorem dX9_hung_15 : decode cX9_hung 15 = .ok (.iload_n 2, 1) := by decide +kernel
theorem dX9_hung_16 : decode cX9_hung 16 = .ok (.iconst 5, 1) := by decide +kernel
theorem dX9_hung_17 : decode cX9_hung 17 = .ok (.if_icmp .gt 26, 3) := by decide +kernel
theorem dX9_hung_20 : decode cX9_hung 20 = .ok (.iload_n 3, 1) := by decide +kernel
theorem dX9_hung_21 : decode cX9_hung 21 = .ok (.ifCond .lt 22, 3) := by decide +kernel
theorem dX9_hung_24 : decode cX9_hung 24 = .ok (.iload_n 3, 1) := by decide +kernel
theorem dX9_hung_25 : decode cX9_hung 25 = .ok (.sipush 2000, 3) := by decide +kernel
theorem dX9_hung_28 : decode cX9_hung 28 = .ok (.if_icmp .gt 15, 3) := by decide +kernel
theorem dX9_hung_31 : decode cX9_hung 31 = .ok (.iload 4, 2) := by decide +kernel
theorem dX9_hung_33 : decode cX9_hung 33 = .ok (.ifCond .lt 10, 3) := by decide +kernel
theorem dX9_hung_36 : decode cX9_hung 36 = .ok (.iload 4, 2) := by decide +kernel
theorem dX9_hung_38 : decode cX9_hung 38 = .ok (.bipush 60, 2) := by decide +kernel
theorem dX9_hung_40 : decode cX9_hung 40 = .ok (.if_icmp .le 6, 3) := by decide +kernel
theorem dX9_hung_43 : decode cX9_hung 43 = .ok (.ldc 75, 2) := by decide +kernel
theorem dX9_hung_45 : decode cX9_hung 45 = .ok (.ireturn, 1) := by decide +kernel
theorem dX9_hung_46 : decode cX9_hung 46 = .ok (.bipush 10, 2) := by decide +kernel
theorem dX9_hung_48 : decode cX9_hung 48 = .ok (.istore 5, 2) := by decide +kernel
theorem dX9_hung_50 : decode cX9_hung 50 = .ok (.iload 5, 2) := by decide +kernel
theorem dX9_hung_52 : decode cX9_hung 52 = .ok (.bipush 99, 2) := by decide +kernel
theorem dX9_hung_54 : decode cX9_hung 54 = .ok (.if_icmp .gt 29, 3) := by decide +kernel
theorem dX9_hung_57 : decode cX9_hung 57 = .ok (.iload_n 1, 1) := by decide +kernel
theorem dX9_hung_58 : decode cX9_hung 58 = .ok (.iload 5, 2) := by decide +kernel
theorem dX9_hung_60 : decode cX9_hung 60 = .ok (.iload 4, 2) := by decide +kernel
theorem dX9_hung_62 : decode cX9_hung 62 = .ok (.iload_n 2, 1) := by decide +kernel
theorem dX9_hung_63 : decode cX9_hung 63 = .ok (.imul, 1) := by decide +kernel
theorem dX9_hung_64 : decode cX9_hung 64 = .ok (.invokestatic 250, 3) := by decide +kernel
theorem dX9_hung_67 : decode cX9_hung 67 = .ok (.invokestatic 253, 3) := by decide +kernel
theorem dX9_hung_70 : decode cX9_hung 70 = .ok (.iload_n 3, 1) := by decide +kernel
theorem dX9_hung_71 : decode cX9_hung 71 = .ok (.if_icmp .ne 6, 3) := by decide +kernel
theorem dX9_hung_74 : decode cX9_hung 74 = .ok (.iload 5, 2) := by decide +kernel
theorem dX9_hung_76 : decode cX9_hung 76 = .ok (.ireturn, 1) := by decide +kernel
theorem dX9_hung_77 : decode cX9_hung 77 = .ok (.iinc 5 1, 3) := by decide +kernel
theorem dX9_hung_80 : decode cX9_hung 80 = .ok (.goto (-30), 3) := by decide +kernel
theorem dX9_hung_83 : decode cX9_hung 83 = .ok (.ldc 209, 2) := by decide +kernel
theorem dX9_hung_85 : decode cX9_hung 85 = .ok (.ireturn, 1) := by decide +kernel
set_option maxRecDepth 100000 in
theorem rX9_hung_0 {p : Program} {l : Launch} {e : Env} {s : State} {m : MethodId} {args : Array Value} {below : List Frame} {meth : Method} {c : Code} {D : va_G} {cA : Nat → ClassId} {ad : Nat → Nat} {Ret : zR} (C : z_Cx p { frames := 2, cells := 0, slots := 0, locals := 42 } s m args c cX9_hung yX9_hung.cls 6 D cA ad) (hr : meth.sig.returnType = (some .int)) (hlocks : meth.locks = false) : ∀ L st σ, tX9_hung_0 (z_X p l e { frames := 2, cells := 0, slots := 0, locals := 42 } s m args below meth c (MQ below (z_Qc D cA ad Ret) args s 0 0 (z_A ad)) 6 D cA ad true) Ret L st σ → z_X p l e { frames := 2, cells := 0, slots := 0, locals := 42 } s m args below meth c (MQ below (z_Qc D cA ad Ret) args s 0 0 (z_A ad)) 6 D cA ad true 0 L st σ := (s_iload_n C dX9_hung_0 rfl (s_iconst C dX9_hung_1 rfl ⟨by decide, by decide⟩ (s_iclt C dX9_hung_2 (by decide) (s_ldc C dX9_hung_43 (v := -1000001) wd_404 ⟨by decide, by decide⟩ (s_iret C dX9_hung_45 hr hlocks)) (s_iload_n C dX9_hung_5 rfl (s_bipush C dX9_hung_6 rfl ⟨by decide, by decide⟩ (s_icgt C dX9_hung_8 (by decide) (s_ldc C dX9_hung_43 (v := -1000001) wd_404 ⟨by decide, by decide⟩ (s_iret C dX9_hung_45 hr hlocks)) (s_iload_n C dX9_hung_11 rfl (s_iflt C dX9_hung_12 (by decide) (s_ldc C dX9_hung_43 (v := -1000001) wd_404 ⟨by decide, by decide⟩ (s_iret C dX9_hung_45 hr hlocks)) (s_iload_n C dX9_hung_15 rfl (s_iconst C dX9_hung_16 rfl ⟨by decide, by decide⟩ (s_icgt C dX9_hung_17 (by decide) (s_ldc C dX9_hung_43 (v := -1000001) wd_404 ⟨by decide, by decide⟩ (s_iret C dX9_hung_45 hr hlocks)) (s_iload_n C dX9_hung_20 rfl (s_iflt C dX9_hung_21 (by decide) (s_ldc C dX9_hung_43 (v := -1000001) wd_404 ⟨by decide, by decide⟩ (s_iret C dX9_hung_45 hr hlocks)) (s_iload_n C dX9_hung_24 rfl (s_sipush C dX9_hung_25 rfl ⟨by decide, by decide⟩ (s_icgt C dX9_hung_28 (by decide) (s_ldc C dX9_hung_43 (v := -1000001) wd_404 ⟨by decide, by decide⟩ (s_iret C dX9_hung_45 hr hlocks)) (s_iload C dX9_hung_31 (s_iflt C dX9_hung_33 (by decide) (s_ldc C dX9_hung_43 (v := -1000001) wd_404 ⟨by decide, by decide⟩ (s_iret C dX9_hung_45 hr hlocks)) (s_iload C dX9_hung_36 (s_bipush C dX9_hung_38 rfl ⟨by decide, by decide⟩ (s_icle C dX9_hung_40 (by decide) (s_bipush C dX9_hung_46 rfl ⟨by decide, by decide⟩ (s_istore C dX9_hung_48 (by decide) rfl (fun _ _ _ h => h))) (s_ldc C dX9_hung_43 (v := -1000001) wd_404 ⟨by decide, by decide⟩ (s_iret C dX9_hung_45 hr hlocks)))))))))))))))))))))))
set_option maxRecDepth 100000 in
theorem rX9_hung_50 {p : Program} {l : Launch} {e : Env} {s : State} {m : MethodId} {args : Array Value} {below : List Frame} {meth : Method} {c : Code} {D : va_G} {cA : Nat → ClassId} {ad : Nat → Nat} {Ret : zR} (C : z_Cx p { frames := 2, cells := 0, slots := 0, locals := 42 } s m args c cX9_hung yX9_hung.cls 6 D cA ad) (hr : meth.sig.returnType = (some .int)) (hlocks : meth.locks = false) : ∀ L st σ, tX9_hung_50 (z_X p l e { frames := 2, cells := 0, slots := 0, locals := 42 } s m args below meth c (MQ below (z_Qc D cA ad Ret) args s 0 0 (z_A ad)) 6 D cA ad true) Ret L st σ → z_X p l e { frames := 2, cells := 0, slots := 0, locals := 42 } s m args below meth c (MQ below (z_Qc D cA ad Ret) args s 0 0 (z_A ad)) 6 D cA ad true 50 L st σ := (s_iload C dX9_hung_50 (s_bipush C dX9_hung_52 rfl ⟨by decide, by decide⟩ (s_icgt C dX9_hung_54 (by decide) (s_ldc C dX9_hung_83 (v := -1000000) wd_743 ⟨by decide, by decide⟩ (s_iret C dX9_hung_85 hr hlocks)) (s_iload_n C dX9_hung_57 rfl (s_iload C dX9_hung_58 (s_iload C dX9_hung_60 (s_iload_n C dX9_hung_62 rfl (s_imul C dX9_hung_63 (s_cs2 C dX9_hung_64 (okX6_longer l) wd_833 wd_676 wd_79 wd_677 ⟨by decide, by decide, by decide +kernel⟩ ⟨by decide, by decide⟩ (s_cs2 C dX9_hung_67 (okX8_dryTone l) wd_834 wd_720 wd_78 wd_721 ⟨by decide, by decide, by decide +kernel⟩ ⟨by decide, by decide⟩ (s_iload_n C dX9_hung_70 rfl (s_icne C dX9_hung_71 (by decide) (s_iinc C dX9_hung_77 (by decide) rfl (s_goto C dX9_hung_80 (by decide) (fun _ _ _ h => h))) (s_iload C dX9_hung_74 (s_iret C dX9_hung_76 hr hlocks))))))))))))))
theorem okX9_hung (l : Launch) : z_OK l yX9_hung cX9_hung 6 (some .int) 2 42 SX9_hung := by
  refine z_ok_of true (by decide +kernel) ?_ ?_
  · intro as σ Ret h
    obtain ⟨k0, x1, x2, x3, x4, rfl⟩ := pX9_hung h
    exact ⟨Nat.le_of_ble_eq_true rfl, by simp⟩
  · intro p e s m args below meth c D cA ad Ret C hr hlocks as σ has hσ h
    obtain ⟨k0, x1, x2, x3, x4, rfl⟩ := pX9_hung h
    exact vX9_hung (rX9_hung_0 C hr hlocks) (rX9_hung_50 C hr hlocks) k0 x1 x2 x3 x4 σ (has _ (List.mem_of_getElem? (i := 0) rfl)) (has _ (List.mem_of_getElem? (i := 1) rfl)) (has _ (List.mem_of_getElem? (i := 2) rfl)) (has _ (List.mem_of_getElem? (i := 3) rfl)) (has _ (List.mem_of_getElem? (i := 4) rfl)) hσ h
