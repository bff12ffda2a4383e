/-! birds, asked of the model -/
def SX10_birds : zS := fun as σ Ret => match as with
  | [.inr (.inr (10, 0, _)), .inl w, .inl r, .inl i, .inl n, .inl t] => q_S10 (q_gBirds w r i n t) (q_fBirds w r i n t) σ Ret
  | _ => False
def tX10_birds_0 (X : Nat → zB) (Ret : zR) (L : zL) (st : List zV) (σ : zM) : Prop := (z_aload 0 (z_push 0 (z_puti 10 0 (z_aload 0 (z_iload 1 (z_cv1 10 SX10_isWind (z_ifeq (z_push (-1000001) (z_iret Ret)) (z_iload 2 (z_cs1 SX10_isRow (z_ifeq (z_push (-1000001) (z_iret Ret)) (z_iload 4 (z_i2l (z_lpush 1 (z_lpush 20 (z_cs3 SX10_in (z_ifeq (z_push (-1000001) (z_iret Ret)) (z_iload 5 (z_cs1 SX10_isApart (z_ifne (z_aload 0 (z_push 0 (z_puti 10 1 (z_aload 0 (z_getr 10 1 100 8 (z_iload 2 (z_ald 0 (z_ifge (z_iload 3 (z_iflt (z_aload 0 (z_push 2 (z_cv1 10 SX10_finding (z_iret Ret)))) (z_iload 3 (z_i2l (z_iload 4 (z_i2l (z_ladd (z_aload 0 (z_getr 10 2 100 8 (z_iload 2 (z_ald 0 (z_i2l (z_lcmp (z_ifle (z_aload 0 (z_cv0 10 SX10_layLengths (z_aload 0 (z_iload 1 (z_cv1 10 SX10_listen (z_push 0 (z_istore 6 (X 103)))))))) (z_aload 0 (z_push 2 (z_cv1 10 SX10_finding (z_iret Ret)))))))))))))))))) (z_aload 0 (z_push 1 (z_cv1 10 SX10_finding (z_iret Ret)))))))))))) (z_push (-1000001) (z_iret Ret))))))))))))))))))))) L st σ
def tX10_birds_103 (X : Nat → zB) (Ret : zR) (L : zL) (st : List zV) (σ : zM) : Prop := (z_iload 6 (z_iload 4 (z_icgt (z_push 0 (z_istore 6 (X 127))) (z_aload 0 (z_getr 10 12 100 21 (z_iload 6 (z_push 0 (z_iast (z_iinc 6 1 (z_goto (X 103))))))))))) L st σ
def tX10_birds_127 (X : Nat → zB) (Ret : zR) (L : zL) (st : List zV) (σ : zM) : Prop := (z_iload 6 (z_aload 0 (z_geti 10 24 (z_icge (z_iload 4 (z_aload 0 (z_getr 10 12 100 21 (z_iload 4 (z_ald 0 (z_isub (z_iret Ret))))))) (z_push 0 (z_istore 7 (X 139))))))) L st σ
def tX10_birds_139 (X : Nat → zB) (Ret : zR) (L : zL) (st : List zV) (σ : zM) : Prop := (z_iload 7 (z_iload 4 (z_icgt (z_push 1 (z_istore 7 (X 169))) (z_aload 0 (z_getr 10 13 100 21 (z_iload 7 (z_aload 0 (z_getr 10 12 100 21 (z_iload 7 (z_ald 0 (z_iast (z_iinc 7 1 (z_goto (X 139)))))))))))))) L st σ
def tX10_birds_169 (X : Nat → zB) (Ret : zR) (L : zL) (st : List zV) (σ : zM) : Prop := (z_iload 7 (z_iload 4 (z_icgt (z_iinc 6 1 (z_goto (X 127))) (z_aload 0 (z_getr 10 10 100 12 (z_iload 6 (z_ald 0 (z_i2l (z_aload 0 (z_getr 10 3 100 320 (z_push 40 (z_iload 2 (z_imul (z_iload 3 (z_iadd (z_iload 7 (z_iadd (z_push 1 (z_isub (z_ald 0 (z_i2l (z_iload 5 (z_cs3 SX10_isNearLong (z_istore 8 (z_aload 0 (z_getr 10 13 100 21 (z_iload 7 (z_ald 0 (z_aload 0 (z_getr 10 12 100 21 (z_iload 7 (z_push 1 (z_isub (z_ald 0 (z_icle (z_aload 0 (z_getr 10 12 100 21 (z_iload 7 (z_push 1 (z_isub (z_ald 0 (z_istore 9 (z_aload 0 (z_getr 10 12 100 21 (z_iload 7 (z_iload 8 (z_ifeq (z_iload 9 (z_iast (z_iinc 7 1 (z_goto (X 169))))) (z_aload 0 (z_getr 10 13 100 21 (z_iload 7 (z_push 1 (z_isub (z_ald 0 (z_push 1 (z_iadd (z_iload 9 (z_icle (z_iload 9 (z_iast (z_iinc 7 1 (z_goto (X 169))))) (z_aload 0 (z_getr 10 13 100 21 (z_iload 7 (z_push 1 (z_isub (z_ald 0 (z_push 1 (z_iadd (z_goto (z_iast (z_iinc 7 1 (z_goto (X 169))))))))))))))))))))))))))))))))))) (z_aload 0 (z_getr 10 13 100 21 (z_iload 7 (z_ald 0 (z_goto (z_istore 9 (z_aload 0 (z_getr 10 12 100 21 (z_iload 7 (z_iload 8 (z_ifeq (z_iload 9 (z_iast (z_iinc 7 1 (z_goto (X 169))))) (z_aload 0 (z_getr 10 13 100 21 (z_iload 7 (z_push 1 (z_isub (z_ald 0 (z_push 1 (z_iadd (z_iload 9 (z_icle (z_iload 9 (z_iast (z_iinc 7 1 (z_goto (X 169))))) (z_aload 0 (z_getr 10 13 100 21 (z_iload 7 (z_push 1 (z_isub (z_ald 0 (z_push 1 (z_iadd (z_goto (z_iast (z_iinc 7 1 (z_goto (X 169))))))))))))))))))))))))))))))))))))))))))))))))))))))))))))))))))))) L st σ
theorem pX10_birds {as : List zV} {σ : zM} {Ret : zR} (h : SX10_birds as σ Ret) : ∃ (k0 : Nat) (x1 : Int) (x2 : Int) (x3 : Int) (x4 : Int) (x5 : Int), as = [.inr (.inr (10, 0, k0)), .inl x1, .inl x2, .inl x3, .inl x4, .inl x5] := by
  unfold SX10_birds at h
  split at h
  · exact ⟨_, _, _, _, _, _, rfl⟩
  · exact h.elim
set_option maxRecDepth 10000 in
set_option maxHeartbeats 4000000 in
theorem vX10_birds {X : Nat → zB} {Ret : zR} (h0 : ∀ L st σ, tX10_birds_0 X Ret L st σ → X 0 L st σ) (h103 : ∀ L st σ, tX10_birds_103 X Ret L st σ → X 103 L st σ) (h127 : ∀ L st σ, tX10_birds_127 X Ret L st σ → X 127 L st σ) (h139 : ∀ L st σ, tX10_birds_139 X Ret L st σ → X 139 L st σ) (h169 : ∀ L st σ, tX10_birds_169 X Ret L st σ → X 169 L st σ) (k0 : Nat) (x1 : Int) (x2 : Int) (x3 : Int) (x4 : Int) (x5 : Int) (σ : zM) (hk0 : z_kd k0 = (10, 0)) (hx1 : -2147483648 ≤ x1 ∧ x1 ≤ 2147483647) (hx2 : -2147483648 ≤ x2 ∧ x2 ≤ 2147483647) (hx3 : -2147483648 ≤ x3 ∧ x3 ≤ 2147483647) (hx4 : -2147483648 ≤ x4 ∧ x4 ≤ 2147483647) (hx5 : -2147483648 ≤ x5 ∧ x5 ≤ 2147483647) (hσ : z_okm σ) (h : SX10_birds [.inr (.inr (10, 0, k0)), .inl x1, .inl x2, .inl x3, .inl x4, .inl x5] σ Ret) : X 0 [some (.inr (.inr (10, 0, k0))), some (.inl x1), some (.inl x2), some (.inl x3), some (.inl x4), some (.inl x5), none, none, none, none] [] σ := by
  obtain ⟨m, h⟩ := h
  obtain rfl := z_kd10 hk0
  have K := m.2.1.1
  have K0 := K.1.1
  have K1 := K.1.2.1
  have e1 : z_up σ 89 0 0 93 1 = σ 93 1 := z_up_ne (by omega)
  by_cases c1 : ¬ ((0 ≤ x1 ∧ x1 < σ 93 1) ∧ (0 ≤ x2 ∧ x2 < 8) ∧ (1 ≤ x4 ∧ x4 ≤ 20) ∧ 0 ≤ x5 ∧ x5 ≤ 99)
  · have fin := h (z_up σ 89 0 0) q_th.1 (by unfold q_fBirds; rw [if_pos c1]; exact q_th.2)
    simp only [q_gBirds, if_pos c1] at fin
    refine h0 _ _ _ ?_
    simp only [z_push, z_lpush, z_iload, z_lload, z_aload, z_istore, z_istoreP, z_lstore, z_astore, z_iinc, z_iincP, z_iadd, z_isub, z_imul, z_iaddW, z_isubW, z_imulW, z_idiv, z_irem, z_iand, z_ior, z_ixor, z_ishl, z_ishr, z_iushr, z_ineg, z_i2l, z_i2b, z_i2s, z_i2c, z_l2i, z_ladd, z_lsub, z_land, z_lor, z_lshl, z_lshr, z_lcmp, z_dup, z_pop, z_dup2, z_goto, z_tsw, z_cases, z_geti, z_getr, z_puti, z_putz, z_ald, z_iast, z_bast, z_zast, z_alen, z_acopy, z_mmax, z_mmin, z_mabs, z_mabsL, z_iret, z_zret, z_nret, z_lret, z_aret, z_vret, z_cat, z_ldcs, z_strv, z_strc, z_gcs, z_gfm, z_sln, z_sald, z_ifeq, z_ifne, z_iflt, z_ifge, z_ifgt, z_ifle, z_iceq, z_icne, z_iclt, z_icge, z_icgt, z_icle, z_cs0, z_cs1, z_cs2, z_cs3, z_cs4, z_cs5, z_cs6, z_cs7, z_cv0, z_cv1, z_cv2, z_cv3, z_cv4, z_cv5, z_cv6, z_cv7, z_g0, z_s0, z_g1, z_s1, z_g2, z_s2, z_g3, z_s3, z_g4, z_s4, z_g5, z_s5, z_g6, z_s6, z_g7, z_s7, z_g8, z_s8, z_g9, z_s9, z_g10, z_s10, z_g11, z_s11, z_g12, z_s12, z_g13, z_s13, z_b0, z_b1, z_b0n, z_b1n, z_up_far1, z_up_far2, z_up_far3, z_up_far4, z_up_far5, z_up_far6, Classical.not_not, not_true_eq_false, z_in, z_inL, Int.cast_ofNat_Int, Nat.reduceLeDiff, List.length_cons, List.length_nil, Nat.reduceAdd, Nat.zero_add, Nat.le_refl, true_and, and_true, List.length, Nat.reduceLT, true_or, or_true, false_or, or_false, false_and, and_false, not_true_eq_false, not_false_eq_true, forall_const, false_implies, true_implies, Int.reduceEq, Int.reduceLT, Int.reduceLE, Int.reduceAdd, Int.reduceSub, Int.reduceMul, Int.reduceNeg, Int.reduceToNat, Int.toNat_natCast, ↓reduceIte, reduceIte, Nat.reduceEqDiff, Nat.reduceSub, Nat.reduceMul, ne_eq, Int.zero_add, Int.add_zero, Int.sub_zero, Nat.add_zero, Int.ofNat_eq_natCast, tX10_birds_0, SX10_isWind, SX10_isRow, SX10_in, SX10_isApart, e1]
    repeat' (first | (intro _) | (with_reducible assumption) | (refine And.intro ?_ ?_))
    all_goals first | omega | assumption | (refine z_fin fin ?_ rfl; first | rfl | omega | (split <;> omega) | (split <;> split <;> omega)) | skip
  obtain ⟨r, rfl⟩ := z_nat (show 0 ≤ x2 by omega)
  obtain ⟨w, rfl⟩ := z_nat (show 0 ≤ x1 by omega)
  obtain ⟨n, rfl⟩ := z_nat (show 0 ≤ x4 by omega)
  have mr := m.1 r (by omega)
  have e90 : z_up (z_up σ 89 0 0) 89 1 0 90 r = σ 90 r := by rw [z_up_ne (by omega), z_up_ne (by omega)]
  have e91 : z_up (z_up σ 89 0 0) 89 1 0 91 r = σ 91 r := by rw [z_up_ne (by omega), z_up_ne (by omega)]
  by_cases c2 : σ 90 r < 0
  · have fin := h (z_up (z_up (z_up σ 89 0 0) 89 1 0) 89 1 1) q_th2.1 (by unfold q_fBirds; rw [if_neg c1, Int.toNat_natCast, if_pos c2]; exact q_th2.2)
    simp only [q_gBirds, if_neg c1, Int.toNat_natCast, if_pos c2] at fin
    refine h0 _ _ _ ?_
    simp only [z_push, z_lpush, z_iload, z_lload, z_aload, z_istore, z_istoreP, z_lstore, z_astore, z_iinc, z_iincP, z_iadd, z_isub, z_imul, z_iaddW, z_isubW, z_imulW, z_idiv, z_irem, z_iand, z_ior, z_ixor, z_ishl, z_ishr, z_iushr, z_ineg, z_i2l, z_i2b, z_i2s, z_i2c, z_l2i, z_ladd, z_lsub, z_land, z_lor, z_lshl, z_lshr, z_lcmp, z_dup, z_pop, z_dup2, z_goto, z_tsw, z_cases, z_geti, z_getr, z_puti, z_putz, z_ald, z_iast, z_bast, z_zast, z_alen, z_acopy, z_mmax, z_mmin, z_mabs, z_mabsL, z_iret, z_zret, z_nret, z_lret, z_aret, z_vret, z_cat, z_ldcs, z_strv, z_strc, z_gcs, z_gfm, z_sln, z_sald, z_ifeq, z_ifne, z_iflt, z_ifge, z_ifgt, z_ifle, z_iceq, z_icne, z_iclt, z_icge, z_icgt, z_icle, z_cs0, z_cs1, z_cs2, z_cs3, z_cs4, z_cs5, z_cs6, z_cs7, z_cv0, z_cv1, z_cv2, z_cv3, z_cv4, z_cv5, z_cv6, z_cv7, z_g0, z_s0, z_g1, z_s1, z_g2, z_s2, z_g3, z_s3, z_g4, z_s4, z_g5, z_s5, z_g6, z_s6, z_g7, z_s7, z_g8, z_s8, z_g9, z_s9, z_g10, z_s10, z_g11, z_s11, z_g12, z_s12, z_g13, z_s13, z_b0, z_b1, z_b0n, z_b1n, z_up_far1, z_up_far2, z_up_far3, z_up_far4, z_up_far5, z_up_far6, Classical.not_not, not_true_eq_false, z_in, z_inL, Int.cast_ofNat_Int, Nat.reduceLeDiff, List.length_cons, List.length_nil, Nat.reduceAdd, Nat.zero_add, Nat.le_refl, true_and, and_true, List.length, Nat.reduceLT, true_or, or_true, false_or, or_false, false_and, and_false, not_true_eq_false, not_false_eq_true, forall_const, false_implies, true_implies, Int.reduceEq, Int.reduceLT, Int.reduceLE, Int.reduceAdd, Int.reduceSub, Int.reduceMul, Int.reduceNeg, Int.reduceToNat, Int.toNat_natCast, ↓reduceIte, reduceIte, Nat.reduceEqDiff, Nat.reduceSub, Nat.reduceMul, ne_eq, Int.zero_add, Int.add_zero, Int.sub_zero, Nat.add_zero, Int.ofNat_eq_natCast, tX10_birds_0, SX10_isWind, SX10_isRow, SX10_in, SX10_isApart, SX10_finding, e1, e90]
    repeat' (first | (intro _) | (with_reducible assumption) | (refine And.intro ?_ ?_))
    all_goals first | omega | assumption | (refine z_fin fin ?_ rfl; first | rfl | omega | (split <;> omega) | (split <;> split <;> omega)) | skip
  by_cases c3 : ¬ (0 ≤ x3 ∧ x3 + n ≤ σ 91 r)
  · have fin := h (z_up (z_up (z_up σ 89 0 0) 89 1 0) 89 1 2) q_th2.1 (by unfold q_fBirds; rw [if_neg c1, Int.toNat_natCast, if_neg c2, if_pos c3]; exact q_th2.2)
    simp only [q_gBirds, if_neg c1, Int.toNat_natCast, if_neg c2, if_pos c3] at fin
    refine h0 _ _ _ ?_
    simp only [z_push, z_lpush, z_iload, z_lload, z_aload, z_istore, z_istoreP, z_lstore, z_astore, z_iinc, z_iincP, z_iadd, z_isub, z_imul, z_iaddW, z_isubW, z_imulW, z_idiv, z_irem, z_iand, z_ior, z_ixor, z_ishl, z_ishr, z_iushr, z_ineg, z_i2l, z_i2b, z_i2s, z_i2c, z_l2i, z_ladd, z_lsub, z_land, z_lor, z_lshl, z_lshr, z_lcmp, z_dup, z_pop, z_dup2, z_goto, z_tsw, z_cases, z_geti, z_getr, z_puti, z_putz, z_ald, z_iast, z_bast, z_zast, z_alen, z_acopy, z_mmax, z_mmin, z_mabs, z_mabsL, z_iret, z_zret, z_nret, z_lret, z_aret, z_vret, z_cat, z_ldcs, z_strv, z_strc, z_gcs, z_gfm, z_sln, z_sald, z_ifeq, z_ifne, z_iflt, z_ifge, z_ifgt, z_ifle, z_iceq, z_icne, z_iclt, z_icge, z_icgt, z_icle, z_cs0, z_cs1, z_cs2, z_cs3, z_cs4, z_cs5, z_cs6, z_cs7, z_cv0, z_cv1, z_cv2, z_cv3, z_cv4, z_cv5, z_cv6, z_cv7, z_g0, z_s0, z_g1, z_s1, z_g2, z_s2, z_g3, z_s3, z_g4, z_s4, z_g5, z_s5, z_g6, z_s6, z_g7, z_s7, z_g8, z_s8, z_g9, z_s9, z_g10, z_s10, z_g11, z_s11, z_g12, z_s12, z_g13, z_s13, z_b0, z_b1, z_b0n, z_b1n, z_up_far1, z_up_far2, z_up_far3, z_up_far4, z_up_far5, z_up_far6, Classical.not_not, not_true_eq_false, z_in, z_inL, Int.cast_ofNat_Int, Nat.reduceLeDiff, List.length_cons, List.length_nil, Nat.reduceAdd, Nat.zero_add, Nat.le_refl, true_and, and_true, List.length, Nat.reduceLT, true_or, or_true, false_or, or_false, false_and, and_false, not_true_eq_false, not_false_eq_true, forall_const, false_implies, true_implies, Int.reduceEq, Int.reduceLT, Int.reduceLE, Int.reduceAdd, Int.reduceSub, Int.reduceMul, Int.reduceNeg, Int.reduceToNat, Int.toNat_natCast, ↓reduceIte, reduceIte, Nat.reduceEqDiff, Nat.reduceSub, Nat.reduceMul, ne_eq, Int.zero_add, Int.add_zero, Int.sub_zero, Nat.add_zero, Int.ofNat_eq_natCast, tX10_birds_0, SX10_isWind, SX10_isRow, SX10_in, SX10_isApart, SX10_finding, e1, e90, e91]
    repeat' (first | (intro _) | (with_reducible assumption) | (refine And.intro ?_ ?_))
    all_goals first | omega | assumption | (refine z_fin fin ?_ rfl; first | rfl | omega | (split <;> omega) | (split <;> split <;> omega)) | skip
  obtain ⟨i, rfl⟩ := z_nat (show 0 ≤ x3 by omega)
  have key : ∀ (v : Int) (σ1 : zM), (∀ c j, ¬ (c = 89 ∧ (j = 24 ∨ j = 0 ∨ j = 1) ∨ 98 ≤ c ∧ c ≤ 102) → σ1 c j = σ c j) → σ1 89 1 = 0 → v = (n : Int) - q_bdD σ w r i n x5 → Ret (some (.inl v)) σ1 := by
    intro v σ1 f1 f0 hv
    have fin := h σ1 (fun c hc => funext fun j => f1 c j (by omega)) (fun a j hc => by
      unfold q_last at hc
      unfold q_fBirds
      rw [if_neg c1, Int.toNat_natCast, if_neg c2, if_neg c3]
      by_cases e : a = 89 ∧ j = 1
      · obtain ⟨rfl, rfl⟩ := e
        rw [f0, z_up_eq]
      · rw [f1 a j (by omega), z_up_ne (by omega)])
    simp only [q_gBirds, if_neg c1, Int.toNat_natCast, if_neg c2, if_neg c3] at fin
    rw [hv]
    exact fin
  -- behind the listening
  have M : ∀ σ0 : zM, (∀ c j, ¬ (c = 89 ∧ (j = 24 ∨ j = 0 ∨ j = 1) ∨ 98 ≤ c ∧ c ≤ 102) → σ0 c j = σ c j) → σ0 89 1 = 0 → q_me σ0 (q_lsD (σ 93) w) (q_tnD (σ 93)) → X 103 [some (.inr (.inr (10, 0, 89))), some (.inl (w : Int)), some (.inl (r : Int)), some (.inl (i : Int)), some (.inl (n : Int)), some (.inl x5), some (.inl 0), none, none, none] [] σ0 := by
    intro σ0 f0 s0 g
    have mi := q_me_in K g
    obtain ⟨H, hH⟩ := z_nat mi.1.1
    have gl : (q_lsD (σ 93) w).length = H := by have := g.1; omega
    generalize hs : q_s (σ0 99) (fun y => σ 92 (40 * r + i + y)) x5 = s
    have sv : q_bdD σ w r i n x5 = q_lc s H n := by
      unfold q_bdD
      rw [gl, q_lc_tr]
      refine q_lc_cg _ _ (fun a b ha hb => ?_)
      subst hs
      unfold q_s
      rw [g.2.1 a (by omega)]
      exact decide_eq_decide.mpr And.comm
    have din := q_lc_in (s := s)
    have okm : ∀ y : Nat, z_in (σ 92 y) := fun y => hσ 92 y
    have fr : ∀ (k : Nat) (σ1 : zM), (∀ c j, c ≠ 101 → c ≠ 102 → σ1 c j = σ0 c j) → ∀ c j, ¬ (c = 89 ∧ (j = 24 ∨ j = 0 ∨ j = 1) ∨ 98 ≤ c ∧ c ≤ 102) → σ1 c j = σ c j := fun k σ1 f1 c j hc => by rw [f1 c j (by omega) (by omega), f0 c j hc]
    have L169 : ∀ (d k j : Nat) (v8 v9 : Option zV) (σ1 : zM), j + d = n + 1 → 1 ≤ j → k + 1 ≤ H → (∀ c j, c ≠ 101 → c ≠ 102 → σ1 c j = σ0 c j) → (∀ x, x ≤ n → σ1 102 x = q_lc s k x) → (∀ x, x < j → σ1 101 x = q_lc s (k + 1) x) → (∀ σ2 : zM, (∀ c j, c ≠ 101 → c ≠ 102 → σ2 c j = σ0 c j) → (∀ x, x ≤ n → σ2 101 x = q_lc s (k + 1) x) → ∀ v7 v8 v9, X 127 [some (.inr (.inr (10, 0, 89))), some (.inl (w : Int)), some (.inl (r : Int)), some (.inl (i : Int)), some (.inl (n : Int)), some (.inl x5), some (.inl ((k : Int) + 1)), v7, v8, v9] [] σ2) → X 169 [some (.inr (.inr (10, 0, 89))), some (.inl (w : Int)), some (.inl (r : Int)), some (.inl (i : Int)), some (.inl (n : Int)), some (.inl x5), some (.inl (k : Int)), some (.inl (j : Int)), v8, v9] [] σ1 := by
      intro d
      induction d with
      | zero =>
        intro k j v8 v9 σ1 hd h1 hi f1 f2 f3 C
        obtain rfl : j = n + 1 := by omega
        have nx := C σ1 f1 (fun x hx => f3 x (by omega))
        refine h169 _ _ _ ?_
        simp only [z_push, z_lpush, z_iload, z_lload, z_aload, z_istore, z_istoreP, z_lstore, z_astore, z_iinc, z_iincP, z_iadd, z_isub, z_imul, z_iaddW, z_isubW, z_imulW, z_idiv, z_irem, z_iand, z_ior, z_ixor, z_ishl, z_ishr, z_iushr, z_ineg, z_i2l, z_i2b, z_i2s, z_i2c, z_l2i, z_ladd, z_lsub, z_land, z_lor, z_lshl, z_lshr, z_lcmp, z_dup, z_pop, z_dup2, z_goto, z_tsw, z_cases, z_geti, z_getr, z_puti, z_putz, z_ald, z_iast, z_bast, z_zast, z_alen, z_acopy, z_mmax, z_mmin, z_mabs, z_mabsL, z_iret, z_zret, z_nret, z_lret, z_aret, z_vret, z_cat, z_ldcs, z_strv, z_strc, z_gcs, z_gfm, z_sln, z_sald, z_ifeq, z_ifne, z_iflt, z_ifge, z_ifgt, z_ifle, z_iceq, z_icne, z_iclt, z_icge, z_icgt, z_icle, z_cs0, z_cs1, z_cs2, z_cs3, z_cs4, z_cs5, z_cs6, z_cs7, z_cv0, z_cv1, z_cv2, z_cv3, z_cv4, z_cv5, z_cv6, z_cv7, z_g0, z_s0, z_g1, z_s1, z_g2, z_s2, z_g3, z_s3, z_g4, z_s4, z_g5, z_s5, z_g6, z_s6, z_g7, z_s7, z_g8, z_s8, z_g9, z_s9, z_g10, z_s10, z_g11, z_s11, z_g12, z_s12, z_g13, z_s13, z_b0, z_b1, z_b0n, z_b1n, z_up_far1, z_up_far2, z_up_far3, z_up_far4, z_up_far5, z_up_far6, Classical.not_not, not_true_eq_false, z_in, z_inL, Int.cast_ofNat_Int, Nat.reduceLeDiff, List.length_cons, List.length_nil, Nat.reduceAdd, Nat.zero_add, Nat.le_refl, true_and, and_true, List.length, Nat.reduceLT, true_or, or_true, false_or, or_false, false_and, and_false, not_true_eq_false, not_false_eq_true, forall_const, false_implies, true_implies, Int.reduceEq, Int.reduceLT, Int.reduceLE, Int.reduceAdd, Int.reduceSub, Int.reduceMul, Int.reduceNeg, Int.reduceToNat, Int.toNat_natCast, ↓reduceIte, reduceIte, Nat.reduceEqDiff, Nat.reduceSub, Nat.reduceMul, ne_eq, Int.zero_add, Int.add_zero, Int.sub_zero, Nat.add_zero, Int.ofNat_eq_natCast, tX10_birds_169]
        refine ⟨fun _ => ⟨by omega, nx _ _ _⟩, fun e => absurd e (by omega)⟩
      | succ d ih =>
        intro k j v8 v9 σ1 hd h1 hi f1 f2 f3 C
        obtain ⟨y, rfl⟩ : ∃ y, j = y + 1 := ⟨j - 1, by omega⟩
        have e99 : σ1 99 k = σ0 99 k := f1 99 k (by omega) (by omega)
        have e92 : σ1 92 (40 * r + i + y) = σ 92 (40 * r + i + y) := by rw [f1 92 _ (by omega) (by omega), f0 92 _ (by omega)]
        have a1 := f2 y (by omega)
        have a2 := f2 (y + 1) (by omega)
        have a3 := f3 y (by omega)
        have d1 := din k y
        have d2 := din k (y + 1)
        have d3 := din (k + 1) y
        have r1 := mi.2.1 k (by omega)
        have r2 := okm (40 * r + i + y)
        unfold z_in at r2
        have sc : s k y = true ↔ (σ0 99 k - σ 92 (40 * r + i + y) ≤ x5 ∧ σ 92 (40 * r + i + y) - σ0 99 k ≤ x5) := by
          subst hs
          unfold q_s
          rw [decide_eq_true_eq]
        have nx := fun v8 v9 => ih k (y + 2) v8 v9 (z_up σ1 101 (y + 1) (q_lc s (k + 1) (y + 1))) (by omega) (by omega) hi (fun c j g1 g2 => by rw [z_up_ne (by omega)]; exact f1 c j g1 g2) (fun x hx => by rw [z_up_ne (by omega)]; exact f2 x hx) (fun x hx => by
          by_cases e : x = y + 1
          · subst e; rw [z_up_eq]
          · rw [z_up_ne (by omega)]; exact f3 x (by omega)) C
        have ds : ∀ v, (s k y = true → v = max (q_lc s k y + 1) (max (q_lc s k (y + 1)) (q_lc s (k + 1) y))) → (¬ s k y = true → v = max (q_lc s k (y + 1)) (q_lc s (k + 1) y)) → q_lc s (k + 1) (y + 1) = v := by
          intro v v1 v2
          rw [q_lc_S]
          by_cases e : s k y = true
          · rw [if_pos e, v1 e]; omega
          · rw [if_neg e, v2 e]; omega
        have t2 : (40 * (r : Int) + (i : Int) + ((y + 1 : Nat) : Int) - 1).toNat = 40 * r + i + y := by omega
        have t3 : (((y + 1 : Nat) : Int) - 1).toNat = y := by omega
        have t4 : (((y + 1 : Nat) : Int) + 1) = ((y + 2 : Nat) : Int) := by omega
        refine h169 _ _ _ ?_
        by_cases cn : σ0 99 k - σ 92 (40 * r + i + y) ≤ x5 ∧ σ 92 (40 * r + i + y) - σ0 99 k ≤ x5
        · have st := sc.mpr cn
          rw [ds (max (q_lc s k y + 1) (max (q_lc s k (y + 1)) (q_lc s (k + 1) y))) (fun _ => rfl) (fun e => absurd st e)] at nx
          simp only [z_push, z_lpush, z_iload, z_lload, z_aload, z_istore, z_istoreP, z_lstore, z_astore, z_iinc, z_iincP, z_iadd, z_isub, z_imul, z_iaddW, z_isubW, z_imulW, z_idiv, z_irem, z_iand, z_ior, z_ixor, z_ishl, z_ishr, z_iushr, z_ineg, z_i2l, z_i2b, z_i2s, z_i2c, z_l2i, z_ladd, z_lsub, z_land, z_lor, z_lshl, z_lshr, z_lcmp, z_dup, z_pop, z_dup2, z_goto, z_tsw, z_cases, z_geti, z_getr, z_puti, z_putz, z_ald, z_iast, z_bast, z_zast, z_alen, z_acopy, z_mmax, z_mmin, z_mabs, z_mabsL, z_iret, z_zret, z_nret, z_lret, z_aret, z_vret, z_cat, z_ldcs, z_strv, z_strc, z_gcs, z_gfm, z_sln, z_sald, z_ifeq, z_ifne, z_iflt, z_ifge, z_ifgt, z_ifle, z_iceq, z_icne, z_iclt, z_icge, z_icgt, z_icle, z_cs0, z_cs1, z_cs2, z_cs3, z_cs4, z_cs5, z_cs6, z_cs7, z_cv0, z_cv1, z_cv2, z_cv3, z_cv4, z_cv5, z_cv6, z_cv7, z_g0, z_s0, z_g1, z_s1, z_g2, z_s2, z_g3, z_s3, z_g4, z_s4, z_g5, z_s5, z_g6, z_s6, z_g7, z_s7, z_g8, z_s8, z_g9, z_s9, z_g10, z_s10, z_g11, z_s11, z_g12, z_s12, z_g13, z_s13, z_b0, z_b1, z_b0n, z_b1n, z_up_far1, z_up_far2, z_up_far3, z_up_far4, z_up_far5, z_up_far6, Classical.not_not, not_true_eq_false, z_in, z_inL, Int.cast_ofNat_Int, Nat.reduceLeDiff, List.length_cons, List.length_nil, Nat.reduceAdd, Nat.zero_add, Nat.le_refl, true_and, and_true, List.length, Nat.reduceLT, true_or, or_true, false_or, or_false, false_and, and_false, not_true_eq_false, not_false_eq_true, forall_const, false_implies, true_implies, Int.reduceEq, Int.reduceLT, Int.reduceLE, Int.reduceAdd, Int.reduceSub, Int.reduceMul, Int.reduceNeg, Int.reduceToNat, Int.toNat_natCast, ↓reduceIte, reduceIte, Nat.reduceEqDiff, Nat.reduceSub, Nat.reduceMul, ne_eq, Int.zero_add, Int.add_zero, Int.sub_zero, Nat.add_zero, Int.ofNat_eq_natCast, tX10_birds_169, SX10_isNearLong, t2, t3, t4, e99, e92, a1, a2, a3, cn]
          repeat' (first | (intro _) | (with_reducible assumption) | (refine And.intro ?_ ?_))
          all_goals first | omega | assumption | (refine z_fin mi ?_ rfl; first | rfl | omega | (split <;> omega) | (split <;> split <;> omega)) | skip
          all_goals first
            | omega
            | (rw [show max (q_lc s k y + 1) (max (q_lc s k (y + 1)) (q_lc s (k + 1) y)) = q_lc s k y + 1 by omega] at nx; exact nx _ _)
            | (rw [show max (q_lc s k y + 1) (max (q_lc s k (y + 1)) (q_lc s (k + 1) y)) = q_lc s k (y + 1) by omega] at nx; exact nx _ _)
            | (rw [show max (q_lc s k y + 1) (max (q_lc s k (y + 1)) (q_lc s (k + 1) y)) = q_lc s (k + 1) y by omega] at nx; exact nx _ _)
        · have st : ¬ s k y = true := fun e => cn (sc.mp e)
          rw [ds (max (q_lc s k (y + 1)) (q_lc s (k + 1) y)) (fun e => absurd e st) (fun _ => rfl)] at nx
          simp only [z_push, z_lpush, z_iload, z_lload, z_aload, z_istore, z_istoreP, z_lstore, z_astore, z_iinc, z_iincP, z_iadd, z_isub, z_imul, z_iaddW, z_isubW, z_imulW, z_idiv, z_irem, z_iand, z_ior, z_ixor, z_ishl, z_ishr, z_iushr, z_ineg, z_i2l, z_i2b, z_i2s, z_i2c, z_l2i, z_ladd, z_lsub, z_land, z_lor, z_lshl, z_lshr, z_lcmp, z_dup, z_pop, z_dup2, z_goto, z_tsw, z_cases, z_geti, z_getr, z_puti, z_putz, z_ald, z_iast, z_bast, z_zast, z_alen, z_acopy, z_mmax, z_mmin, z_mabs, z_mabsL, z_iret, z_zret, z_nret, z_lret, z_aret, z_vret, z_cat, z_ldcs, z_strv, z_strc, z_gcs, z_gfm, z_sln, z_sald, z_ifeq, z_ifne, z_iflt, z_ifge, z_ifgt, z_ifle, z_iceq, z_icne, z_iclt, z_icge, z_icgt, z_icle, z_cs0, z_cs1, z_cs2, z_cs3, z_cs4, z_cs5, z_cs6, z_cs7, z_cv0, z_cv1, z_cv2, z_cv3, z_cv4, z_cv5, z_cv6, z_cv7, z_g0, z_s0, z_g1, z_s1, z_g2, z_s2, z_g3, z_s3, z_g4, z_s4, z_g5, z_s5, z_g6, z_s6, z_g7, z_s7, z_g8, z_s8, z_g9, z_s9, z_g10, z_s10, z_g11, z_s11, z_g12, z_s12, z_g13, z_s13, z_b0, z_b1, z_b0n, z_b1n, z_up_far1, z_up_far2, z_up_far3, z_up_far4, z_up_far5, z_up_far6, Classical.not_not, not_true_eq_false, z_in, z_inL, Int.cast_ofNat_Int, Nat.reduceLeDiff, List.length_cons, List.length_nil, Nat.reduceAdd, Nat.zero_add, Nat.le_refl, true_and, and_true, List.length, Nat.reduceLT, true_or, or_true, false_or, or_false, false_and, and_false, not_true_eq_false, not_false_eq_true, forall_const, false_implies, true_implies, Int.reduceEq, Int.reduceLT, Int.reduceLE, Int.reduceAdd, Int.reduceSub, Int.reduceMul, Int.reduceNeg, Int.reduceToNat, Int.toNat_natCast, ↓reduceIte, reduceIte, Nat.reduceEqDiff, Nat.reduceSub, Nat.reduceMul, ne_eq, Int.zero_add, Int.add_zero, Int.sub_zero, Nat.add_zero, Int.ofNat_eq_natCast, tX10_birds_169, SX10_isNearLong, t2, t3, t4, e99, e92, a1, a2, a3, cn]
          repeat' (first | (intro _) | (with_reducible assumption) | (refine And.intro ?_ ?_))
          all_goals first | omega | assumption | (refine z_fin mi ?_ rfl; first | rfl | omega | (split <;> omega) | (split <;> split <;> omega)) | skip
          all_goals first
            | omega
            | (rw [show max (q_lc s k (y + 1)) (q_lc s (k + 1) y) = q_lc s k (y + 1) by omega] at nx; exact nx _ _)
            | (rw [show max (q_lc s k (y + 1)) (q_lc s (k + 1) y) = q_lc s (k + 1) y by omega] at nx; exact nx _ _)
    have L139 : ∀ (d k j : Nat) (v8 v9 : Option zV) (σ1 : zM), j + d = n + 1 → k + 1 ≤ H → (∀ c j, c ≠ 101 → c ≠ 102 → σ1 c j = σ0 c j) → (∀ x, x ≤ n → σ1 101 x = q_lc s k x) → (∀ x, x < j → σ1 102 x = q_lc s k x) → (∀ σ2 : zM, (∀ c j, c ≠ 101 → c ≠ 102 → σ2 c j = σ0 c j) → (∀ x, x ≤ n → σ2 101 x = q_lc s (k + 1) x) → ∀ v7 v8 v9, X 127 [some (.inr (.inr (10, 0, 89))), some (.inl (w : Int)), some (.inl (r : Int)), some (.inl (i : Int)), some (.inl (n : Int)), some (.inl x5), some (.inl ((k : Int) + 1)), v7, v8, v9] [] σ2) → X 139 [some (.inr (.inr (10, 0, 89))), some (.inl (w : Int)), some (.inl (r : Int)), some (.inl (i : Int)), some (.inl (n : Int)), some (.inl x5), some (.inl (k : Int)), some (.inl (j : Int)), v8, v9] [] σ1 := by
      intro d
      induction d with
      | zero =>
        intro k j v8 v9 σ1 hd hi f1 f2 f3 C
        obtain rfl : j = n + 1 := by omega
        have nx := L169 n k 1 v8 v9 σ1 (by omega) (by omega) hi f1 (fun x hx => f3 x (by omega)) (fun x hx => by
          obtain rfl : x = 0 := by omega
          rw [f2 0 (by omega), q_lc_i0, q_lc_i0]) C
        refine h139 _ _ _ ?_
        simp only [z_push, z_lpush, z_iload, z_lload, z_aload, z_istore, z_istoreP, z_lstore, z_astore, z_iinc, z_iincP, z_iadd, z_isub, z_imul, z_iaddW, z_isubW, z_imulW, z_idiv, z_irem, z_iand, z_ior, z_ixor, z_ishl, z_ishr, z_iushr, z_ineg, z_i2l, z_i2b, z_i2s, z_i2c, z_l2i, z_ladd, z_lsub, z_land, z_lor, z_lshl, z_lshr, z_lcmp, z_dup, z_pop, z_dup2, z_goto, z_tsw, z_cases, z_geti, z_getr, z_puti, z_putz, z_ald, z_iast, z_bast, z_zast, z_alen, z_acopy, z_mmax, z_mmin, z_mabs, z_mabsL, z_iret, z_zret, z_nret, z_lret, z_aret, z_vret, z_cat, z_ldcs, z_strv, z_strc, z_gcs, z_gfm, z_sln, z_sald, z_ifeq, z_ifne, z_iflt, z_ifge, z_ifgt, z_ifle, z_iceq, z_icne, z_iclt, z_icge, z_icgt, z_icle, z_cs0, z_cs1, z_cs2, z_cs3, z_cs4, z_cs5, z_cs6, z_cs7, z_cv0, z_cv1, z_cv2, z_cv3, z_cv4, z_cv5, z_cv6, z_cv7, z_g0, z_s0, z_g1, z_s1, z_g2, z_s2, z_g3, z_s3, z_g4, z_s4, z_g5, z_s5, z_g6, z_s6, z_g7, z_s7, z_g8, z_s8, z_g9, z_s9, z_g10, z_s10, z_g11, z_s11, z_g12, z_s12, z_g13, z_s13, z_b0, z_b1, z_b0n, z_b1n, z_up_far1, z_up_far2, z_up_far3, z_up_far4, z_up_far5, z_up_far6, Classical.not_not, not_true_eq_false, z_in, z_inL, Int.cast_ofNat_Int, Nat.reduceLeDiff, List.length_cons, List.length_nil, Nat.reduceAdd, Nat.zero_add, Nat.le_refl, true_and, and_true, List.length, Nat.reduceLT, true_or, or_true, false_or, or_false, false_and, and_false, not_true_eq_false, not_false_eq_true, forall_const, false_implies, true_implies, Int.reduceEq, Int.reduceLT, Int.reduceLE, Int.reduceAdd, Int.reduceSub, Int.reduceMul, Int.reduceNeg, Int.reduceToNat, Int.toNat_natCast, ↓reduceIte, reduceIte, Nat.reduceEqDiff, Nat.reduceSub, Nat.reduceMul, ne_eq, Int.zero_add, Int.add_zero, Int.sub_zero, Nat.add_zero, Int.ofNat_eq_natCast, tX10_birds_139]
        repeat' (first | (intro _) | (with_reducible assumption) | (refine And.intro ?_ ?_))
        all_goals first | omega | assumption | (refine z_fin nx ?_ rfl; first | rfl | omega | (split <;> omega) | (split <;> split <;> omega)) | skip
      | succ d ih =>
        intro k j v8 v9 σ1 hd hi f1 f2 f3 C
        have nx := ih k (j + 1) v8 v9 (z_up σ1 102 j (σ1 101 j)) (by omega) hi (fun c j g1 g2 => by rw [z_up_ne (by omega)]; exact f1 c j g1 g2) (fun x hx => by rw [z_up_ne (by omega)]; exact f2 x (by omega)) (fun x hx => by
          by_cases e : x = j
          · subst e; rw [z_up_eq]; exact f2 x (by omega)
          · rw [z_up_ne (by omega)]; exact f3 x (by omega)) C
        refine h139 _ _ _ ?_
        simp only [z_push, z_lpush, z_iload, z_lload, z_aload, z_istore, z_istoreP, z_lstore, z_astore, z_iinc, z_iincP, z_iadd, z_isub, z_imul, z_iaddW, z_isubW, z_imulW, z_idiv, z_irem, z_iand, z_ior, z_ixor, z_ishl, z_ishr, z_iushr, z_ineg, z_i2l, z_i2b, z_i2s, z_i2c, z_l2i, z_ladd, z_lsub, z_land, z_lor, z_lshl, z_lshr, z_lcmp, z_dup, z_pop, z_dup2, z_goto, z_tsw, z_cases, z_geti, z_getr, z_puti, z_putz, z_ald, z_iast, z_bast, z_zast, z_alen, z_acopy, z_mmax, z_mmin, z_mabs, z_mabsL, z_iret, z_zret, z_nret, z_lret, z_aret, z_vret, z_cat, z_ldcs, z_strv, z_strc, z_gcs, z_gfm, z_sln, z_sald, z_ifeq, z_ifne, z_iflt, z_ifge, z_ifgt, z_ifle, z_iceq, z_icne, z_iclt, z_icge, z_icgt, z_icle, z_cs0, z_cs1, z_cs2, z_cs3, z_cs4, z_cs5, z_cs6, z_cs7, z_cv0, z_cv1, z_cv2, z_cv3, z_cv4, z_cv5, z_cv6, z_cv7, z_g0, z_s0, z_g1, z_s1, z_g2, z_s2, z_g3, z_s3, z_g4, z_s4, z_g5, z_s5, z_g6, z_s6, z_g7, z_s7, z_g8, z_s8, z_g9, z_s9, z_g10, z_s10, z_g11, z_s11, z_g12, z_s12, z_g13, z_s13, z_b0, z_b1, z_b0n, z_b1n, z_up_far1, z_up_far2, z_up_far3, z_up_far4, z_up_far5, z_up_far6, Classical.not_not, not_true_eq_false, z_in, z_inL, Int.cast_ofNat_Int, Nat.reduceLeDiff, List.length_cons, List.length_nil, Nat.reduceAdd, Nat.zero_add, Nat.le_refl, true_and, and_true, List.length, Nat.reduceLT, true_or, or_true, false_or, or_false, false_and, and_false, not_true_eq_false, not_false_eq_true, forall_const, false_implies, true_implies, Int.reduceEq, Int.reduceLT, Int.reduceLE, Int.reduceAdd, Int.reduceSub, Int.reduceMul, Int.reduceNeg, Int.reduceToNat, Int.toNat_natCast, ↓reduceIte, reduceIte, Nat.reduceEqDiff, Nat.reduceSub, Nat.reduceMul, ne_eq, Int.zero_add, Int.add_zero, Int.sub_zero, Nat.add_zero, Int.ofNat_eq_natCast, tX10_birds_139]
        repeat' (first | (intro _) | (with_reducible assumption) | (refine And.intro ?_ ?_))
        all_goals first | omega | assumption | (refine z_fin nx ?_ rfl; first | rfl | omega | (split <;> omega) | (split <;> split <;> omega)) | skip
    have L127 : ∀ (d k : Nat) (v7 v8 v9 : Option zV) (σ1 : zM), k + d = H → (∀ c j, c ≠ 101 → c ≠ 102 → σ1 c j = σ0 c j) → (∀ x, x ≤ n → σ1 101 x = q_lc s k x) → X 127 [some (.inr (.inr (10, 0, 89))), some (.inl (w : Int)), some (.inl (r : Int)), some (.inl (i : Int)), some (.inl (n : Int)), some (.inl x5), some (.inl (k : Int)), v7, v8, v9] [] σ1 := by
      intro d
      induction d with
      | zero =>
        intro k v7 v8 v9 σ1 hd f1 f2
        obtain rfl : k = H := by omega
        have eh : σ1 89 24 = k := by rw [f1 _ _ (by omega) (by omega)]; exact hH
        have dn := din k n
        have fin := key ((n : Int) - σ1 101 n) σ1 (fr 0 σ1 f1) (by rw [f1 _ _ (by omega) (by omega)]; exact s0) (by rw [f2 n (by omega), sv])
        have z := f2 n (by omega)
        refine h127 _ _ _ ?_
        simp only [z_push, z_lpush, z_iload, z_lload, z_aload, z_istore, z_istoreP, z_lstore, z_astore, z_iinc, z_iincP, z_iadd, z_isub, z_imul, z_iaddW, z_isubW, z_imulW, z_idiv, z_irem, z_iand, z_ior, z_ixor, z_ishl, z_ishr, z_iushr, z_ineg, z_i2l, z_i2b, z_i2s, z_i2c, z_l2i, z_ladd, z_lsub, z_land, z_lor, z_lshl, z_lshr, z_lcmp, z_dup, z_pop, z_dup2, z_goto, z_tsw, z_cases, z_geti, z_getr, z_puti, z_putz, z_ald, z_iast, z_bast, z_zast, z_alen, z_acopy, z_mmax, z_mmin, z_mabs, z_mabsL, z_iret, z_zret, z_nret, z_lret, z_aret, z_vret, z_cat, z_ldcs, z_strv, z_strc, z_gcs, z_gfm, z_sln, z_sald, z_ifeq, z_ifne, z_iflt, z_ifge, z_ifgt, z_ifle, z_iceq, z_icne, z_iclt, z_icge, z_icgt, z_icle, z_cs0, z_cs1, z_cs2, z_cs3, z_cs4, z_cs5, z_cs6, z_cs7, z_cv0, z_cv1, z_cv2, z_cv3, z_cv4, z_cv5, z_cv6, z_cv7, z_g0, z_s0, z_g1, z_s1, z_g2, z_s2, z_g3, z_s3, z_g4, z_s4, z_g5, z_s5, z_g6, z_s6, z_g7, z_s7, z_g8, z_s8, z_g9, z_s9, z_g10, z_s10, z_g11, z_s11, z_g12, z_s12, z_g13, z_s13, z_b0, z_b1, z_b0n, z_b1n, z_up_far1, z_up_far2, z_up_far3, z_up_far4, z_up_far5, z_up_far6, Classical.not_not, not_true_eq_false, z_in, z_inL, Int.cast_ofNat_Int, Nat.reduceLeDiff, List.length_cons, List.length_nil, Nat.reduceAdd, Nat.zero_add, Nat.le_refl, true_and, and_true, List.length, Nat.reduceLT, true_or, or_true, false_or, or_false, false_and, and_false, not_true_eq_false, not_false_eq_true, forall_const, false_implies, true_implies, Int.reduceEq, Int.reduceLT, Int.reduceLE, Int.reduceAdd, Int.reduceSub, Int.reduceMul, Int.reduceNeg, Int.reduceToNat, Int.toNat_natCast, ↓reduceIte, reduceIte, Nat.reduceEqDiff, Nat.reduceSub, Nat.reduceMul, ne_eq, Int.zero_add, Int.add_zero, Int.sub_zero, Nat.add_zero, Int.ofNat_eq_natCast, tX10_birds_127, eh]
        repeat' (first | (intro _) | (with_reducible assumption) | (refine And.intro ?_ ?_))
        all_goals first | omega | assumption | (refine z_fin fin ?_ rfl; first | rfl | omega | (split <;> omega) | (split <;> split <;> omega)) | skip
      | succ d ih =>
        intro k v7 v8 v9 σ1 hd f1 f2
        have eh : σ1 89 24 = H := by rw [f1 _ _ (by omega) (by omega)]; exact hH
        have nx := fun v8 v9 => L139 (n + 1) k 0 v8 v9 σ1 (by omega) (by omega) f1 f2 (fun x hx => absurd hx (by omega)) (fun σ2 g1 g2 w7 w8 w9 => ih (k + 1) w7 w8 w9 σ2 (by omega) g1 g2)
        refine h127 _ _ _ ?_
        simp only [z_push, z_lpush, z_iload, z_lload, z_aload, z_istore, z_istoreP, z_lstore, z_astore, z_iinc, z_iincP, z_iadd, z_isub, z_imul, z_iaddW, z_isubW, z_imulW, z_idiv, z_irem, z_iand, z_ior, z_ixor, z_ishl, z_ishr, z_iushr, z_ineg, z_i2l, z_i2b, z_i2s, z_i2c, z_l2i, z_ladd, z_lsub, z_land, z_lor, z_lshl, z_lshr, z_lcmp, z_dup, z_pop, z_dup2, z_goto, z_tsw, z_cases, z_geti, z_getr, z_puti, z_putz, z_ald, z_iast, z_bast, z_zast, z_alen, z_acopy, z_mmax, z_mmin, z_mabs, z_mabsL, z_iret, z_zret, z_nret, z_lret, z_aret, z_vret, z_cat, z_ldcs, z_strv, z_strc, z_gcs, z_gfm, z_sln, z_sald, z_ifeq, z_ifne, z_iflt, z_ifge, z_ifgt, z_ifle, z_iceq, z_icne, z_iclt, z_icge, z_icgt, z_icle, z_cs0, z_cs1, z_cs2, z_cs3, z_cs4, z_cs5, z_cs6, z_cs7, z_cv0, z_cv1, z_cv2, z_cv3, z_cv4, z_cv5, z_cv6, z_cv7, z_g0, z_s0, z_g1, z_s1, z_g2, z_s2, z_g3, z_s3, z_g4, z_s4, z_g5, z_s5, z_g6, z_s6, z_g7, z_s7, z_g8, z_s8, z_g9, z_s9, z_g10, z_s10, z_g11, z_s11, z_g12, z_s12, z_g13, z_s13, z_b0, z_b1, z_b0n, z_b1n, z_up_far1, z_up_far2, z_up_far3, z_up_far4, z_up_far5, z_up_far6, Classical.not_not, not_true_eq_false, z_in, z_inL, Int.cast_ofNat_Int, Nat.reduceLeDiff, List.length_cons, List.length_nil, Nat.reduceAdd, Nat.zero_add, Nat.le_refl, true_and, and_true, List.length, Nat.reduceLT, true_or, or_true, false_or, or_false, false_and, and_false, not_true_eq_false, not_false_eq_true, forall_const, false_implies, true_implies, Int.reduceEq, Int.reduceLT, Int.reduceLE, Int.reduceAdd, Int.reduceSub, Int.reduceMul, Int.reduceNeg, Int.reduceToNat, Int.toNat_natCast, ↓reduceIte, reduceIte, Nat.reduceEqDiff, Nat.reduceSub, Nat.reduceMul, ne_eq, Int.zero_add, Int.add_zero, Int.sub_zero, Nat.add_zero, Int.ofNat_eq_natCast, tX10_birds_127, eh]
        repeat' (first | (intro _) | (with_reducible assumption) | (refine And.intro ?_ ?_))
        all_goals first | omega | assumption | (refine z_fin mi ?_ rfl; first | rfl | omega | (split <;> omega) | (split <;> split <;> omega)) | skip
        all_goals exact nx _ _
    have L103 : ∀ (d j : Nat) (σ1 : zM), j + d = n + 1 → (∀ c j, c ≠ 101 → c ≠ 102 → σ1 c j = σ0 c j) → (∀ x, x < j → σ1 101 x = 0) → X 103 [some (.inr (.inr (10, 0, 89))), some (.inl (w : Int)), some (.inl (r : Int)), some (.inl (i : Int)), some (.inl (n : Int)), some (.inl x5), some (.inl (j : Int)), none, none, none] [] σ1 := by
      intro d
      induction d with
      | zero =>
        intro j σ1 hd f1 f2
        obtain rfl : j = n + 1 := by omega
        have nx := L127 H 0 none none none σ1 (by omega) f1 (fun x hx => by rw [f2 x (by omega), q_lc_0])
        refine h103 _ _ _ ?_
        simp only [z_push, z_lpush, z_iload, z_lload, z_aload, z_istore, z_istoreP, z_lstore, z_astore, z_iinc, z_iincP, z_iadd, z_isub, z_imul, z_iaddW, z_isubW, z_imulW, z_idiv, z_irem, z_iand, z_ior, z_ixor, z_ishl, z_ishr, z_iushr, z_ineg, z_i2l, z_i2b, z_i2s, z_i2c, z_l2i, z_ladd, z_lsub, z_land, z_lor, z_lshl, z_lshr, z_lcmp, z_dup, z_pop, z_dup2, z_goto, z_tsw, z_cases, z_geti, z_getr, z_puti, z_putz, z_ald, z_iast, z_bast, z_zast, z_alen, z_acopy, z_mmax, z_mmin, z_mabs, z_mabsL, z_iret, z_zret, z_nret, z_lret, z_aret, z_vret, z_cat, z_ldcs, z_strv, z_strc, z_gcs, z_gfm, z_sln, z_sald, z_ifeq, z_ifne, z_iflt, z_ifge, z_ifgt, z_ifle, z_iceq, z_icne, z_iclt, z_icge, z_icgt, z_icle, z_cs0, z_cs1, z_cs2, z_cs3, z_cs4, z_cs5, z_cs6, z_cs7, z_cv0, z_cv1, z_cv2, z_cv3, z_cv4, z_cv5, z_cv6, z_cv7, z_g0, z_s0, z_g1, z_s1, z_g2, z_s2, z_g3, z_s3, z_g4, z_s4, z_g5, z_s5, z_g6, z_s6, z_g7, z_s7, z_g8, z_s8, z_g9, z_s9, z_g10, z_s10, z_g11, z_s11, z_g12, z_s12, z_g13, z_s13, z_b0, z_b1, z_b0n, z_b1n, z_up_far1, z_up_far2, z_up_far3, z_up_far4, z_up_far5, z_up_far6, Classical.not_not, not_true_eq_false, z_in, z_inL, Int.cast_ofNat_Int, Nat.reduceLeDiff, List.length_cons, List.length_nil, Nat.reduceAdd, Nat.zero_add, Nat.le_refl, true_and, and_true, List.length, Nat.reduceLT, true_or, or_true, false_or, or_false, false_and, and_false, not_true_eq_false, not_false_eq_true, forall_const, false_implies, true_implies, Int.reduceEq, Int.reduceLT, Int.reduceLE, Int.reduceAdd, Int.reduceSub, Int.reduceMul, Int.reduceNeg, Int.reduceToNat, Int.toNat_natCast, ↓reduceIte, reduceIte, Nat.reduceEqDiff, Nat.reduceSub, Nat.reduceMul, ne_eq, Int.zero_add, Int.add_zero, Int.sub_zero, Nat.add_zero, Int.ofNat_eq_natCast, tX10_birds_103]
        repeat' (first | (intro _) | (with_reducible assumption) | (refine And.intro ?_ ?_))
        all_goals first | omega | assumption | (refine z_fin nx ?_ rfl; first | rfl | omega | (split <;> omega) | (split <;> split <;> omega)) | skip
      | succ d ih =>
        intro j σ1 hd f1 f2
        have nx := ih (j + 1) (z_up σ1 101 j 0) (by omega) (fun c j g1 g2 => by rw [z_up_ne (by omega)]; exact f1 c j g1 g2) (fun x hx => by
          by_cases e : x = j
          · subst e; rw [z_up_eq]
          · rw [z_up_ne (by omega)]; exact f2 x (by omega))
        refine h103 _ _ _ ?_
        simp only [z_push, z_lpush, z_iload, z_lload, z_aload, z_istore, z_istoreP, z_lstore, z_astore, z_iinc, z_iincP, z_iadd, z_isub, z_imul, z_iaddW, z_isubW, z_imulW, z_idiv, z_irem, z_iand, z_ior, z_ixor, z_ishl, z_ishr, z_iushr, z_ineg, z_i2l, z_i2b, z_i2s, z_i2c, z_l2i, z_ladd, z_lsub, z_land, z_lor, z_lshl, z_lshr, z_lcmp, z_dup, z_pop, z_dup2, z_goto, z_tsw, z_cases, z_geti, z_getr, z_puti, z_putz, z_ald, z_iast, z_bast, z_zast, z_alen, z_acopy, z_mmax, z_mmin, z_mabs, z_mabsL, z_iret, z_zret, z_nret, z_lret, z_aret, z_vret, z_cat, z_ldcs, z_strv, z_strc, z_gcs, z_gfm, z_sln, z_sald, z_ifeq, z_ifne, z_iflt, z_ifge, z_ifgt, z_ifle, z_iceq, z_icne, z_iclt, z_icge, z_icgt, z_icle, z_cs0, z_cs1, z_cs2, z_cs3, z_cs4, z_cs5, z_cs6, z_cs7, z_cv0, z_cv1, z_cv2, z_cv3, z_cv4, z_cv5, z_cv6, z_cv7, z_g0, z_s0, z_g1, z_s1, z_g2, z_s2, z_g3, z_s3, z_g4, z_s4, z_g5, z_s5, z_g6, z_s6, z_g7, z_s7, z_g8, z_s8, z_g9, z_s9, z_g10, z_s10, z_g11, z_s11, z_g12, z_s12, z_g13, z_s13, z_b0, z_b1, z_b0n, z_b1n, z_up_far1, z_up_far2, z_up_far3, z_up_far4, z_up_far5, z_up_far6, Classical.not_not, not_true_eq_false, z_in, z_inL, Int.cast_ofNat_Int, Nat.reduceLeDiff, List.length_cons, List.length_nil, Nat.reduceAdd, Nat.zero_add, Nat.le_refl, true_and, and_true, List.length, Nat.reduceLT, true_or, or_true, false_or, or_false, false_and, and_false, not_true_eq_false, not_false_eq_true, forall_const, false_implies, true_implies, Int.reduceEq, Int.reduceLT, Int.reduceLE, Int.reduceAdd, Int.reduceSub, Int.reduceMul, Int.reduceNeg, Int.reduceToNat, Int.toNat_natCast, ↓reduceIte, reduceIte, Nat.reduceEqDiff, Nat.reduceSub, Nat.reduceMul, ne_eq, Int.zero_add, Int.add_zero, Int.sub_zero, Nat.add_zero, Int.ofNat_eq_natCast, tX10_birds_103]
        repeat' (first | (intro _) | (with_reducible assumption) | (refine And.intro ?_ ?_))
        all_goals first | omega | assumption | (refine z_fin nx ?_ rfl; first | rfl | omega | (split <;> omega) | (split <;> split <;> omega)) | skip
    exact L103 (n + 1) 0 σ0 (by omega) (fun _ _ _ _ => rfl) (fun x hx => absurd hx (by omega))
  refine h0 _ _ _ ?_
  simp only [z_push, z_lpush, z_iload, z_lload, z_aload, z_istore, z_istoreP, z_lstore, z_astore, z_iinc, z_iincP, z_iadd, z_isub, z_imul, z_iaddW, z_isubW, z_imulW, z_idiv, z_irem, z_iand, z_ior, z_ixor, z_ishl, z_ishr, z_iushr, z_ineg, z_i2l, z_i2b, z_i2s, z_i2c, z_l2i, z_ladd, z_lsub, z_land, z_lor, z_lshl, z_lshr, z_lcmp, z_dup, z_pop, z_dup2, z_goto, z_tsw, z_cases, z_geti, z_getr, z_puti, z_putz, z_ald, z_iast, z_bast, z_zast, z_alen, z_acopy, z_mmax, z_mmin, z_mabs, z_mabsL, z_iret, z_zret, z_nret, z_lret, z_aret, z_vret, z_cat, z_ldcs, z_strv, z_strc, z_gcs, z_gfm, z_sln, z_sald, z_ifeq, z_ifne, z_iflt, z_ifge, z_ifgt, z_ifle, z_iceq, z_icne, z_iclt, z_icge, z_icgt, z_icle, z_cs0, z_cs1, z_cs2, z_cs3, z_cs4, z_cs5, z_cs6, z_cs7, z_cv0, z_cv1, z_cv2, z_cv3, z_cv4, z_cv5, z_cv6, z_cv7, z_g0, z_s0, z_g1, z_s1, z_g2, z_s2, z_g3, z_s3, z_g4, z_s4, z_g5, z_s5, z_g6, z_s6, z_g7, z_s7, z_g8, z_s8, z_g9, z_s9, z_g10, z_s10, z_g11, z_s11, z_g12, z_s12, z_g13, z_s13, z_b0, z_b1, z_b0n, z_b1n, z_up_far1, z_up_far2, z_up_far3, z_up_far4, z_up_far5, z_up_far6, Classical.not_not, not_true_eq_false, z_in, z_inL, Int.cast_ofNat_Int, Nat.reduceLeDiff, List.length_cons, List.length_nil, Nat.reduceAdd, Nat.zero_add, Nat.le_refl, true_and, and_true, List.length, Nat.reduceLT, true_or, or_true, false_or, or_false, false_and, and_false, not_true_eq_false, not_false_eq_true, forall_const, false_implies, true_implies, Int.reduceEq, Int.reduceLT, Int.reduceLE, Int.reduceAdd, Int.reduceSub, Int.reduceMul, Int.reduceNeg, Int.reduceToNat, Int.toNat_natCast, ↓reduceIte, reduceIte, Nat.reduceEqDiff, Nat.reduceSub, Nat.reduceMul, ne_eq, Int.zero_add, Int.add_zero, Int.sub_zero, Nat.add_zero, Int.ofNat_eq_natCast, tX10_birds_0, SX10_isWind, SX10_isRow, SX10_in, SX10_isApart, SX10_finding, SX10_layLengths, SX10_listen, e1, e90, e91]
  have ab : ∀ {P : Prop}, False → P := fun f => f.elim
  refine ⟨by omega, fun e => ab (e (by omega)), fun _ => ⟨fun e => ab (e (by omega)), fun _ => ⟨fun e => ab (e (by omega)), fun _ => ⟨fun _ => ⟨by omega, fun _ => ⟨fun _ => ⟨fun e => ab (by omega), fun _ => ⟨by omega, by omega, fun _ => ⟨fun _ σ1 f1 f2 => ?_, fun e => ab (by revert e; split <;> (try split) <;> omega)⟩⟩⟩, fun e => ab (by omega)⟩⟩, fun e => ab (e (by omega))⟩⟩⟩⟩
  have e93 : σ1 93 = σ 93 := funext fun j => by rw [f1 93 j (by omega), z_up_ne (by omega), z_up_ne (by omega)]
  have ly : q_ly σ1 (σ 93) := q_ly_id K (fun j => by rw [e93]) (fun j hj => by rw [f2 j hj, z_up_ne (by omega), z_up_ne (by omega), Nat.add_zero])
  refine ⟨⟨by rw [e93]; exact K, by rw [e93]; omega, fun t ht h2 => ?_⟩, fun σ2 f3 g => ?_⟩
  · rw [e93] at h2
    rw [← ly.2 t h2]
    have := K.2.1 t h2
    omega
  refine M σ2 (fun c j hc => by rw [f3 c j (by omega), f1 c j (by omega), z_up_ne (by omega), z_up_ne (by omega)]) (by rw [f3 _ _ (by omega), f1 _ _ (by omega), z_up_eq]) (g.D ly K (by omega))
theorem dX10_birds_0 : decode cX10_birds 0 = .ok (.aload_n 0, 1) := by decide +kernel
theorem dX10_birds_1 : decode cX10_birds 1 = .ok (.iconst 0, 1) := by decide +kernel
theorem dX10_birds_2 : decode cX10_birds 2 = .ok (.putfield 65, 3) := by decide +kernel
theorem dX10_birds_5 : decode cX10_birds 5 = .ok (.aload_n 0, 1) := by decide +kernel
theorem dX10_birds_6 : decode cX10_birds 6 = .ok (.iload_n 1, 1) := by decide +kernel
theorem dX10_birds_7 : decode cX10_birds 7 = .ok (.invokevirtual 253, 3) := by decide +kernel
theorem dX10_birds_10 : decode cX10_birds 10 = .ok (.ifCond .eq 31, 3) := by decide +kernel
theorem dX10_birds_13 : decode cX10_birds 13 = .ok (.iload_n 2, 1) := by decide +kernel
theorem dX10_birds_14 : decode cX10_birds 14 = .ok (.invokestatic 79, 3) := by decide +kernel
theorem dX10_birds_17 : decode cX10_birds 17 = .ok (.ifCond .eq 24, 3) := by decide +kernel
theorem dX10_birds_20 : decode cX10_birds 20 = .ok (.iload 4, 2) := by decide +kernel
theorem dX10_birds_22 : decode cX10_birds 22 = .ok (.i2l, 1) := by decide +kernel
theorem dX10_birds_23 : decode cX10_birds 23 = .ok (.lconst 1, 1) := by decide +kernel
theorem dX10_birds_24 : decode cX10_birds 24 = .ok (.ldc2_w 271, 3) := by decide +kernel
theorem dX10_birds_27 : decode cX10_birds 27 = .ok (.invokestatic 75, 3) := by decide +kernel
theorem dX10_birds_30 : decode cX10_birds 30 = .ok (.ifCond .eq 11, 3) := by decide +kernel
theorem dX10_birds_33 : decode cX10_birds 33 = .ok (.iload 5, 2) := by decide +kernel
theorem dX10_birds_35 : decode cX10_birds 35 = .ok (.invokestatic 273, 3) := by decide +kernel
theorem dX10_birds_38 : decode cX10_birds 38 = .ok (.ifCond .ne 6, 3) := by decide +kernel
theorem dX10_birds_41 : decode cX10_birds 41 = .ok (.ldc 85, 2) := by decide +kernel
theorem dX10_birds_43 : decode cX10_birds 43 = .ok (.ireturn, 1) := by decide +kernel
theorem dX10_birds_44 : decode cX10_birds 44 = .ok (.aload_n 0, 1) := by decide +kernel
theorem dX10_birds_45 : decode cX10_birds 45 = .ok (.iconst 0, 1) := by decide +kernel
theorem dX10_birds_46 : decode cX10_birds 46 = .ok (.putfield 69, 3) := by decide +kernel
theorem dX10_birds_49 : decode cX10_birds 49 = .ok (.aload_n 0, 1) := by decide +kernel
theorem dX10_birds_50 : decode cX10_birds 50 = .ok (.getfield 7, 3) := by decide +kernel
theorem dX10_birds_53 : decode cX10_birds 53 = .ok (.iload_n 2, 1) := by decide +kernel
theorem dX10_birds_54 : decode cX10_birds 54 = .ok (.iaload, 1) := by decide +kernel
theorem dX10_birds_55 : decode cX10_birds 55 = .ok (.ifCond .ge 9, 3) := by decide +kernel
theorem dX10_birds_58 : decode cX10_birds 58 = .ok (.aload_n 0, 1) := by decide +kernel
theorem dX10_birds_59 : decode cX10_birds 59 = .ok (.iconst 1, 1) := by decide +kernel
theorem dX10_birds_60 : decode cX10_birds 60 = .ok (.invokevirtual 86, 3) := by decide +kernel
theorem dX10_birds_63 : decode cX10_birds 63 = .ok (.ireturn, 1) := by decide +kernel
theorem dX10_birds_64 : decode cX10_birds 64 = .ok (.iload_n 3, 1) := by decide +kernel
theorem dX10_birds_65 : decode cX10_birds 65 = .ok (.ifCond .lt 20, 3) := by decide +kernel
theorem dX10_birds_68 : decode cX10_birds 68 = .ok (.iload_n 3, 1) := by decide +kernel
theorem dX10_birds_69 : decode cX10_birds 69 = .ok (.i2l, 1) := by decide +kernel
theorem dX10_birds_70 : decode cX10_birds 70 = .ok (.iload 4, 2) := by decide +kernel
theorem dX10_birds_72 : decode cX10_birds 72 = .ok (.i2l, 1) := by decide +kernel
theorem dX10_birds_73 : decode cX10_birds 73 = .ok (.ladd, 1) := by decide +kernel
theorem dX10_birds_74 : decode cX10_birds 74 = .ok (.aload_n 0, 1) := by decide +kernel
theorem dX10_birds_75 : decode cX10_birds 75 = .ok (.getfield 13, 3) := by decide +kernel
theorem dX10_birds_78 : decode cX10_birds 78 = .ok (.iload_n 2, 1) := by decide +kernel
theorem dX10_birds_79 : decode cX10_birds 79 = .ok (.iaload, 1) := by decide +kernel
theorem dX10_birds_80 : decode cX10_birds 80 = .ok (.i2l, 1) := by decide +kernel
theorem dX10_birds_81 : decode cX10_birds 81 = .ok (.lcmp, 1) := by decide +kernel
theorem dX10_birds_82 : decode cX10_birds 82 = .ok (.ifCond .le 9, 3) := by decide +kernel
theorem dX10_birds_85 : decode cX10_birds 85 = .ok (.aload_n 0, 1) := by decide +kernel
theorem dX10_birds_86 : decode cX10_birds 86 = .ok (.iconst 2, 1) := by decide +kernel
theorem dX10_birds_87 : decode cX10_birds 87 = .ok (.invokevirtual 86, 3) := by decide +kernel
theorem dX10_birds_90 : decode cX10_birds 90 = .ok (.ireturn, 1) := by decide +kernel
theorem dX10_birds_91 : decode cX10_birds 91 = .ok (.aload_n 0, 1) := by decide +kernel
theorem dX10_birds_92 : decode cX10_birds 92 = .ok (.invokevirtual 232, 3) := by decide +kernel
theorem dX10_birds_95 : decode cX10_birds 95 = .ok (.aload_n 0, 1) := by decide +kernel
theorem dX10_birds_96 : decode cX10_birds 96 = .ok (.iload_n 1, 1) := by decide +kernel
theorem dX10_birds_97 : decode cX10_birds 97 = .ok (.invokevirtual 256, 3) := by decide +kernel
theorem dX10_birds_100 : decode cX10_birds 100 = .ok (.iconst 0, 1) := by decide +kernel
theorem dX10_birds_101 : decode cX10_birds 101 = .ok (.istore 6, 2) := by decide +kernel
theorem dX10_birds_103 : decode cX10_birds 103 = .ok (.iload 6, 2) := by decide +kernel
theorem dX10_birds_105 : decode cX10_birds 105 = .ok (.iload 4, 2) := by decide +kernel
theorem dX10_birds_107 : decode cX10_birds 107 = .ok (.if_icmp .gt 17, 3) := by decide +kernel
theorem dX10_birds_110 : decode cX10_birds 110 = .ok (.aload_n 0, 1) := by decide +kernel
theorem dX10_birds_111 : decode cX10_birds 111 = .ok (.getfield 43, 3) := by decide +kernel
theorem dX10_birds_114 : decode cX10_birds 114 = .ok (.iload 6, 2) := by decide +kernel
theorem dX10_birds_116 : decode cX10_birds 116 = .ok (.iconst 0, 1) := by decide +kernel
theorem dX10_birds_117 : decode cX10_birds 117 = .ok (.iastore, 1) := by decide +kernel
theorem dX10_birds_118 : decode cX10_birds 118 = .ok (.iinc 6 1, 3) := by decide +kernel
theorem dX10_birds_121 : decode cX10_birds 121 = .ok (.goto (-18), 3) := by decide +kernel
theorem dX10_birds_124 : decode cX10_birds 124 = .ok (.iconst 0, 1) := by decide +kernel
theorem dX10_birds_125 : decode cX10_birds 125 = .ok (.istore 6, 2) := by decide +kernel
theorem dX10_birds_127 : decode cX10_birds 127 = .ok (.iload 6, 2) := by decide +kernel
theorem dX10_birds_129 : decode cX10_birds 129 = .ok (.aload_n 0, 1) := by decide +kernel
theorem dX10_birds_130 : decode cX10_birds 130 = .ok (.getfield 246, 3) := by decide +kernel
theorem dX10_birds_133 : decode cX10_birds 133 = .ok (.if_icmp .ge 171, 3) := by decide +kernel
theorem dX10_birds_136 : decode cX10_birds 136 = .ok (.iconst 0, 1) := by decide +kernel
theorem dX10_birds_137 : decode cX10_birds 137 = .ok (.istore 7, 2) := by decide +kernel
theorem dX10_birds_139 : decode cX10_birds 139 = .ok (.iload 7, 2) := by decide +kernel
theorem dX10_birds_141 : decode cX10_birds 141 = .ok (.iload 4, 2) := by decide +kernel
theorem dX10_birds_143 : decode cX10_birds 143 = .ok (.if_icmp .gt 23, 3) := by decide +kernel
theorem dX10_birds_146 : decode cX10_birds 146 = .ok (.aload_n 0, 1) := by decide +kernel
theorem dX10_birds_147 : decode cX10_birds 147 = .ok (.getfield 46, 3) := by decide +kernel
theorem dX10_birds_150 : decode cX10_birds 150 = .ok (.iload 7, 2) := by decide +kernel
theorem dX10_birds_152 : decode cX10_birds 152 = .ok (.aload_n 0, 1) := by decide +kernel
theorem dX10_birds_153 : decode cX10_birds 153 = .ok (.getfield 43, 3) := by decide +kernel
theorem dX10_birds_156 : decode cX10_birds 156 = .ok (.iload 7, 2) := by decide +kernel
theorem dX10_birds_158 : decode cX10_birds 158 = .ok (.iaload, 1) := by decide +kernel
theorem dX10_birds_159 : decode cX10_birds 159 = .ok (.iastore, 1) := by decide +kernel
theorem dX10_birds_160 : decode cX10_birds 160 = .ok (.iinc 7 1, 3) := by decide +kernel
theorem dX10_birds_163 : decode cX10_birds 163 = .ok (.goto (-24), 3) := by decide +kernel
theorem dX10_birds_166 : decode cX10_birds 166 = .ok (.iconst 1, 1) := by decide +kernel
theorem dX10_birds_167 : decode cX10_birds 167 = .ok (.istore 7, 2) := by decide +kernel
theorem dX10_birds_169 : decode cX10_birds 169 = .ok (.iload 7, 2) := by decide +kernel
theorem dX10_birds_171 : decode cX10_birds 171 = .ok (.iload 4, 2) := by decide +kernel
theorem dX10_birds_173 : decode cX10_birds 173 = .ok (.if_icmp .gt 125, 3) := by decide +kernel
theorem dX10_birds_176 : decode cX10_birds 176 = .ok (.aload_n 0, 1) := by decide +kernel
theorem dX10_birds_177 : decode cX10_birds 177 = .ok (.getfield 37, 3) := by decide +kernel
theorem dX10_birds_180 : decode cX10_birds 180 = .ok (.iload 6, 2) := by decide +kernel
theorem dX10_birds_182 : decode cX10_birds 182 = .ok (.iaload, 1) := by decide +kernel
theorem dX10_birds_183 : decode cX10_birds 183 = .ok (.i2l, 1) := by decide +kernel
theorem dX10_birds_184 : decode cX10_birds 184 = .ok (.aload_n 0, 1) := by decide +kernel
theorem dX10_birds_185 : decode cX10_birds 185 = .ok (.getfield 16, 3) := by decide +kernel
theorem dX10_birds_188 : decode cX10_birds 188 = .ok (.bipush 40, 2) := by decide +kernel
theorem dX10_birds_190 : decode cX10_birds 190 = .ok (.iload_n 2, 1) := by decide +kernel
theorem dX10_birds_191 : decode cX10_birds 191 = .ok (.imul, 1) := by decide +kernel
theorem dX10_birds_192 : decode cX10_birds 192 = .ok (.iload_n 3, 1) := by decide +kernel
theorem dX10_birds_193 : decode cX10_birds 193 = .ok (.iadd, 1) := by decide +kernel
theorem dX10_birds_194 : decode cX10_birds 194 = .ok (.iload 7, 2) := by decide +kernel
theorem dX10_birds_196 : decode cX10_birds 196 = .ok (.iadd, 1) := by decide +kernel
theorem dX10_birds_197 : decode cX10_birds 197 = .ok (.iconst 1, 1) := by decide +kernel
theorem dX10_birds_198 : decode cX10_birds 198 = .ok (.isub, 1) := by decide +kernel
theorem dX10_birds_199 : decode cX10_birds 199 = .ok (.iaload, 1) := by decide +kernel
theorem dX10_birds_200 : decode cX10_birds 200 = .ok (.i2l, 1) := by decide +kernel
theorem dX10_birds_201 : decode cX10_birds 201 = .ok (.iload 5, 2) := by decide +kernel
theorem dX10_birds_203 : decode cX10_birds 203 = .ok (.invokestatic 294, 3) := by decide +kernel
theorem dX10_birds_206 : decode cX10_birds 206 = .ok (.istore 8, 2) := by decide +kernel
theorem dX10_birds_208 : decode cX10_birds 208 = .ok (.aload_n 0, 1) := by decide +kernel
theorem dX10_birds_209 : decode cX10_birds 209 = .ok (.getfield 46, 3) := by decide +kernel
theorem dX10_birds_212 : decode cX10_birds 212 = .ok (.iload 7, 2) := by decide +kernel
theorem dX10_birds_214 : decode cX10_birds 214 = .ok (.iaload, 1) := by decide +kernel
theorem dX10_birds_215 : decode cX10_birds 215 = .ok (.aload_n 0, 1) := by decide +kernel
theorem dX10_birds_216 : decode cX10_birds 216 = .ok (.getfield 43, 3) := by decide +kernel
theorem dX10_birds_219 : decode cX10_birds 219 = .ok (.iload 7, 2) := by decide +kernel
theorem dX10_birds_221 : decode cX10_birds 221 = .ok (.iconst 1, 1) := by decide +kernel
theorem dX10_birds_222 : decode cX10_birds 222 = .ok (.isub, 1) := by decide +kernel
theorem dX10_birds_223 : decode cX10_birds 223 = .ok (.iaload, 1) := by decide +kernel
theorem dX10_birds_224 : decode cX10_birds 224 = .ok (.if_icmp .le 13, 3) := by decide +kernel
theorem dX10_birds_227 : decode cX10_birds 227 = .ok (.aload_n 0, 1) := by decide +kernel
theorem dX10_birds_228 : decode cX10_birds 228 = .ok (.getfield 46, 3) := by decide +kernel
theorem dX10_birds_231 : decode cX10_birds 231 = .ok (.iload 7, 2) := by decide +kernel
theorem dX10_birds_233 : decode cX10_birds 233 = .ok (.iaload, 1) := by decide +kernel
theorem dX10_birds_234 : decode cX10_birds 234 = .ok (.goto 12, 3) := by decide +kernel
theorem dX10_birds_237 : decode cX10_birds 237 = .ok (.aload_n 0, 1) := by decide +kernel
theorem dX10_birds_238 : decode cX10_birds 238 = .ok (.getfield 43, 3) := by decide +kernel
theorem dX10_birds_241 : decode cX10_birds 241 = .ok (.iload 7, 2) := by decide +kernel
theorem dX10_birds_243 : decode cX10_birds 243 = .ok (.iconst 1, 1) := by decide +kernel
theorem dX10_birds_244 : decode cX10_birds 244 = .ok (.isub, 1) := by decide +kernel
theorem dX10_birds_245 : decode cX10_birds 245 = .ok (.iaload, 1) := by decide +kernel
theorem dX10_birds_246 : decode cX10_birds 246 = .ok (.istore 9, 2) := by decide +kernel
theorem dX10_birds_248 : decode cX10_birds 248 = .ok (.aload_n 0, 1) := by decide +kernel
theorem dX10_birds_249 : decode cX10_birds 249 = .ok (.getfield 43, 3) := by decide +kernel
theorem dX10_birds_252 : decode cX10_birds 252 = .ok (.iload 7, 2) := by decide +kernel
theorem dX10_birds_254 : decode cX10_birds 254 = .ok (.iload 8, 2) := by decide +kernel
theorem dX10_birds_256 : decode cX10_birds 256 = .ok (.ifCond .eq 33, 3) := by decide +kernel
theorem dX10_birds_259 : decode cX10_birds 259 = .ok (.aload_n 0, 1) := by decide +kernel
theorem dX10_birds_260 : decode cX10_birds 260 = .ok (.getfield 46, 3) := by decide +kernel
theorem dX10_birds_263 : decode cX10_birds 263 = .ok (.iload 7, 2) := by decide +kernel
theorem dX10_birds_265 : decode cX10_birds 265 = .ok (.iconst 1, 1) := by decide +kernel
theorem dX10_birds_266 : decode cX10_birds 266 = .ok (.isub, 1) := by decide +kernel
theorem dX10_birds_267 : decode cX10_birds 267 = .ok (.iaload, 1) := by decide +kernel
theorem dX10_birds_268 : decode cX10_birds 268 = .ok (.iconst 1, 1) := by decide +kernel
theorem dX10_birds_269 : decode cX10_birds 269 = .ok (.iadd, 1) := by decide +kernel
theorem dX10_birds_270 : decode cX10_birds 270 = .ok (.iload 9, 2) := by decide +kernel
theorem dX10_birds_272 : decode cX10_birds 272 = .ok (.if_icmp .le 17, 3) := by decide +kernel
theorem dX10_birds_275 : decode cX10_birds 275 = .ok (.aload_n 0, 1) := by decide +kernel
theorem dX10_birds_276 : decode cX10_birds 276 = .ok (.getfield 46, 3) := by decide +kernel
theorem dX10_birds_279 : decode cX10_birds 279 = .ok (.iload 7, 2) := by decide +kernel
theorem dX10_birds_281 : decode cX10_birds 281 = .ok (.iconst 1, 1) := by decide +kernel
theorem dX10_birds_282 : decode cX10_birds 282 = .ok (.isub, 1) := by decide +kernel
theorem dX10_birds_283 : decode cX10_birds 283 = .ok (.iaload, 1) := by decide +kernel
theorem dX10_birds_284 : decode cX10_birds 284 = .ok (.iconst 1, 1) := by decide +kernel
theorem dX10_birds_285 : decode cX10_birds 285 = .ok (.iadd, 1) := by decide +kernel
theorem dX10_birds_286 : decode cX10_birds 286 = .ok (.goto 5, 3) := by decide +kernel
theorem dX10_birds_289 : decode cX10_birds 289 = .ok (.iload 9, 2) := by decide +kernel
theorem dX10_birds_291 : decode cX10_birds 291 = .ok (.iastore, 1) := by decide +kernel
theorem dX10_birds_292 : decode cX10_birds 292 = .ok (.iinc 7 1, 3) := by decide +kernel
theorem dX10_birds_295 : decode cX10_birds 295 = .ok (.goto (-126), 3) := by decide +kernel
theorem dX10_birds_298 : decode cX10_birds 298 = .ok (.iinc 6 1, 3) := by decide +kernel
theorem dX10_birds_301 : decode cX10_birds 301 = .ok (.goto (-174), 3) := by decide +kernel
theorem dX10_birds_304 : decode cX10_birds 304 = .ok (.iload 4, 2) := by decide +kernel
theorem dX10_birds_306 : decode cX10_birds 306 = .ok (.aload_n 0, 1) := by decide +kernel
theorem dX10_birds_307 : decode cX10_birds 307 = .ok (.getfield 43, 3) := by decide +kernel
theorem dX10_birds_310 : decode cX10_birds 310 = .ok (.iload 4, 2) := by decide +kernel
theorem dX10_birds_312 : decode cX10_birds 312 = .ok (.iaload, 1) := by decide +kernel
theorem dX10_birds_313 : decode cX10_birds 313 = .ok (.isub, 1) := by decide +kernel
theorem dX10_birds_314 : decode cX10_birds 314 = .ok (.ireturn, 1) := by decide +kernel
set_option maxRecDepth 100000 in
theorem rX10_birds_0 {p : Program} {l : Launch} {e : Env} {s : State} {m : MethodId} {args : Array Value} {below : List Frame} {meth : Method} {c : Code} {D : va_G} {cA : Nat → ClassId} {ad : Nat → Nat} {Ret : zR} (C : z_Cx p { frames := 3, cells := 0, slots := 0, locals := 68 } s m args c cX10_birds yX10_birds.cls 10 D cA ad) (hr : meth.sig.returnType = (some .int)) (hlocks : meth.locks = false) : ∀ L st σ, tX10_birds_0 (z_X p l e { frames := 3, cells := 0, slots := 0, locals := 68 } s m args below meth c (MQ below (z_Qc D cA ad Ret) args s 0 0 (z_A ad)) 10 D cA ad true) Ret L st σ → z_X p l e { frames := 3, cells := 0, slots := 0, locals := 68 } s m args below meth c (MQ below (z_Qc D cA ad Ret) args s 0 0 (z_A ad)) 10 D cA ad true 0 L st σ := (s_aload_n C dX10_birds_0 rfl (s_iconst C dX10_birds_1 rfl ⟨by decide, by decide⟩ (s_puti C dX10_birds_2 cls_X10 (by decide) rfl wd_968 rfl rfl (s_aload_n C dX10_birds_5 rfl (s_iload_n C dX10_birds_6 rfl (s_cv1 C dX10_birds_7 (okX10_isWind l) cls_X10 wd_1257 wd_1259 wd_59 wd_85 wd_1260 ⟨by decide, by decide, by decide +kernel⟩ ⟨by decide, by decide⟩ (s_ifeq C dX10_birds_10 (by decide) (s_ldc C dX10_birds_41 (v := -1000001) wd_1086 ⟨by decide, by decide⟩ (s_iret C dX10_birds_43 hr hlocks)) (s_iload_n C dX10_birds_13 rfl (s_cs1 C dX10_birds_14 (okX10_isRow l) wd_1078 wd_1079 wd_85 wd_1080 ⟨by decide, by decide, by decide +kernel⟩ ⟨by decide, by decide⟩ (s_ifeq C dX10_birds_17 (by decide) (s_ldc C dX10_birds_41 (v := -1000001) wd_1086 ⟨by decide, by decide⟩ (s_iret C dX10_birds_43 hr hlocks)) (s_iload C dX10_birds_20 (s_i2l C dX10_birds_22 (s_lconst C dX10_birds_23 (v := 1) rfl ⟨by decide, by decide⟩ (s_ldc2 C dX10_birds_24 (v := 20) wd_1295 ⟨by decide, by decide⟩ (s_cs3 C dX10_birds_27 (okX10_in l) wd_1082 wd_1083 wd_85 wd_1084 ⟨by decide, by decide, by decide +kernel⟩ ⟨by decide, by decide⟩ (s_ifeq C dX10_birds_30 (by decide) (s_ldc C dX10_birds_41 (v := -1000001) wd_1086 ⟨by decide, by decide⟩ (s_iret C dX10_birds_43 hr hlocks)) (s_iload C dX10_birds_33 (s_cs1 C dX10_birds_35 (okX10_isApart l) wd_1273 wd_1274 wd_85 wd_1275 ⟨by decide, by decide, by decide +kernel⟩ ⟨by decide, by decide⟩ (s_ifne C dX10_birds_38 (by decide) (s_aload_n C dX10_birds_44 rfl (s_iconst C dX10_birds_45 rfl ⟨by decide, by decide⟩ (s_puti C dX10_birds_46 cls_X10 (by decide) rfl wd_969 rfl rfl (s_aload_n C dX10_birds_49 rfl (s_getr C dX10_birds_50 (j := 2) cls_X10 (by decide) rfl (by decide) (by decide) (by decide +kernel) wd_970 (s_iload_n C dX10_birds_53 rfl (s_iald C dX10_birds_54 (s_ifge C dX10_birds_55 (by decide) (s_iload_n C dX10_birds_64 rfl (s_iflt C dX10_birds_65 (by decide) (s_aload_n C dX10_birds_85 rfl (s_iconst C dX10_birds_86 rfl ⟨by decide, by decide⟩ (s_cv1 C dX10_birds_87 (okX10_finding l) cls_X10 wd_1087 wd_1089 wd_35 wd_85 wd_1090 ⟨by decide, by decide, by decide +kernel⟩ ⟨by decide, by decide⟩ (s_iret C dX10_birds_90 hr hlocks)))) (s_iload_n C dX10_birds_68 rfl (s_i2l C dX10_birds_69 (s_iload C dX10_birds_70 (s_i2l C dX10_birds_72 (s_ladd C dX10_birds_73 (s_aload_n C dX10_birds_74 rfl (s_getr C dX10_birds_75 (j := 3) cls_X10 (by decide) rfl (by decide) (by decide) (by decide +kernel) wd_971 (s_iload_n C dX10_birds_78 rfl (s_iald C dX10_birds_79 (s_i2l C dX10_birds_80 (s_lcmp C dX10_birds_81 (s_ifle C dX10_birds_82 (by decide) (s_aload_n C dX10_birds_91 rfl (s_cv0 C dX10_birds_92 (okX10_layLengths l) cls_X10 wd_1228 wd_1230 wd_54 wd_85 wd_1231 ⟨by decide, by decide, by decide +kernel⟩ ⟨by decide, by decide⟩ (s_aload_n C dX10_birds_95 rfl (s_iload_n C dX10_birds_96 rfl (s_cv1 C dX10_birds_97 (okX10_listen l) cls_X10 wd_1261 wd_1263 wd_60 wd_85 wd_1264 ⟨by decide, by decide, by decide +kernel⟩ ⟨by decide, by decide⟩ (s_iconst C dX10_birds_100 rfl ⟨by decide, by decide⟩ (s_istore C dX10_birds_101 (by decide) rfl (fun _ _ _ h => h)))))))) (s_aload_n C dX10_birds_85 rfl (s_iconst C dX10_birds_86 rfl ⟨by decide, by decide⟩ (s_cv1 C dX10_birds_87 (okX10_finding l) cls_X10 wd_1087 wd_1089 wd_35 wd_85 wd_1090 ⟨by decide, by decide, by decide +kernel⟩ ⟨by decide, by decide⟩ (s_iret C dX10_birds_90 hr hlocks)))))))))))))))))) (s_aload_n C dX10_birds_58 rfl (s_iconst C dX10_birds_59 rfl ⟨by decide, by decide⟩ (s_cv1 C dX10_birds_60 (okX10_finding l) cls_X10 wd_1087 wd_1089 wd_35 wd_85 wd_1090 ⟨by decide, by decide, by decide +kernel⟩ ⟨by decide, by decide⟩ (s_iret C dX10_birds_63 hr hlocks)))))))))))) (s_ldc C dX10_birds_41 (v := -1000001) wd_1086 ⟨by decide, by decide⟩ (s_iret C dX10_birds_43 hr hlocks)))))))))))))))))))))
set_option maxRecDepth 100000 in
theorem rX10_birds_103 {p : Program} {l : Launch} {e : Env} {s : State} {m : MethodId} {args : Array Value} {below : List Frame} {meth : Method} {c : Code} {D : va_G} {cA : Nat → ClassId} {ad : Nat → Nat} {Ret : zR} (C : z_Cx p { frames := 3, cells := 0, slots := 0, locals := 68 } s m args c cX10_birds yX10_birds.cls 10 D cA ad) (hr : meth.sig.returnType = (some .int)) (hlocks : meth.locks = false) : ∀ L st σ, tX10_birds_103 (z_X p l e { frames := 3, cells := 0, slots := 0, locals := 68 } s m args below meth c (MQ below (z_Qc D cA ad Ret) args s 0 0 (z_A ad)) 10 D cA ad true) Ret L st σ → z_X p l e { frames := 3, cells := 0, slots := 0, locals := 68 } s m args below meth c (MQ below (z_Qc D cA ad Ret) args s 0 0 (z_A ad)) 10 D cA ad true 103 L st σ := (s_iload C dX10_birds_103 (s_iload C dX10_birds_105 (s_icgt C dX10_birds_107 (by decide) (s_iconst C dX10_birds_124 rfl ⟨by decide, by decide⟩ (s_istore C dX10_birds_125 (by decide) rfl (fun _ _ _ h => h))) (s_aload_n C dX10_birds_110 rfl (s_getr C dX10_birds_111 (j := 25) cls_X10 (by decide) rfl (by decide) (by decide) (by decide +kernel) wd_993 (s_iload C dX10_birds_114 (s_iconst C dX10_birds_116 rfl ⟨by decide, by decide⟩ (s_iast C dX10_birds_117 (s_iinc C dX10_birds_118 (by decide) rfl (s_goto C dX10_birds_121 (by decide) (fun _ _ _ h => h)))))))))))
set_option maxRecDepth 100000 in
theorem rX10_birds_127 {p : Program} {l : Launch} {e : Env} {s : State} {m : MethodId} {args : Array Value} {below : List Frame} {meth : Method} {c : Code} {D : va_G} {cA : Nat → ClassId} {ad : Nat → Nat} {Ret : zR} (C : z_Cx p { frames := 3, cells := 0, slots := 0, locals := 68 } s m args c cX10_birds yX10_birds.cls 10 D cA ad) (hr : meth.sig.returnType = (some .int)) (hlocks : meth.locks = false) : ∀ L st σ, tX10_birds_127 (z_X p l e { frames := 3, cells := 0, slots := 0, locals := 68 } s m args below meth c (MQ below (z_Qc D cA ad Ret) args s 0 0 (z_A ad)) 10 D cA ad true) Ret L st σ → z_X p l e { frames := 3, cells := 0, slots := 0, locals := 68 } s m args below meth c (MQ below (z_Qc D cA ad Ret) args s 0 0 (z_A ad)) 10 D cA ad true 127 L st σ := (s_iload C dX10_birds_127 (s_aload_n C dX10_birds_129 rfl (s_geti C dX10_birds_130 cls_X10 (by decide) rfl wd_992 (s_icge C dX10_birds_133 (by decide) (s_iload C dX10_birds_304 (s_aload_n C dX10_birds_306 rfl (s_getr C dX10_birds_307 (j := 25) cls_X10 (by decide) rfl (by decide) (by decide) (by decide +kernel) wd_993 (s_iload C dX10_birds_310 (s_iald C dX10_birds_312 (s_isub C dX10_birds_313 (s_iret C dX10_birds_314 hr hlocks))))))) (s_iconst C dX10_birds_136 rfl ⟨by decide, by decide⟩ (s_istore C dX10_birds_137 (by decide) rfl (fun _ _ _ h => h)))))))
set_option maxRecDepth 100000 in
theorem rX10_birds_139 {p : Program} {l : Launch} {e : Env} {s : State} {m : MethodId} {args : Array Value} {below : List Frame} {meth : Method} {c : Code} {D : va_G} {cA : Nat → ClassId} {ad : Nat → Nat} {Ret : zR} (C : z_Cx p { frames := 3, cells := 0, slots := 0, locals := 68 } s m args c cX10_birds yX10_birds.cls 10 D cA ad) (hr : meth.sig.returnType = (some .int)) (hlocks : meth.locks = false) : ∀ L st σ, tX10_birds_139 (z_X p l e { frames := 3, cells := 0, slots := 0, locals := 68 } s m args below meth c (MQ below (z_Qc D cA ad Ret) args s 0 0 (z_A ad)) 10 D cA ad true) Ret L st σ → z_X p l e { frames := 3, cells := 0, slots := 0, locals := 68 } s m args below meth c (MQ below (z_Qc D cA ad Ret) args s 0 0 (z_A ad)) 10 D cA ad true 139 L st σ := (s_iload C dX10_birds_139 (s_iload C dX10_birds_141 (s_icgt C dX10_birds_143 (by decide) (s_iconst C dX10_birds_166 rfl ⟨by decide, by decide⟩ (s_istore C dX10_birds_167 (by decide) rfl (fun _ _ _ h => h))) (s_aload_n C dX10_birds_146 rfl (s_getr C dX10_birds_147 (j := 26) cls_X10 (by decide) rfl (by decide) (by decide) (by decide +kernel) wd_994 (s_iload C dX10_birds_150 (s_aload_n C dX10_birds_152 rfl (s_getr C dX10_birds_153 (j := 25) cls_X10 (by decide) rfl (by decide) (by decide) (by decide +kernel) wd_993 (s_iload C dX10_birds_156 (s_iald C dX10_birds_158 (s_iast C dX10_birds_159 (s_iinc C dX10_birds_160 (by decide) rfl (s_goto C dX10_birds_163 (by decide) (fun _ _ _ h => h))))))))))))))
set_option maxRecDepth 100000 in
theorem rX10_birds_169 {p : Program} {l : Launch} {e : Env} {s : State} {m : MethodId} {args : Array Value} {below : List Frame} {meth : Method} {c : Code} {D : va_G} {cA : Nat → ClassId} {ad : Nat → Nat} {Ret : zR} (C : z_Cx p { frames := 3, cells := 0, slots := 0, locals := 68 } s m args c cX10_birds yX10_birds.cls 10 D cA ad) (hr : meth.sig.returnType = (some .int)) (hlocks : meth.locks = false) : ∀ L st σ, tX10_birds_169 (z_X p l e { frames := 3, cells := 0, slots := 0, locals := 68 } s m args below meth c (MQ below (z_Qc D cA ad Ret) args s 0 0 (z_A ad)) 10 D cA ad true) Ret L st σ → z_X p l e { frames := 3, cells := 0, slots := 0, locals := 68 } s m args below meth c (MQ below (z_Qc D cA ad Ret) args s 0 0 (z_A ad)) 10 D cA ad true 169 L st σ := (s_iload C dX10_birds_169 (s_iload C dX10_birds_171 (s_icgt C dX10_birds_173 (by decide) (s_iinc C dX10_birds_298 (by decide) rfl (s_goto C dX10_birds_301 (by decide) (fun _ _ _ h => h))) (s_aload_n C dX10_birds_176 rfl (s_getr C dX10_birds_177 (j := 22) cls_X10 (by decide) rfl (by decide) (by decide) (by decide +kernel) wd_990 (s_iload C dX10_birds_180 (s_iald C dX10_birds_182 (s_i2l C dX10_birds_183 (s_aload_n C dX10_birds_184 rfl (s_getr C dX10_birds_185 (j := 4) cls_X10 (by decide) rfl (by decide) (by decide) (by decide +kernel) wd_972 (s_bipush C dX10_birds_188 rfl ⟨by decide, by decide⟩ (s_iload_n C dX10_birds_190 rfl (s_imul C dX10_birds_191 (s_iload_n C dX10_birds_192 rfl (s_iadd C dX10_birds_193 (s_iload C dX10_birds_194 (s_iadd C dX10_birds_196 (s_iconst C dX10_birds_197 rfl ⟨by decide, by decide⟩ (s_isub C dX10_birds_198 (s_iald C dX10_birds_199 (s_i2l C dX10_birds_200 (s_iload C dX10_birds_201 (s_cs3 C dX10_birds_203 (okX10_isNearLong l) wd_1323 wd_1324 wd_85 wd_1325 ⟨by decide, by decide, by decide +kernel⟩ ⟨by decide, by decide⟩ (s_istore C dX10_birds_206 (by decide) rfl (s_aload_n C dX10_birds_208 rfl (s_getr C dX10_birds_209 (j := 26) cls_X10 (by decide) rfl (by decide) (by decide) (by decide +kernel) wd_994 (s_iload C dX10_birds_212 (s_iald C dX10_birds_214 (s_aload_n C dX10_birds_215 rfl (s_getr C dX10_birds_216 (j := 25) cls_X10 (by decide) rfl (by decide) (by decide) (by decide +kernel) wd_993 (s_iload C dX10_birds_219 (s_iconst C dX10_birds_221 rfl ⟨by decide, by decide⟩ (s_isub C dX10_birds_222 (s_iald C dX10_birds_223 (s_icle C dX10_birds_224 (by decide) (s_aload_n C dX10_birds_237 rfl (s_getr C dX10_birds_238 (j := 25) cls_X10 (by decide) rfl (by decide) (by decide) (by decide +kernel) wd_993 (s_iload C dX10_birds_241 (s_iconst C dX10_birds_243 rfl ⟨by decide, by decide⟩ (s_isub C dX10_birds_244 (s_iald C dX10_birds_245 (s_istore C dX10_birds_246 (by decide) rfl (s_aload_n C dX10_birds_248 rfl (s_getr C dX10_birds_249 (j := 25) cls_X10 (by decide) rfl (by decide) (by decide) (by decide +kernel) wd_993 (s_iload C dX10_birds_252 (s_iload C dX10_birds_254 (s_ifeq C dX10_birds_256 (by decide) (s_iload C dX10_birds_289 (s_iast C dX10_birds_291 (s_iinc C dX10_birds_292 (by decide) rfl (s_goto C dX10_birds_295 (by decide) (fun _ _ _ h => h))))) (s_aload_n C dX10_birds_259 rfl (s_getr C dX10_birds_260 (j := 26) cls_X10 (by decide) rfl (by decide) (by decide) (by decide +kernel) wd_994 (s_iload C dX10_birds_263 (s_iconst C dX10_birds_265 rfl ⟨by decide, by decide⟩ (s_isub C dX10_birds_266 (s_iald C dX10_birds_267 (s_iconst C dX10_birds_268 rfl ⟨by decide, by decide⟩ (s_iadd C dX10_birds_269 (s_iload C dX10_birds_270 (s_icle C dX10_birds_272 (by decide) (s_iload C dX10_birds_289 (s_iast C dX10_birds_291 (s_iinc C dX10_birds_292 (by decide) rfl (s_goto C dX10_birds_295 (by decide) (fun _ _ _ h => h))))) (s_aload_n C dX10_birds_275 rfl (s_getr C dX10_birds_276 (j := 26) cls_X10 (by decide) rfl (by decide) (by decide) (by decide +kernel) wd_994 (s_iload C dX10_birds_279 (s_iconst C dX10_birds_281 rfl ⟨by decide, by decide⟩ (s_isub C dX10_birds_282 (s_iald C dX10_birds_283 (s_iconst C dX10_birds_284 rfl ⟨by decide, by decide⟩ (s_iadd C dX10_birds_285 (s_goto C dX10_birds_286 (by decide) (s_iast C dX10_birds_291 (s_iinc C dX10_birds_292 (by decide) rfl (s_goto C dX10_birds_295 (by decide) (fun _ _ _ h => h))))))))))))))))))))))))))))))))))) (s_aload_n C dX10_birds_227 rfl (s_getr C dX10_birds_228 (j := 26) cls_X10 (by decide) rfl (by decide) (by decide) (by decide +kernel) wd_994 (s_iload C dX10_birds_231 (s_iald C dX10_birds_233 (s_goto C dX10_birds_234 (by decide) (s_istore C dX10_birds_246 (by decide) rfl (s_aload_n C dX10_birds_248 rfl (s_getr C dX10_birds_249 (j := 25) cls_X10 (by decide) rfl (by decide) (by decide) (by decide +kernel) wd_993 (s_iload C dX10_birds_252 (s_iload C dX10_birds_254 (s_ifeq C dX10_birds_256 (by decide) (s_iload C dX10_birds_289 (s_iast C dX10_birds_291 (s_iinc C dX10_birds_292 (by decide) rfl (s_goto C dX10_birds_295 (by decide) (fun _ _ _ h => h))))) (s_aload_n C dX10_birds_259 rfl (s_getr C dX10_birds_260 (j := 26) cls_X10 (by decide) rfl (by decide) (by decide) (by decide +kernel) wd_994 (s_iload C dX10_birds_263 (s_iconst C dX10_birds_265 rfl ⟨by decide, by decide⟩ (s_isub C dX10_birds_266 (s_iald C dX10_birds_267 (s_iconst C dX10_birds_268 rfl ⟨by decide, by decide⟩ (s_iadd C dX10_birds_269 (s_iload C dX10_birds_270 (s_icle C dX10_birds_272 (by decide) (s_iload C dX10_birds_289 (s_iast C dX10_birds_291 (s_iinc C dX10_birds_292 (by decide) rfl (s_goto C dX10_birds_295 (by decide) (fun _ _ _ h => h))))) (s_aload_n C dX10_birds_275 rfl (s_getr C dX10_birds_276 (j := 26) cls_X10 (by decide) rfl (by decide) (by decide) (by decide +kernel) wd_994 (s_iload C dX10_birds_279 (s_iconst C dX10_birds_281 rfl ⟨by decide, by decide⟩ (s_isub C dX10_birds_282 (s_iald C dX10_birds_283 (s_iconst C dX10_birds_284 rfl ⟨by decide, by decide⟩ (s_iadd C dX10_birds_285 (s_goto C dX10_birds_286 (by decide) (s_iast C dX10_birds_291 (s_iinc C dX10_birds_292 (by decide) rfl (s_goto C dX10_birds_295 (by decide) (fun _ _ _ h => h)))))))))))))))))))))))))))))))))))))))))))))))))))))))))))))))))))))
theorem okX10_birds (l : Launch) : z_OK l yX10_birds cX10_birds 10 (some .int) 3 68 SX10_birds := by
  refine z_ok_of true (by decide +kernel) ?_ ?_
  · intro as σ Ret h
    obtain ⟨k0, x1, x2, x3, x4, x5, rfl⟩ := pX10_birds h
    exact ⟨Nat.le_of_ble_eq_true rfl, by simp⟩
  · intro p e s m args below meth c D cA ad Ret C hr hlocks as σ has hσ h
    obtain ⟨k0, x1, x2, x3, x4, x5, rfl⟩ := pX10_birds h
    exact vX10_birds (rX10_birds_0 C hr hlocks) (rX10_birds_103 C hr hlocks) (rX10_birds_127 C hr hlocks) (rX10_birds_139 C hr hlocks) (rX10_birds_169 C hr hlocks) k0 x1 x2 x3 x4 x5 σ (has _ (List.mem_of_getElem? (i := 0) rfl)) (has _ (List.mem_of_getElem? (i := 1) rfl)) (has _ (List.mem_of_getElem? (i := 2) rfl)) (has _ (List.mem_of_getElem? (i := 3) rfl)) (has _ (List.mem_of_getElem? (i := 4) rfl)) (has _ (List.mem_of_getElem? (i := 5) rfl)) hσ h
