/-! a whole wood off the model's tape -/
def SX10_readTune : zS := fun as σ Ret => match as with
  | [.inr (.inr (10, 0, _))] => ∃ b T p D, (q_ms σ b T p 0 ∧ D 2 = 0 ∧ ∀ j, j < 106 → σ 94 j = D j) ∧ ∀ (σ' : zM), q_fy σ σ' → q_ms σ' b T (q_tz b T p D).1 (q_tz b T p D).2 → ((q_tz b T p D).2 = 0 → ∀ j, j < 106 → σ' 94 j = (q_tu b T p D).2.2 j) → Ret none σ'
  | _ => False
def tX10_readTune_0 (X : Nat → zB) (Ret : zR) (L : zL) (st : List zV) (σ : zM) : Prop := (z_aload 0 (z_push 1 (z_cv1 10 SX10_must (z_aload 0 (z_cv0 10 SX10_readTone (X 9)))))) L st σ
def tX10_readTune_9 (X : Nat → zB) (Ret : zR) (L : zL) (st : List zV) (σ : zM) : Prop := (z_aload 0 (z_geti 10 19 (z_ifne (z_aload 0 (z_cv0 10 SX10_mustEnd (z_vret Ret))) (z_aload 0 (z_geti 10 16 (z_push 3 (z_icne (z_aload 0 (z_cv0 10 SX10_mustEnd (z_vret Ret))) (z_aload 0 (z_cv0 10 SX10_readTone (z_goto (X 9))))))))))) L st σ
theorem pX10_readTune {as : List zV} {σ : zM} {Ret : zR} (h : SX10_readTune as σ Ret) : ∃ (k0 : Nat), as = [.inr (.inr (10, 0, k0))] := by
  unfold SX10_readTune at h
  split at h
  · exact ⟨_, rfl⟩
  · exact h.elim
set_option maxRecDepth 10000 in
set_option maxHeartbeats 4000000 in
theorem vX10_readTune {X : Nat → zB} {Ret : zR} (h0 : ∀ L st σ, tX10_readTune_0 X Ret L st σ → X 0 L st σ) (h9 : ∀ L st σ, tX10_readTune_9 X Ret L st σ → X 9 L st σ) (k0 : Nat) (σ : zM) (hk0 : z_kd k0 = (10, 0)) (hσ : z_okm σ) (h : SX10_readTune [.inr (.inr (10, 0, k0))] σ Ret) : X 0 [some (.inr (.inr (10, 0, k0)))] [] σ := by
  obtain ⟨b, T, p, D, ⟨ms, d2, hD⟩, h⟩ := h
  obtain rfl := z_kd10 hk0
  have out : ∀ (p1 : Nat) (f1 : Int) (D1 : Nat → Int) (σ1 : zM), ¬ (f1 = 0 ∧ q_tk b T p1 = 2) → q_fy σ σ1 → q_ms σ1 b T p1 f1 → (f1 = 0 → ∀ j, j < 106 → σ1 94 j = D1 j) → (p1, f1, D1) = q_tu b T p D → X 9 [some (.inr (.inr (10, 0, 89)))] [] σ1 := by
    intro p1 f1 D1 σ1 hc fy ms1 hD1 hq
    have m16 := ms1.2.2.2.2.1.2.1
    have m19 := ms1.2.2.2.2.2.2.1
    have mt := (q_mt_is (q_tk_in (b := b) (T := T) (p := p1))).2.2.1
    have ez : q_tz b T p D = q_ps b T p1 f1 := by unfold q_tz; rw [← hq]
    have fin : ∃ b T p f, q_ms σ1 b T p f ∧ ∀ σ' : zM, q_fx σ1 σ' → q_ms σ' b T (q_ps b T p f).1 (q_ps b T p f).2 → Ret none σ' := by
      refine ⟨b, T, p1, f1, ms1, fun σ2 f2 ms2 => h σ2 (fy.tr f2.fy) (by rw [ez]; exact ms2) (fun z j hj => ?_)⟩
      rw [ez] at z
      rw [f2 94 j (by omega), ← hq]
      exact hD1 (q_ps_f z) j hj
    refine h9 _ _ _ ?_
    by_cases c : f1 = 0
    · have k : ¬ q_mt (q_tk b T p1) = 3 := fun q => hc ⟨c, mt.mp q⟩
      simp only [z_push, z_lpush, z_iload, z_lload, z_aload, z_istore, z_istoreP, z_lstore, z_astore, z_iinc, z_iincP, z_iadd, z_isub, z_imul, z_iaddW, z_isubW, z_imulW, z_idiv, z_irem, z_iand, z_ior, z_ixor, z_ishl, z_ishr, z_iushr, z_ineg, z_i2l, z_i2b, z_i2s, z_i2c, z_l2i, z_ladd, z_lsub, z_land, z_lor, z_lshl, z_lshr, z_lcmp, z_dup, z_pop, z_dup2, z_goto, z_tsw, z_cases, z_geti, z_getr, z_puti, z_putz, z_ald, z_iast, z_bast, z_zast, z_alen, z_acopy, z_mmax, z_mmin, z_mabs, z_mabsL, z_iret, z_zret, z_nret, z_lret, z_aret, z_vret, z_cat, z_ldcs, z_strv, z_strc, z_gcs, z_gfm, z_sln, z_sald, z_ifeq, z_ifne, z_iflt, z_ifge, z_ifgt, z_ifle, z_iceq, z_icne, z_iclt, z_icge, z_icgt, z_icle, z_cs0, z_cs1, z_cs2, z_cs3, z_cs4, z_cs5, z_cs6, z_cs7, z_cv0, z_cv1, z_cv2, z_cv3, z_cv4, z_cv5, z_cv6, z_cv7, z_g0, z_s0, z_g1, z_s1, z_g2, z_s2, z_g3, z_s3, z_g4, z_s4, z_g5, z_s5, z_g6, z_s6, z_g7, z_s7, z_g8, z_s8, z_g9, z_s9, z_g10, z_s10, z_g11, z_s11, z_g12, z_s12, z_g13, z_s13, z_b0, z_b1, z_b0n, z_b1n, z_up_far1, z_up_far2, z_up_far3, z_up_far4, z_up_far5, z_up_far6, Classical.not_not, not_true_eq_false, z_in, z_inL, Int.cast_ofNat_Int, Nat.reduceLeDiff, List.length_cons, List.length_nil, Nat.reduceAdd, Nat.zero_add, Nat.le_refl, true_and, and_true, List.length, Nat.reduceLT, true_or, or_true, false_or, or_false, false_and, and_false, not_true_eq_false, not_false_eq_true, forall_const, false_implies, true_implies, Int.reduceEq, Int.reduceLT, Int.reduceLE, Int.reduceAdd, Int.reduceSub, Int.reduceMul, Int.reduceNeg, Int.reduceToNat, Int.toNat_natCast, ↓reduceIte, reduceIte, Nat.reduceEqDiff, Nat.reduceSub, Nat.reduceMul, ne_eq, Int.zero_add, Int.add_zero, Int.sub_zero, Nat.add_zero, Int.ofNat_eq_natCast, tX10_readTune_9, SX10_mustEnd, m16, m19, c]
      refine fun _ => ⟨fun _ => fin, fun q => absurd q k⟩
    · simp only [z_push, z_lpush, z_iload, z_lload, z_aload, z_istore, z_istoreP, z_lstore, z_astore, z_iinc, z_iincP, z_iadd, z_isub, z_imul, z_iaddW, z_isubW, z_imulW, z_idiv, z_irem, z_iand, z_ior, z_ixor, z_ishl, z_ishr, z_iushr, z_ineg, z_i2l, z_i2b, z_i2s, z_i2c, z_l2i, z_ladd, z_lsub, z_land, z_lor, z_lshl, z_lshr, z_lcmp, z_dup, z_pop, z_dup2, z_goto, z_tsw, z_cases, z_geti, z_getr, z_puti, z_putz, z_ald, z_iast, z_bast, z_zast, z_alen, z_acopy, z_mmax, z_mmin, z_mabs, z_mabsL, z_iret, z_zret, z_nret, z_lret, z_aret, z_vret, z_cat, z_ldcs, z_strv, z_strc, z_gcs, z_gfm, z_sln, z_sald, z_ifeq, z_ifne, z_iflt, z_ifge, z_ifgt, z_ifle, z_iceq, z_icne, z_iclt, z_icge, z_icgt, z_icle, z_cs0, z_cs1, z_cs2, z_cs3, z_cs4, z_cs5, z_cs6, z_cs7, z_cv0, z_cv1, z_cv2, z_cv3, z_cv4, z_cv5, z_cv6, z_cv7, z_g0, z_s0, z_g1, z_s1, z_g2, z_s2, z_g3, z_s3, z_g4, z_s4, z_g5, z_s5, z_g6, z_s6, z_g7, z_s7, z_g8, z_s8, z_g9, z_s9, z_g10, z_s10, z_g11, z_s11, z_g12, z_s12, z_g13, z_s13, z_b0, z_b1, z_b0n, z_b1n, z_up_far1, z_up_far2, z_up_far3, z_up_far4, z_up_far5, z_up_far6, Classical.not_not, not_true_eq_false, z_in, z_inL, Int.cast_ofNat_Int, Nat.reduceLeDiff, List.length_cons, List.length_nil, Nat.reduceAdd, Nat.zero_add, Nat.le_refl, true_and, and_true, List.length, Nat.reduceLT, true_or, or_true, false_or, or_false, false_and, and_false, not_true_eq_false, not_false_eq_true, forall_const, false_implies, true_implies, Int.reduceEq, Int.reduceLT, Int.reduceLE, Int.reduceAdd, Int.reduceSub, Int.reduceMul, Int.reduceNeg, Int.reduceToNat, Int.toNat_natCast, ↓reduceIte, reduceIte, Nat.reduceEqDiff, Nat.reduceSub, Nat.reduceMul, ne_eq, Int.zero_add, Int.add_zero, Int.sub_zero, Nat.add_zero, Int.ofNat_eq_natCast, tX10_readTune_9, SX10_mustEnd, m16, m19, c]
      repeat' (first | (with_reducible intro _) | (with_reducible assumption) | (with_reducible refine And.intro ?_ ?_))
      all_goals first | omega | (with_reducible assumption) | (with_reducible refine z_fin fin ?_ rfl; first | rfl | omega | (split <;> omega) | (split <;> split <;> omega)) | skip
      all_goals first | exact fin | contradiction
  have L9 : ∀ (d p1 : Nat) (f1 : Int) (D1 : Nat → Int) (σ1 : zM), D1 2 + (d : Int) = 10 → 0 ≤ D1 2 → q_fy σ σ1 → q_ms σ1 b T p1 f1 → (f1 = 0 → ∀ j, j < 106 → σ1 94 j = D1 j) → q_tl b T d p1 f1 D1 = q_tu b T p D → X 9 [some (.inr (.inr (10, 0, 89)))] [] σ1 := by
    intro d
    induction d with
    | zero =>
      intro p1 f1 D1 σ1 hd h0 fy ms1 hD1 hq
      rw [q_tl] at hq
      by_cases c : f1 = 0 ∧ q_tk b T p1 = 2
      · rw [if_pos c] at hq
        obtain ⟨rfl, k⟩ := c
        have m16 := ms1.2.2.2.2.1.2.1
        have m19 := ms1.2.2.2.2.2.2.1
        have k1 : q_mt (q_tk b T p1) = 3 := (q_mt_is q_tk_in).2.2.1.mpr k
        refine h9 _ _ _ ?_
        simp only [z_push, z_lpush, z_iload, z_lload, z_aload, z_istore, z_istoreP, z_lstore, z_astore, z_iinc, z_iincP, z_iadd, z_isub, z_imul, z_iaddW, z_isubW, z_imulW, z_idiv, z_irem, z_iand, z_ior, z_ixor, z_ishl, z_ishr, z_iushr, z_ineg, z_i2l, z_i2b, z_i2s, z_i2c, z_l2i, z_ladd, z_lsub, z_land, z_lor, z_lshl, z_lshr, z_lcmp, z_dup, z_pop, z_dup2, z_goto, z_tsw, z_cases, z_geti, z_getr, z_puti, z_putz, z_ald, z_iast, z_bast, z_zast, z_alen, z_acopy, z_mmax, z_mmin, z_mabs, z_mabsL, z_iret, z_zret, z_nret, z_lret, z_aret, z_vret, z_cat, z_ldcs, z_strv, z_strc, z_gcs, z_gfm, z_sln, z_sald, z_ifeq, z_ifne, z_iflt, z_ifge, z_ifgt, z_ifle, z_iceq, z_icne, z_iclt, z_icge, z_icgt, z_icle, z_cs0, z_cs1, z_cs2, z_cs3, z_cs4, z_cs5, z_cs6, z_cs7, z_cv0, z_cv1, z_cv2, z_cv3, z_cv4, z_cv5, z_cv6, z_cv7, z_g0, z_s0, z_g1, z_s1, z_g2, z_s2, z_g3, z_s3, z_g4, z_s4, z_g5, z_s5, z_g6, z_s6, z_g7, z_s7, z_g8, z_s8, z_g9, z_s9, z_g10, z_s10, z_g11, z_s11, z_g12, z_s12, z_g13, z_s13, z_b0, z_b1, z_b0n, z_b1n, z_up_far1, z_up_far2, z_up_far3, z_up_far4, z_up_far5, z_up_far6, Classical.not_not, not_true_eq_false, z_in, z_inL, Int.cast_ofNat_Int, Nat.reduceLeDiff, List.length_cons, List.length_nil, Nat.reduceAdd, Nat.zero_add, Nat.le_refl, true_and, and_true, List.length, Nat.reduceLT, true_or, or_true, false_or, or_false, false_and, and_false, not_true_eq_false, not_false_eq_true, forall_const, false_implies, true_implies, Int.reduceEq, Int.reduceLT, Int.reduceLE, Int.reduceAdd, Int.reduceSub, Int.reduceMul, Int.reduceNeg, Int.reduceToNat, Int.toNat_natCast, ↓reduceIte, reduceIte, Nat.reduceEqDiff, Nat.reduceSub, Nat.reduceMul, ne_eq, Int.zero_add, Int.add_zero, Int.sub_zero, Nat.add_zero, Int.ofNat_eq_natCast, tX10_readTune_9, SX10_readTone, m16, m19, k1]
        refine ⟨b, T, p1, D1, ⟨ms1, by omega, fun _ => k, hD1 rfl⟩, fun σ2 p2 f2 fy2 ms2 g1 g2 g3 => ?_⟩
        obtain ⟨rfl, rfl⟩ := g1 (by omega)
        exact out p2 3 D1 σ2 (fun q => by omega) (fy.tr fy2) ms2 (fun q => by omega) hq
      · rw [if_neg c] at hq
        exact out p1 f1 D1 σ1 c fy ms1 hD1 hq
    | succ d ih =>
      intro p1 f1 D1 σ1 hd h0 fy ms1 hD1 hq
      rw [q_tl] at hq
      by_cases c : f1 = 0 ∧ q_tk b T p1 = 2
      · rw [if_pos c] at hq
        obtain ⟨rfl, k⟩ := c
        have m16 := ms1.2.2.2.2.1.2.1
        have m19 := ms1.2.2.2.2.2.2.1
        have k1 : q_mt (q_tk b T p1) = 3 := (q_mt_is q_tk_in).2.2.1.mpr k
        refine h9 _ _ _ ?_
        simp only [z_push, z_lpush, z_iload, z_lload, z_aload, z_istore, z_istoreP, z_lstore, z_astore, z_iinc, z_iincP, z_iadd, z_isub, z_imul, z_iaddW, z_isubW, z_imulW, z_idiv, z_irem, z_iand, z_ior, z_ixor, z_ishl, z_ishr, z_iushr, z_ineg, z_i2l, z_i2b, z_i2s, z_i2c, z_l2i, z_ladd, z_lsub, z_land, z_lor, z_lshl, z_lshr, z_lcmp, z_dup, z_pop, z_dup2, z_goto, z_tsw, z_cases, z_geti, z_getr, z_puti, z_putz, z_ald, z_iast, z_bast, z_zast, z_alen, z_acopy, z_mmax, z_mmin, z_mabs, z_mabsL, z_iret, z_zret, z_nret, z_lret, z_aret, z_vret, z_cat, z_ldcs, z_strv, z_strc, z_gcs, z_gfm, z_sln, z_sald, z_ifeq, z_ifne, z_iflt, z_ifge, z_ifgt, z_ifle, z_iceq, z_icne, z_iclt, z_icge, z_icgt, z_icle, z_cs0, z_cs1, z_cs2, z_cs3, z_cs4, z_cs5, z_cs6, z_cs7, z_cv0, z_cv1, z_cv2, z_cv3, z_cv4, z_cv5, z_cv6, z_cv7, z_g0, z_s0, z_g1, z_s1, z_g2, z_s2, z_g3, z_s3, z_g4, z_s4, z_g5, z_s5, z_g6, z_s6, z_g7, z_s7, z_g8, z_s8, z_g9, z_s9, z_g10, z_s10, z_g11, z_s11, z_g12, z_s12, z_g13, z_s13, z_b0, z_b1, z_b0n, z_b1n, z_up_far1, z_up_far2, z_up_far3, z_up_far4, z_up_far5, z_up_far6, Classical.not_not, not_true_eq_false, z_in, z_inL, Int.cast_ofNat_Int, Nat.reduceLeDiff, List.length_cons, List.length_nil, Nat.reduceAdd, Nat.zero_add, Nat.le_refl, true_and, and_true, List.length, Nat.reduceLT, true_or, or_true, false_or, or_false, false_and, and_false, not_true_eq_false, not_false_eq_true, forall_const, false_implies, true_implies, Int.reduceEq, Int.reduceLT, Int.reduceLE, Int.reduceAdd, Int.reduceSub, Int.reduceMul, Int.reduceNeg, Int.reduceToNat, Int.toNat_natCast, ↓reduceIte, reduceIte, Nat.reduceEqDiff, Nat.reduceSub, Nat.reduceMul, ne_eq, Int.zero_add, Int.add_zero, Int.sub_zero, Nat.add_zero, Int.ofNat_eq_natCast, tX10_readTune_9, SX10_readTone, m16, m19, k1]
        refine ⟨b, T, p1, D1, ⟨ms1, by omega, fun _ => k, hD1 rfl⟩, fun σ2 p2 f2 fy2 ms2 g1 g2 g3 => ?_⟩
        obtain ⟨rfl, rfl⟩ := g2 (by omega)
        have e2 : q_dJ D1 (q_pn b T p1 0 0 999).1 2 = D1 2 + 1 := by unfold q_dJ; rw [q_d1_eq]
        exact ih _ _ _ σ2 (by rw [e2]; omega) (by rw [e2]; omega) (fy.tr fy2) ms2 g3 hq
      · rw [if_neg c] at hq
        exact out p1 f1 D1 σ1 c fy ms1 hD1 hq
  refine h0 _ _ _ ?_
  simp only [z_push, z_lpush, z_iload, z_lload, z_aload, z_istore, z_istoreP, z_lstore, z_astore, z_iinc, z_iincP, z_iadd, z_isub, z_imul, z_iaddW, z_isubW, z_imulW, z_idiv, z_irem, z_iand, z_ior, z_ixor, z_ishl, z_ishr, z_iushr, z_ineg, z_i2l, z_i2b, z_i2s, z_i2c, z_l2i, z_ladd, z_lsub, z_land, z_lor, z_lshl, z_lshr, z_lcmp, z_dup, z_pop, z_dup2, z_goto, z_tsw, z_cases, z_geti, z_getr, z_puti, z_putz, z_ald, z_iast, z_bast, z_zast, z_alen, z_acopy, z_mmax, z_mmin, z_mabs, z_mabsL, z_iret, z_zret, z_nret, z_lret, z_aret, z_vret, z_cat, z_ldcs, z_strv, z_strc, z_gcs, z_gfm, z_sln, z_sald, z_ifeq, z_ifne, z_iflt, z_ifge, z_ifgt, z_ifle, z_iceq, z_icne, z_iclt, z_icge, z_icgt, z_icle, z_cs0, z_cs1, z_cs2, z_cs3, z_cs4, z_cs5, z_cs6, z_cs7, z_cv0, z_cv1, z_cv2, z_cv3, z_cv4, z_cv5, z_cv6, z_cv7, z_g0, z_s0, z_g1, z_s1, z_g2, z_s2, z_g3, z_s3, z_g4, z_s4, z_g5, z_s5, z_g6, z_s6, z_g7, z_s7, z_g8, z_s8, z_g9, z_s9, z_g10, z_s10, z_g11, z_s11, z_g12, z_s12, z_g13, z_s13, z_b0, z_b1, z_b0n, z_b1n, z_up_far1, z_up_far2, z_up_far3, z_up_far4, z_up_far5, z_up_far6, Classical.not_not, not_true_eq_false, z_in, z_inL, Int.cast_ofNat_Int, Nat.reduceLeDiff, List.length_cons, List.length_nil, Nat.reduceAdd, Nat.zero_add, Nat.le_refl, true_and, and_true, List.length, Nat.reduceLT, true_or, or_true, false_or, or_false, false_and, and_false, not_true_eq_false, not_false_eq_true, forall_const, false_implies, true_implies, Int.reduceEq, Int.reduceLT, Int.reduceLE, Int.reduceAdd, Int.reduceSub, Int.reduceMul, Int.reduceNeg, Int.reduceToNat, Int.toNat_natCast, ↓reduceIte, reduceIte, Nat.reduceEqDiff, Nat.reduceSub, Nat.reduceMul, ne_eq, Int.zero_add, Int.add_zero, Int.sub_zero, Nat.add_zero, Int.ofNat_eq_natCast, tX10_readTune_0, SX10_must, SX10_readTone]
  refine ⟨b, T, p, 0, ms, fun σ1 f1 ms1 => ?_⟩
  have ms1 : q_ms σ1 b T (q_te b T p) 0 := ms1
  refine ⟨b, T, q_te b T p, D, ⟨ms1, by omega, fun q => by omega, fun j hj => by rw [f1 94 j (by omega)]; exact hD j hj⟩, fun σ2 p2 f2 fy2 ms2 g1 g2 g3 => ?_⟩
  obtain ⟨rfl, rfl⟩ := g2 (by omega)
  have e2 : q_dJ D (q_pn b T (q_te b T p) 0 0 999).1 2 = D 2 + 1 := by unfold q_dJ; rw [q_d1_eq]
  exact L9 9 _ _ _ σ2 (by rw [e2, d2]; rfl) (by rw [e2]; omega) (f1.fy.tr fy2) ms2 g3 (by unfold q_tu; rw [d2]; rfl)
theorem dX10_readTune_0 : decode cX10_readTune 0 = .ok (.aload_n 0, 1) := by decide +kernel
theorem dX10_readTune_1 : decode cX10_readTune 1 = .ok (.iconst 1, 1) := by decide +kernel
theorem dX10_readTune_2 : decode cX10_readTune 2 = .ok (.invokevirtual 140, 3) := by decide +kernel
theorem dX10_readTune_5 : decode cX10_readTune 5 = .ok (.aload_n 0, 1) := by decide +kernel
theorem dX10_readTune_6 : decode cX10_readTune 6 = .ok (.invokevirtual 173, 3) := by decide +kernel
theorem dX10_readTune_9 : decode cX10_readTune 9 = .ok (.aload_n 0, 1) := by decide +kernel
theorem dX10_readTune_10 : decode cX10_readTune 10 = .ok (.getfield 123, 3) := by decide +kernel
theorem dX10_readTune_13 : decode cX10_readTune 13 = .ok (.ifCond .ne 18, 3) := by decide +kernel
theorem dX10_readTune_16 : decode cX10_readTune 16 = .ok (.aload_n 0, 1) := by decide +kernel
theorem dX10_readTune_17 : decode cX10_readTune 17 = .ok (.getfield 111, 3) := by decide +kernel
theorem dX10_readTune_20 : decode cX10_readTune 20 = .ok (.iconst 3, 1) := by decide +kernel
theorem dX10_readTune_21 : decode cX10_readTune 21 = .ok (.if_icmp .ne 10, 3) := by decide +kernel
theorem dX10_readTune_24 : decode cX10_readTune 24 = .ok (.aload_n 0, 1) := by decide +kernel
theorem dX10_readTune_25 : decode cX10_readTune 25 = .ok (.invokevirtual 173, 3) := by decide +kernel
theorem dX10_readTune_28 : decode cX10_readTune 28 = .ok (.goto (-19), 3) := by decide +kernel
theorem dX10_readTune_31 : decode cX10_readTune 31 = .ok (.aload_n 0, 1) := by decide +kernel
theorem dX10_readTune_32 : decode cX10_readTune 32 = .ok (.invokevirtual 168, 3) := by decide +kernel
theorem dX10_readTune_35 : decode cX10_readTune 35 = .ok (.return_, 1) := by decide +kernel
set_option maxRecDepth 100000 in
theorem rX10_readTune_0 {p : Program} {l : Launch} {e : Env} {s : State} {m : MethodId} {args : Array Value} {below : List Frame} {meth : Method} {c : Code} {D : va_G} {cA : Nat → ClassId} {ad : Nat → Nat} {Ret : zR} (C : z_Cx p { frames := 5, cells := 0, slots := 0, locals := 107 } s m args c cX10_readTune yX10_readTune.cls 1 D cA ad) (hr : meth.sig.returnType = none) (hlocks : meth.locks = false) : ∀ L st σ, tX10_readTune_0 (z_X p l e { frames := 5, cells := 0, slots := 0, locals := 107 } s m args below meth c (MQ below (z_Qc D cA ad Ret) args s 0 0 (z_A ad)) 1 D cA ad true) Ret L st σ → z_X p l e { frames := 5, cells := 0, slots := 0, locals := 107 } s m args below meth c (MQ below (z_Qc D cA ad Ret) args s 0 0 (z_A ad)) 1 D cA ad true 0 L st σ := (s_aload_n C dX10_readTune_0 rfl (s_iconst C dX10_readTune_1 rfl ⟨by decide, by decide⟩ (s_cv1 C dX10_readTune_2 (okX10_must l) cls_X10 wd_1151 wd_1153 wd_43 wd_85 wd_1154 ⟨by decide, by decide, by decide +kernel⟩ ⟨by decide, by decide⟩ (s_aload_n C dX10_readTune_5 rfl (s_cv0 C dX10_readTune_6 (okX10_readTone l) cls_X10 wd_1177 wd_1179 wd_49 wd_85 wd_1180 ⟨by decide, by decide, by decide +kernel⟩ ⟨by decide, by decide⟩ (fun _ _ _ h => h))))))
set_option maxRecDepth 100000 in
theorem rX10_readTune_9 {p : Program} {l : Launch} {e : Env} {s : State} {m : MethodId} {args : Array Value} {below : List Frame} {meth : Method} {c : Code} {D : va_G} {cA : Nat → ClassId} {ad : Nat → Nat} {Ret : zR} (C : z_Cx p { frames := 5, cells := 0, slots := 0, locals := 107 } s m args c cX10_readTune yX10_readTune.cls 1 D cA ad) (hr : meth.sig.returnType = none) (hlocks : meth.locks = false) : ∀ L st σ, tX10_readTune_9 (z_X p l e { frames := 5, cells := 0, slots := 0, locals := 107 } s m args below meth c (MQ below (z_Qc D cA ad Ret) args s 0 0 (z_A ad)) 1 D cA ad true) Ret L st σ → z_X p l e { frames := 5, cells := 0, slots := 0, locals := 107 } s m args below meth c (MQ below (z_Qc D cA ad Ret) args s 0 0 (z_A ad)) 1 D cA ad true 9 L st σ := (s_aload_n C dX10_readTune_9 rfl (s_geti C dX10_readTune_10 cls_X10 (by decide) rfl wd_987 (s_ifne C dX10_readTune_13 (by decide) (s_aload_n C dX10_readTune_31 rfl (s_cv0 C dX10_readTune_32 (okX10_mustEnd l) cls_X10 wd_1163 wd_1165 wd_46 wd_85 wd_1166 ⟨by decide, by decide, by decide +kernel⟩ ⟨by decide, by decide⟩ (s_vret C dX10_readTune_35 hr hlocks))) (s_aload_n C dX10_readTune_16 rfl (s_geti C dX10_readTune_17 cls_X10 (by decide) rfl wd_984 (s_iconst C dX10_readTune_20 rfl ⟨by decide, by decide⟩ (s_icne C dX10_readTune_21 (by decide) (s_aload_n C dX10_readTune_31 rfl (s_cv0 C dX10_readTune_32 (okX10_mustEnd l) cls_X10 wd_1163 wd_1165 wd_46 wd_85 wd_1166 ⟨by decide, by decide, by decide +kernel⟩ ⟨by decide, by decide⟩ (s_vret C dX10_readTune_35 hr hlocks))) (s_aload_n C dX10_readTune_24 rfl (s_cv0 C dX10_readTune_25 (okX10_readTone l) cls_X10 wd_1177 wd_1179 wd_49 wd_85 wd_1180 ⟨by decide, by decide, by decide +kernel⟩ ⟨by decide, by decide⟩ (s_goto C dX10_readTune_28 (by decide) (fun _ _ _ h => h)))))))))))
theorem okX10_readTune (l : Launch) : z_OK l yX10_readTune cX10_readTune 1 none 5 107 SX10_readTune := by
  refine z_ok_of true (by decide +kernel) ?_ ?_
  · intro as σ Ret h
    obtain ⟨k0, rfl⟩ := pX10_readTune h
    exact ⟨Nat.le_of_ble_eq_true rfl, by simp⟩
  · intro p e s m args below meth c D cA ad Ret C hr hlocks as σ has hσ h
    obtain ⟨k0, rfl⟩ := pX10_readTune h
    exact vX10_readTune (rX10_readTune_0 C hr hlocks) (rX10_readTune_9 C hr hlocks) k0 σ (has _ (List.mem_of_getElem? (i := 0) rfl)) hσ h
def SX10_ends : zS := fun as σ Ret => match as with
  | [.inr (.inr (10, 0, _)), .inl g] => ∃ b T p f, q_ms σ b T p f ∧ ((f = 0 ∧ q_tk b T p = 0) → Ret (some (.inl g)) σ) ∧ (∀ (σ' : zM) (f' : Int), ¬ (f = 0 ∧ q_tk b T p = 0) → f' = (if f = 0 then 1 else f) → (∀ c j, ¬ (c = 89 ∧ (j = 13 ∨ j = 19 ∨ j = 20)) → σ' c j = σ c j) → σ' 89 13 = f' → Ret (some (.inl (-1000100 - (q_ts b T p : Int)))) σ')
  | _ => False
def tX10_ends_0 (X : Nat → zB) (Ret : zR) (L : zL) (st : List zV) (σ : zM) : Prop := (z_aload 0 (z_geti 10 19 (z_ifne (X 20) (z_aload 0 (z_geti 10 16 (z_push 1 (z_iceq (X 20) (z_aload 0 (z_push 1 (z_cv1 10 SX10_bad (X 20))))))))))) L st σ
def tX10_ends_20 (X : Nat → zB) (Ret : zR) (L : zL) (st : List zV) (σ : zM) : Prop := (z_aload 0 (z_geti 10 19 (z_ifle (z_iload 1 (z_iret Ret)) (z_aload 0 (z_aload 0 (z_geti 10 19 (z_puti 10 13 (z_push (-1000100) (z_aload 0 (z_geti 10 20 (z_isub (z_iret Ret)))))))))))) L st σ
theorem pX10_ends {as : List zV} {σ : zM} {Ret : zR} (h : SX10_ends as σ Ret) : ∃ (k0 : Nat) (x1 : Int), as = [.inr (.inr (10, 0, k0)), .inl x1] := by
  unfold SX10_ends at h
  split at h
  · exact ⟨_, _, rfl⟩
  · exact h.elim
set_option maxRecDepth 10000 in
set_option maxHeartbeats 4000000 in
theorem vX10_ends {X : Nat → zB} {Ret : zR} (h0 : ∀ L st σ, tX10_ends_0 X Ret L st σ → X 0 L st σ) (h20 : ∀ L st σ, tX10_ends_20 X Ret L st σ → X 20 L st σ) (k0 : Nat) (x1 : Int) (σ : zM) (hk0 : z_kd k0 = (10, 0)) (hx1 : -2147483648 ≤ x1 ∧ x1 ≤ 2147483647) (hσ : z_okm σ) (h : SX10_ends [.inr (.inr (10, 0, k0)), .inl x1] σ Ret) : X 0 [some (.inr (.inr (10, 0, k0))), some (.inl x1)] [] σ := by
  obtain ⟨b, T, p, f, ms, hy, hn⟩ := h
  obtain rfl := z_kd10 hk0
  have m16 := ms.2.2.2.2.1.2.1
  have m19 := ms.2.2.2.2.2.2.1
  have fr := ms.2.2.2.2.2.2.2.1
  have mt := (q_mt_is (q_tk_in (b := b) (T := T) (p := p))).1
  have hs := q_ts_in (b := b) ms.2.2.2.2.2.1
  have T4 := ms.2.1
  have L20 : ∀ (σ1 : zM) (f1 : Int), 1 ≤ f1 → ¬ (f = 0 ∧ q_tk b T p = 0) → f1 = (if f = 0 then 1 else f) → (∀ c j, ¬ (c = 89 ∧ (j = 19 ∨ j = 20)) → σ1 c j = σ c j) → q_ms σ1 b T p f1 → X 20 [some (.inr (.inr (10, 0, 89))), some (.inl x1)] [] σ1 := by
    intro σ1 f1 h1 hc hf g1 ms1
    have n19 := ms1.2.2.2.2.2.2.1
    have n20 := ms1.2.2.2.2.2.2.2.2 (by omega)
    have e20 : ∀ v, z_up σ1 89 13 v 89 20 = (q_ts b T p : Int) := fun v => by rw [z_up_ne (by omega)]; exact n20
    have fin := hn (z_up σ1 89 13 f1) f1 hc hf (fun c j hc => by rw [z_up_ne (by omega)]; exact g1 c j (by omega)) z_up_eq
    refine h20 _ _ _ ?_
    simp only [z_push, z_lpush, z_iload, z_lload, z_aload, z_istore, z_istoreP, z_lstore, z_astore, z_iinc, z_iincP, z_iadd, z_isub, z_imul, z_iaddW, z_isubW, z_imulW, z_idiv, z_irem, z_iand, z_ior, z_ixor, z_ishl, z_ishr, z_iushr, z_ineg, z_i2l, z_i2b, z_i2s, z_i2c, z_l2i, z_ladd, z_lsub, z_land, z_lor, z_lshl, z_lshr, z_lcmp, z_dup, z_pop, z_dup2, z_goto, z_tsw, z_cases, z_geti, z_getr, z_puti, z_putz, z_ald, z_iast, z_bast, z_zast, z_alen, z_acopy, z_mmax, z_mmin, z_mabs, z_mabsL, z_iret, z_zret, z_nret, z_lret, z_aret, z_vret, z_cat, z_ldcs, z_strv, z_strc, z_gcs, z_gfm, z_sln, z_sald, z_ifeq, z_ifne, z_iflt, z_ifge, z_ifgt, z_ifle, z_iceq, z_icne, z_iclt, z_icge, z_icgt, z_icle, z_cs0, z_cs1, z_cs2, z_cs3, z_cs4, z_cs5, z_cs6, z_cs7, z_cv0, z_cv1, z_cv2, z_cv3, z_cv4, z_cv5, z_cv6, z_cv7, z_g0, z_s0, z_g1, z_s1, z_g2, z_s2, z_g3, z_s3, z_g4, z_s4, z_g5, z_s5, z_g6, z_s6, z_g7, z_s7, z_g8, z_s8, z_g9, z_s9, z_g10, z_s10, z_g11, z_s11, z_g12, z_s12, z_g13, z_s13, z_b0, z_b1, z_b0n, z_b1n, z_up_far1, z_up_far2, z_up_far3, z_up_far4, z_up_far5, z_up_far6, Classical.not_not, not_true_eq_false, z_in, z_inL, Int.cast_ofNat_Int, Nat.reduceLeDiff, List.length_cons, List.length_nil, Nat.reduceAdd, Nat.zero_add, Nat.le_refl, true_and, and_true, List.length, Nat.reduceLT, true_or, or_true, false_or, or_false, false_and, and_false, not_true_eq_false, not_false_eq_true, forall_const, false_implies, true_implies, Int.reduceEq, Int.reduceLT, Int.reduceLE, Int.reduceAdd, Int.reduceSub, Int.reduceMul, Int.reduceNeg, Int.reduceToNat, Int.toNat_natCast, ↓reduceIte, reduceIte, Nat.reduceEqDiff, Nat.reduceSub, Nat.reduceMul, ne_eq, Int.zero_add, Int.add_zero, Int.sub_zero, Nat.add_zero, Int.ofNat_eq_natCast, tX10_ends_20, n19, e20]
    repeat' (first | (intro _) | (with_reducible assumption) | (refine And.intro ?_ ?_))
    all_goals first | omega | assumption | (refine z_fin fin ?_ rfl; first | rfl | omega | (split <;> omega) | (split <;> split <;> omega)) | skip
  by_cases c : f = 0
  · subst c
    by_cases k : q_tk b T p = 0
    · have k1 : q_mt (q_tk b T p) = 1 := mt.mpr k
      have fin := hy ⟨rfl, k⟩
      have L20 : X 20 [some (.inr (.inr (10, 0, 89))), some (.inl x1)] [] σ := by
        refine h20 _ _ _ ?_
        simp only [z_push, z_lpush, z_iload, z_lload, z_aload, z_istore, z_istoreP, z_lstore, z_astore, z_iinc, z_iincP, z_iadd, z_isub, z_imul, z_iaddW, z_isubW, z_imulW, z_idiv, z_irem, z_iand, z_ior, z_ixor, z_ishl, z_ishr, z_iushr, z_ineg, z_i2l, z_i2b, z_i2s, z_i2c, z_l2i, z_ladd, z_lsub, z_land, z_lor, z_lshl, z_lshr, z_lcmp, z_dup, z_pop, z_dup2, z_goto, z_tsw, z_cases, z_geti, z_getr, z_puti, z_putz, z_ald, z_iast, z_bast, z_zast, z_alen, z_acopy, z_mmax, z_mmin, z_mabs, z_mabsL, z_iret, z_zret, z_nret, z_lret, z_aret, z_vret, z_cat, z_ldcs, z_strv, z_strc, z_gcs, z_gfm, z_sln, z_sald, z_ifeq, z_ifne, z_iflt, z_ifge, z_ifgt, z_ifle, z_iceq, z_icne, z_iclt, z_icge, z_icgt, z_icle, z_cs0, z_cs1, z_cs2, z_cs3, z_cs4, z_cs5, z_cs6, z_cs7, z_cv0, z_cv1, z_cv2, z_cv3, z_cv4, z_cv5, z_cv6, z_cv7, z_g0, z_s0, z_g1, z_s1, z_g2, z_s2, z_g3, z_s3, z_g4, z_s4, z_g5, z_s5, z_g6, z_s6, z_g7, z_s7, z_g8, z_s8, z_g9, z_s9, z_g10, z_s10, z_g11, z_s11, z_g12, z_s12, z_g13, z_s13, z_b0, z_b1, z_b0n, z_b1n, z_up_far1, z_up_far2, z_up_far3, z_up_far4, z_up_far5, z_up_far6, Classical.not_not, not_true_eq_false, z_in, z_inL, Int.cast_ofNat_Int, Nat.reduceLeDiff, List.length_cons, List.length_nil, Nat.reduceAdd, Nat.zero_add, Nat.le_refl, true_and, and_true, List.length, Nat.reduceLT, true_or, or_true, false_or, or_false, false_and, and_false, not_true_eq_false, not_false_eq_true, forall_const, false_implies, true_implies, Int.reduceEq, Int.reduceLT, Int.reduceLE, Int.reduceAdd, Int.reduceSub, Int.reduceMul, Int.reduceNeg, Int.reduceToNat, Int.toNat_natCast, ↓reduceIte, reduceIte, Nat.reduceEqDiff, Nat.reduceSub, Nat.reduceMul, ne_eq, Int.zero_add, Int.add_zero, Int.sub_zero, Nat.add_zero, Int.ofNat_eq_natCast, tX10_ends_20, m19]
        repeat' (first | (intro _) | (with_reducible assumption) | (refine And.intro ?_ ?_))
        all_goals first | omega | assumption | (refine z_fin fin ?_ rfl; first | rfl | omega | (split <;> omega) | (split <;> split <;> omega)) | skip
      refine h0 _ _ _ ?_
      simp only [z_push, z_lpush, z_iload, z_lload, z_aload, z_istore, z_istoreP, z_lstore, z_astore, z_iinc, z_iincP, z_iadd, z_isub, z_imul, z_iaddW, z_isubW, z_imulW, z_idiv, z_irem, z_iand, z_ior, z_ixor, z_ishl, z_ishr, z_iushr, z_ineg, z_i2l, z_i2b, z_i2s, z_i2c, z_l2i, z_ladd, z_lsub, z_land, z_lor, z_lshl, z_lshr, z_lcmp, z_dup, z_pop, z_dup2, z_goto, z_tsw, z_cases, z_geti, z_getr, z_puti, z_putz, z_ald, z_iast, z_bast, z_zast, z_alen, z_acopy, z_mmax, z_mmin, z_mabs, z_mabsL, z_iret, z_zret, z_nret, z_lret, z_aret, z_vret, z_cat, z_ldcs, z_strv, z_strc, z_gcs, z_gfm, z_sln, z_sald, z_ifeq, z_ifne, z_iflt, z_ifge, z_ifgt, z_ifle, z_iceq, z_icne, z_iclt, z_icge, z_icgt, z_icle, z_cs0, z_cs1, z_cs2, z_cs3, z_cs4, z_cs5, z_cs6, z_cs7, z_cv0, z_cv1, z_cv2, z_cv3, z_cv4, z_cv5, z_cv6, z_cv7, z_g0, z_s0, z_g1, z_s1, z_g2, z_s2, z_g3, z_s3, z_g4, z_s4, z_g5, z_s5, z_g6, z_s6, z_g7, z_s7, z_g8, z_s8, z_g9, z_s9, z_g10, z_s10, z_g11, z_s11, z_g12, z_s12, z_g13, z_s13, z_b0, z_b1, z_b0n, z_b1n, z_up_far1, z_up_far2, z_up_far3, z_up_far4, z_up_far5, z_up_far6, Classical.not_not, not_true_eq_false, z_in, z_inL, Int.cast_ofNat_Int, Nat.reduceLeDiff, List.length_cons, List.length_nil, Nat.reduceAdd, Nat.zero_add, Nat.le_refl, true_and, and_true, List.length, Nat.reduceLT, true_or, or_true, false_or, or_false, false_and, and_false, not_true_eq_false, not_false_eq_true, forall_const, false_implies, true_implies, Int.reduceEq, Int.reduceLT, Int.reduceLE, Int.reduceAdd, Int.reduceSub, Int.reduceMul, Int.reduceNeg, Int.reduceToNat, Int.toNat_natCast, ↓reduceIte, reduceIte, Nat.reduceEqDiff, Nat.reduceSub, Nat.reduceMul, ne_eq, Int.zero_add, Int.add_zero, Int.sub_zero, Nat.add_zero, Int.ofNat_eq_natCast, tX10_ends_0, m16, m19, k1]
      repeat' (first | (intro _) | (with_reducible assumption) | (refine And.intro ?_ ?_))
      all_goals first | omega | assumption | (refine z_fin L20 ?_ rfl; first | rfl | omega | (split <;> omega) | (split <;> split <;> omega)) | skip
    · have k1 : ¬ q_mt (q_tk b T p) = 1 := fun q => k (mt.mp q)
      have mb := ms.bad (τ' := z_up (z_up σ 89 19 1) 89 20 (σ 89 17)) (n := 1) (by omega) (fun c j hc => by rw [z_up_ne (by omega), z_up_ne (by omega)]) (by rw [z_up_ne (by omega), z_up_eq]) z_up_eq
      have nx := L20 (z_up (z_up σ 89 19 1) 89 20 (σ 89 17)) 1 (by omega) (fun q => k q.2) rfl (fun c j hc => by rw [z_up_ne (by omega), z_up_ne (by omega)]) mb
      refine h0 _ _ _ ?_
      simp only [z_push, z_lpush, z_iload, z_lload, z_aload, z_istore, z_istoreP, z_lstore, z_astore, z_iinc, z_iincP, z_iadd, z_isub, z_imul, z_iaddW, z_isubW, z_imulW, z_idiv, z_irem, z_iand, z_ior, z_ixor, z_ishl, z_ishr, z_iushr, z_ineg, z_i2l, z_i2b, z_i2s, z_i2c, z_l2i, z_ladd, z_lsub, z_land, z_lor, z_lshl, z_lshr, z_lcmp, z_dup, z_pop, z_dup2, z_goto, z_tsw, z_cases, z_geti, z_getr, z_puti, z_putz, z_ald, z_iast, z_bast, z_zast, z_alen, z_acopy, z_mmax, z_mmin, z_mabs, z_mabsL, z_iret, z_zret, z_nret, z_lret, z_aret, z_vret, z_cat, z_ldcs, z_strv, z_strc, z_gcs, z_gfm, z_sln, z_sald, z_ifeq, z_ifne, z_iflt, z_ifge, z_ifgt, z_ifle, z_iceq, z_icne, z_iclt, z_icge, z_icgt, z_icle, z_cs0, z_cs1, z_cs2, z_cs3, z_cs4, z_cs5, z_cs6, z_cs7, z_cv0, z_cv1, z_cv2, z_cv3, z_cv4, z_cv5, z_cv6, z_cv7, z_g0, z_s0, z_g1, z_s1, z_g2, z_s2, z_g3, z_s3, z_g4, z_s4, z_g5, z_s5, z_g6, z_s6, z_g7, z_s7, z_g8, z_s8, z_g9, z_s9, z_g10, z_s10, z_g11, z_s11, z_g12, z_s12, z_g13, z_s13, z_b0, z_b1, z_b0n, z_b1n, z_up_far1, z_up_far2, z_up_far3, z_up_far4, z_up_far5, z_up_far6, Classical.not_not, not_true_eq_false, z_in, z_inL, Int.cast_ofNat_Int, Nat.reduceLeDiff, List.length_cons, List.length_nil, Nat.reduceAdd, Nat.zero_add, Nat.le_refl, true_and, and_true, List.length, Nat.reduceLT, true_or, or_true, false_or, or_false, false_and, and_false, not_true_eq_false, not_false_eq_true, forall_const, false_implies, true_implies, Int.reduceEq, Int.reduceLT, Int.reduceLE, Int.reduceAdd, Int.reduceSub, Int.reduceMul, Int.reduceNeg, Int.reduceToNat, Int.toNat_natCast, ↓reduceIte, reduceIte, Nat.reduceEqDiff, Nat.reduceSub, Nat.reduceMul, ne_eq, Int.zero_add, Int.add_zero, Int.sub_zero, Nat.add_zero, Int.ofNat_eq_natCast, tX10_ends_0, SX10_bad, m16, m19]
      repeat' (first | (intro _) | (with_reducible assumption) | (refine And.intro ?_ ?_))
      all_goals first | omega | assumption | (refine z_fin nx ?_ rfl; first | rfl | omega | (split <;> omega) | (split <;> split <;> omega)) | skip
      all_goals contradiction
  · have nx := L20 σ f (by omega) (fun q => c q.1) (by rw [if_neg c]) (fun _ _ _ => rfl) ms
    refine h0 _ _ _ ?_
    simp only [z_push, z_lpush, z_iload, z_lload, z_aload, z_istore, z_istoreP, z_lstore, z_astore, z_iinc, z_iincP, z_iadd, z_isub, z_imul, z_iaddW, z_isubW, z_imulW, z_idiv, z_irem, z_iand, z_ior, z_ixor, z_ishl, z_ishr, z_iushr, z_ineg, z_i2l, z_i2b, z_i2s, z_i2c, z_l2i, z_ladd, z_lsub, z_land, z_lor, z_lshl, z_lshr, z_lcmp, z_dup, z_pop, z_dup2, z_goto, z_tsw, z_cases, z_geti, z_getr, z_puti, z_putz, z_ald, z_iast, z_bast, z_zast, z_alen, z_acopy, z_mmax, z_mmin, z_mabs, z_mabsL, z_iret, z_zret, z_nret, z_lret, z_aret, z_vret, z_cat, z_ldcs, z_strv, z_strc, z_gcs, z_gfm, z_sln, z_sald, z_ifeq, z_ifne, z_iflt, z_ifge, z_ifgt, z_ifle, z_iceq, z_icne, z_iclt, z_icge, z_icgt, z_icle, z_cs0, z_cs1, z_cs2, z_cs3, z_cs4, z_cs5, z_cs6, z_cs7, z_cv0, z_cv1, z_cv2, z_cv3, z_cv4, z_cv5, z_cv6, z_cv7, z_g0, z_s0, z_g1, z_s1, z_g2, z_s2, z_g3, z_s3, z_g4, z_s4, z_g5, z_s5, z_g6, z_s6, z_g7, z_s7, z_g8, z_s8, z_g9, z_s9, z_g10, z_s10, z_g11, z_s11, z_g12, z_s12, z_g13, z_s13, z_b0, z_b1, z_b0n, z_b1n, z_up_far1, z_up_far2, z_up_far3, z_up_far4, z_up_far5, z_up_far6, Classical.not_not, not_true_eq_false, z_in, z_inL, Int.cast_ofNat_Int, Nat.reduceLeDiff, List.length_cons, List.length_nil, Nat.reduceAdd, Nat.zero_add, Nat.le_refl, true_and, and_true, List.length, Nat.reduceLT, true_or, or_true, false_or, or_false, false_and, and_false, not_true_eq_false, not_false_eq_true, forall_const, false_implies, true_implies, Int.reduceEq, Int.reduceLT, Int.reduceLE, Int.reduceAdd, Int.reduceSub, Int.reduceMul, Int.reduceNeg, Int.reduceToNat, Int.toNat_natCast, ↓reduceIte, reduceIte, Nat.reduceEqDiff, Nat.reduceSub, Nat.reduceMul, ne_eq, Int.zero_add, Int.add_zero, Int.sub_zero, Nat.add_zero, Int.ofNat_eq_natCast, tX10_ends_0, m19, c]
    repeat' (first | (intro _) | (with_reducible assumption) | (refine And.intro ?_ ?_))
    all_goals first | omega | assumption | (refine z_fin nx ?_ rfl; first | rfl | omega | (split <;> omega) | (split <;> split <;> omega)) | skip
    all_goals contradiction
theorem dX10_ends_0 : decode cX10_ends 0 = .ok (.aload_n 0, 1) := by decide +kernel
theorem dX10_ends_1 : decode cX10_ends 1 = .ok (.getfield 123, 3) := by decide +kernel
theorem dX10_ends_4 : decode cX10_ends 4 = .ok (.ifCond .ne 16, 3) := by decide +kernel
theorem dX10_ends_7 : decode cX10_ends 7 = .ok (.aload_n 0, 1) := by decide +kernel
theorem dX10_ends_8 : decode cX10_ends 8 = .ok (.getfield 111, 3) := by decide +kernel
theorem dX10_ends_11 : decode cX10_ends 11 = .ok (.iconst 1, 1) := by decide +kernel
theorem dX10_ends_12 : decode cX10_ends 12 = .ok (.if_icmp .eq 8, 3) := by decide +kernel
theorem dX10_ends_15 : decode cX10_ends 15 = .ok (.aload_n 0, 1) := by decide +kernel
theorem dX10_ends_16 : decode cX10_ends 16 = .ok (.iconst 1, 1) := by decide +kernel
theorem dX10_ends_17 : decode cX10_ends 17 = .ok (.invokevirtual 132, 3) := by decide +kernel
theorem dX10_ends_20 : decode cX10_ends 20 = .ok (.aload_n 0, 1) := by decide +kernel
theorem dX10_ends_21 : decode cX10_ends 21 = .ok (.getfield 123, 3) := by decide +kernel
theorem dX10_ends_24 : decode cX10_ends 24 = .ok (.ifCond .le 19, 3) := by decide +kernel
theorem dX10_ends_27 : decode cX10_ends 27 = .ok (.aload_n 0, 1) := by decide +kernel
theorem dX10_ends_28 : decode cX10_ends 28 = .ok (.aload_n 0, 1) := by decide +kernel
theorem dX10_ends_29 : decode cX10_ends 29 = .ok (.getfield 123, 3) := by decide +kernel
theorem dX10_ends_32 : decode cX10_ends 32 = .ok (.putfield 176, 3) := by decide +kernel
theorem dX10_ends_35 : decode cX10_ends 35 = .ok (.ldc 179, 2) := by decide +kernel
theorem dX10_ends_37 : decode cX10_ends 37 = .ok (.aload_n 0, 1) := by decide +kernel
theorem dX10_ends_38 : decode cX10_ends 38 = .ok (.getfield 129, 3) := by decide +kernel
theorem dX10_ends_41 : decode cX10_ends 41 = .ok (.isub, 1) := by decide +kernel
theorem dX10_ends_42 : decode cX10_ends 42 = .ok (.ireturn, 1) := by decide +kernel
theorem dX10_ends_43 : decode cX10_ends 43 = .ok (.iload_n 1, 1) := by decide +kernel
theorem dX10_ends_44 : decode cX10_ends 44 = .ok (.ireturn, 1) := by decide +kernel
set_option maxRecDepth 100000 in
theorem rX10_ends_0 {p : Program} {l : Launch} {e : Env} {s : State} {m : MethodId} {args : Array Value} {below : List Frame} {meth : Method} {c : Code} {D : va_G} {cA : Nat → ClassId} {ad : Nat → Nat} {Ret : zR} (C : z_Cx p { frames := 1, cells := 0, slots := 0, locals := 21 } s m args c cX10_ends yX10_ends.cls 2 D cA ad) (hr : meth.sig.returnType = (some .int)) (hlocks : meth.locks = false) : ∀ L st σ, tX10_ends_0 (z_X p l e { frames := 1, cells := 0, slots := 0, locals := 21 } s m args below meth c (MQ below (z_Qc D cA ad Ret) args s 0 0 (z_A ad)) 2 D cA ad true) Ret L st σ → z_X p l e { frames := 1, cells := 0, slots := 0, locals := 21 } s m args below meth c (MQ below (z_Qc D cA ad Ret) args s 0 0 (z_A ad)) 2 D cA ad true 0 L st σ := (s_aload_n C dX10_ends_0 rfl (s_geti C dX10_ends_1 cls_X10 (by decide) rfl wd_987 (s_ifne C dX10_ends_4 (by decide) (fun _ _ _ h => h) (s_aload_n C dX10_ends_7 rfl (s_geti C dX10_ends_8 cls_X10 (by decide) rfl wd_984 (s_iconst C dX10_ends_11 rfl ⟨by decide, by decide⟩ (s_iceq C dX10_ends_12 (by decide) (fun _ _ _ h => h) (s_aload_n C dX10_ends_15 rfl (s_iconst C dX10_ends_16 rfl ⟨by decide, by decide⟩ (s_cv1 C dX10_ends_17 (okX10_bad l) cls_X10 wd_1139 wd_1141 wd_40 wd_85 wd_1142 ⟨by decide, by decide, by decide +kernel⟩ ⟨by decide, by decide⟩ (fun _ _ _ h => h)))))))))))
set_option maxRecDepth 100000 in
theorem rX10_ends_20 {p : Program} {l : Launch} {e : Env} {s : State} {m : MethodId} {args : Array Value} {below : List Frame} {meth : Method} {c : Code} {D : va_G} {cA : Nat → ClassId} {ad : Nat → Nat} {Ret : zR} (C : z_Cx p { frames := 1, cells := 0, slots := 0, locals := 21 } s m args c cX10_ends yX10_ends.cls 2 D cA ad) (hr : meth.sig.returnType = (some .int)) (hlocks : meth.locks = false) : ∀ L st σ, tX10_ends_20 (z_X p l e { frames := 1, cells := 0, slots := 0, locals := 21 } s m args below meth c (MQ below (z_Qc D cA ad Ret) args s 0 0 (z_A ad)) 2 D cA ad true) Ret L st σ → z_X p l e { frames := 1, cells := 0, slots := 0, locals := 21 } s m args below meth c (MQ below (z_Qc D cA ad Ret) args s 0 0 (z_A ad)) 2 D cA ad true 20 L st σ := (s_aload_n C dX10_ends_20 rfl (s_geti C dX10_ends_21 cls_X10 (by decide) rfl wd_987 (s_ifle C dX10_ends_24 (by decide) (s_iload_n C dX10_ends_43 rfl (s_iret C dX10_ends_44 hr hlocks)) (s_aload_n C dX10_ends_27 rfl (s_aload_n C dX10_ends_28 rfl (s_geti C dX10_ends_29 cls_X10 (by decide) rfl wd_987 (s_puti C dX10_ends_32 cls_X10 (by decide) rfl wd_981 rfl rfl (s_ldc C dX10_ends_35 (v := -1000100) wd_1186 ⟨by decide, by decide⟩ (s_aload_n C dX10_ends_37 rfl (s_geti C dX10_ends_38 cls_X10 (by decide) rfl wd_988 (s_isub C dX10_ends_41 (s_iret C dX10_ends_42 hr hlocks))))))))))))
theorem okX10_ends (l : Launch) : z_OK l yX10_ends cX10_ends 2 (some .int) 1 21 SX10_ends := by
  refine z_ok_of true (by decide +kernel) ?_ ?_
  · intro as σ Ret h
    obtain ⟨k0, x1, rfl⟩ := pX10_ends h
    exact ⟨Nat.le_of_ble_eq_true rfl, by simp⟩
  · intro p e s m args below meth c D cA ad Ret C hr hlocks as σ has hσ h
    obtain ⟨k0, x1, rfl⟩ := pX10_ends h
    exact vX10_ends (rX10_ends_0 C hr hlocks) (rX10_ends_20 C hr hlocks) k0 x1 σ (has _ (List.mem_of_getElem? (i := 0) rfl)) (has _ (List.mem_of_getElem? (i := 1) rfl)) hσ h
def q_fin (b : Nat → Int) (T s p : Nat) (f : Int) (D : Nat → Int) : Nat × Int × (Nat → Int) := if f = 0 ∧ ¬ q_tk b T p = 0 then q_wo b T s p D else (p, f, D)
theorem q_fin_S {b : Nat → Int} {T s p : Nat} {D : Nat → Int} (hp : p ≤ T) (hk : ¬ q_tk b T p = 0) : q_fin b T s p 0 D = q_fin b T (q_pa b T s p D).1 (q_pa b T s p D).2.1 (q_pa b T s p D).2.2.1 (q_pa b T s p D).2.2.2 := by
  unfold q_fin
  rw [if_pos ⟨rfl, hk⟩]
  by_cases c : (q_pa b T s p D).2.2.1 = 0 ∧ ¬ q_tk b T (q_pa b T s p D).2.1 = 0
  · rw [if_pos c]
    exact q_wo_go hp c.1 c.2
  · rw [if_neg c]
    exact q_wo_end c
def SX10_wood : zS := fun as σ Ret => match as with
  | [.inr (.inr (10, 0, _))] => q_S10 q_gWood q_fWood σ Ret
  | _ => False
def tX10_wood_0 (X : Nat → zB) (Ret : zR) (L : zL) (st : List zV) (σ : zM) : Prop := (z_aload 0 (z_push 0 (z_puti 10 0 (z_aload 0 (z_cv0 10 SX10_begin (z_push 0 (z_istore 1 (X 11)))))))) L st σ
def tX10_wood_11 (X : Nat → zB) (Ret : zR) (L : zL) (st : List zV) (σ : zM) : Prop := (z_iload 1 (z_push 106 (z_icge (z_aload 0 (z_cv0 10 SX10_name (z_lpush 1953654117 (z_lcmp (z_ifeq (X 46) (z_aload 0 (z_push 1 (z_cv1 10 SX10_bad (X 46))))))))) (z_aload 0 (z_getr 10 5 100 106 (z_iload 1 (z_push 0 (z_iast (z_iinc 1 1 (z_goto (X 11))))))))))) L st σ
def tX10_wood_46 (X : Nat → zB) (Ret : zR) (L : zL) (st : List zV) (σ : zM) : Prop := (z_aload 0 (z_cv0 10 SX10_name (z_lpush 1953654117 (z_lcmp (z_ifne (X 64) (z_aload 0 (z_cv0 10 SX10_readTree (z_goto (X 46))))))))) L st σ
def tX10_wood_64 (X : Nat → zB) (Ret : zR) (L : zL) (st : List zV) (σ : zM) : Prop := (z_aload 0 (z_cv0 10 SX10_name (z_lpush 2003398244 (z_lcmp (z_ifne (z_aload 0 (z_cv0 10 SX10_name (z_lpush 1953853029 (z_lcmp (z_ifne (X 97) (z_aload 0 (z_cv0 10 SX10_readTune (X 97)))))))) (z_aload 0 (z_cv0 10 SX10_readWind (z_goto (X 64))))))))) L st σ
def tX10_wood_97 (X : Nat → zB) (Ret : zR) (L : zL) (st : List zV) (σ : zM) : Prop := (z_aload 0 (z_aload 0 (z_getr 10 5 100 106 (z_push 0 (z_ald 0 (z_cv1 10 SX10_ends (z_istore 1 (z_iload 1 (z_ifge (z_aload 0 (z_push 1 (z_putz 10 7 (z_push 0 (z_istore 2 (X 121)))))) (z_iload 1 (z_iret Ret))))))))))) L st σ
def tX10_wood_121 (X : Nat → zB) (Ret : zR) (L : zL) (st : List zV) (σ : zM) : Prop := (z_iload 2 (z_push 106 (z_icge (z_iload 1 (z_iret Ret)) (z_aload 0 (z_getr 10 4 100 106 (z_iload 2 (z_aload 0 (z_getr 10 5 100 106 (z_iload 2 (z_ald 0 (z_iast (z_iinc 2 1 (z_goto (X 121)))))))))))))) L st σ
theorem pX10_wood {as : List zV} {σ : zM} {Ret : zR} (h : SX10_wood as σ Ret) : ∃ (k0 : Nat), as = [.inr (.inr (10, 0, k0))] := by
  unfold SX10_wood at h
  split at h
  · exact ⟨_, rfl⟩
  · exact h.elim
set_option maxRecDepth 10000 in
set_option maxHeartbeats 4000000 in
theorem vX10_wood {X : Nat → zB} {Ret : zR} (h0 : ∀ L st σ, tX10_wood_0 X Ret L st σ → X 0 L st σ) (h11 : ∀ L st σ, tX10_wood_11 X Ret L st σ → X 11 L st σ) (h46 : ∀ L st σ, tX10_wood_46 X Ret L st σ → X 46 L st σ) (h64 : ∀ L st σ, tX10_wood_64 X Ret L st σ → X 64 L st σ) (h97 : ∀ L st σ, tX10_wood_97 X Ret L st σ → X 97 L st σ) (h121 : ∀ L st σ, tX10_wood_121 X Ret L st σ → X 121 L st σ) (k0 : Nat) (σ : zM) (hk0 : z_kd k0 = (10, 0)) (hσ : z_okm σ) (h : SX10_wood [.inr (.inr (10, 0, k0))] σ Ret) : X 0 [some (.inr (.inr (10, 0, k0))), none, none] [] σ := by
  obtain ⟨m, h⟩ := h
  obtain rfl := z_kd10 hk0
  have tk : q_tpok σ := m.2.2.2.1
  have lc : ∀ (a b : Int), (if a < b then (-1 : Int) else if a = b then 0 else 1) = 0 ↔ a = b := fun a b => by
    by_cases c : a < b
    · rw [if_pos c]; omega
    · rw [if_neg c]
      by_cases e : a = b
      · rw [if_pos e]; omega
      · rw [if_neg e]; omega
  obtain ⟨T, hT⟩ := z_nat tk.1.1
  have hgo := q_wr_ok (b := q_by (σ 97) T) (T := T)
  have h1 : ∀ σ' : zM, (∀ c, c < 89 → σ' c = σ c) → (∀ c j, q_last c j → σ' c j = q_fWood σ c j) → Ret (some (.inl (q_gWood σ))) σ' := h
  unfold q_gWood q_fWood q_wo2 at h1
  rw [hT, Int.toNat_natCast] at h1
  generalize hb : q_by (σ 97) T = b at h1 hgo
  generalize hr : q_wr b T = r at h1 hgo
  -- the copy behind
  have fail : ∀ (σ1 : zM) (f' : Int) (ts : Nat), ¬ r.2.1 = 0 → r.2.1 = f' → ts = q_ts b T r.1 → (∀ c j, ¬ (c = 89 ∧ (j = 0 ∨ j = 12 ∨ j = 13 ∨ 14 ≤ j ∧ j ≤ 20) ∨ c = 94) → σ1 c j = σ c j) → σ1 89 12 = 0 → σ1 89 13 = f' → Ret (some (.inl (-1000100 - (ts : Int)))) σ1 := by
    intro σ1 f' ts hf hf2 hts f1 e12 e13
    have fin := h1 σ1 (fun c hc => funext fun j => f1 c j (by omega)) (fun a j hc => by
      unfold q_last at hc
      rw [if_neg hf]
      by_cases e : a = 89 ∧ j = 13
      · obtain ⟨rfl, rfl⟩ := e
        rw [z_up_eq, e13, hf2]
      · by_cases e2 : a = 89 ∧ j = 12
        · obtain ⟨rfl, rfl⟩ := e2
          rw [z_up_ne (by omega), z_up_eq, e12]
        · rw [z_up_ne (by omega), z_up_ne (by omega), f1 a j (by omega)])
    rw [if_neg hf, ← hts] at fin
    exact fin
  have L121 : ∀ (d i : Nat) (σ1 : zM), i + d = 106 → r.2.1 = 0 → (∀ c j, ¬ (c = 89 ∧ (j = 0 ∨ j = 7 ∨ j = 12 ∨ 14 ≤ j ∧ j ≤ 20) ∨ c = 93 ∨ c = 94) → σ1 c j = σ c j) → σ1 89 12 = 0 → σ1 89 7 = 1 → (∀ j, j < 106 → σ1 94 j = r.2.2 j) → (∀ j, σ1 93 j = if j < i then r.2.2 j else σ 93 j) → X 121 [some (.inr (.inr (10, 0, 89))), some (.inl (r.2.2 0)), some (.inl (i : Int))] [] σ1 := by
    intro d
    induction d with
    | zero =>
      intro i σ1 hi hf f1 e12 e7 e94 e93
      obtain rfl : i = 106 := by omega
      have fin := h1 σ1 (fun c hc => funext fun j => f1 c j (by omega)) (fun a j hc => by
        unfold q_last at hc
        rw [if_pos hf]
        by_cases e : a = 93
        · subst e
          rw [e93 j]
          by_cases g : j < 106
          · rw [if_pos g, if_pos ⟨rfl, g⟩]
          · rw [if_neg g, if_neg (by omega), if_neg (by omega), if_neg (by omega)]
        · rw [if_neg (by omega)]
          by_cases e2 : a = 89 ∧ j = 7
          · obtain ⟨rfl, rfl⟩ := e2
            rw [if_pos (by omega), e7]
          · rw [if_neg e2]
            by_cases e3 : a = 89 ∧ j = 12
            · obtain ⟨rfl, rfl⟩ := e3
              rw [if_pos (by omega), e12]
            · rw [if_neg e3, f1 a j (by omega)])
      rw [if_pos hf] at fin
      refine h121 _ _ _ ?_
      simp only [z_push, z_lpush, z_iload, z_lload, z_aload, z_istore, z_istoreP, z_lstore, z_astore, z_iinc, z_iincP, z_iadd, z_isub, z_imul, z_iaddW, z_isubW, z_imulW, z_idiv, z_irem, z_iand, z_ior, z_ixor, z_ishl, z_ishr, z_iushr, z_ineg, z_i2l, z_i2b, z_i2s, z_i2c, z_l2i, z_ladd, z_lsub, z_land, z_lor, z_lshl, z_lshr, z_lcmp, z_dup, z_pop, z_dup2, z_goto, z_tsw, z_cases, z_geti, z_getr, z_puti, z_putz, z_ald, z_iast, z_bast, z_zast, z_alen, z_acopy, z_mmax, z_mmin, z_mabs, z_mabsL, z_iret, z_zret, z_nret, z_lret, z_aret, z_vret, z_cat, z_ldcs, z_strv, z_strc, z_gcs, z_gfm, z_sln, z_sald, z_ifeq, z_ifne, z_iflt, z_ifge, z_ifgt, z_ifle, z_iceq, z_icne, z_iclt, z_icge, z_icgt, z_icle, z_cs0, z_cs1, z_cs2, z_cs3, z_cs4, z_cs5, z_cs6, z_cs7, z_cv0, z_cv1, z_cv2, z_cv3, z_cv4, z_cv5, z_cv6, z_cv7, z_g0, z_s0, z_g1, z_s1, z_g2, z_s2, z_g3, z_s3, z_g4, z_s4, z_g5, z_s5, z_g6, z_s6, z_g7, z_s7, z_g8, z_s8, z_g9, z_s9, z_g10, z_s10, z_g11, z_s11, z_g12, z_s12, z_g13, z_s13, z_b0, z_b1, z_b0n, z_b1n, z_up_far1, z_up_far2, z_up_far3, z_up_far4, z_up_far5, z_up_far6, Classical.not_not, not_true_eq_false, z_in, z_inL, Int.cast_ofNat_Int, Nat.reduceLeDiff, List.length_cons, List.length_nil, Nat.reduceAdd, Nat.zero_add, Nat.le_refl, true_and, and_true, List.length, Nat.reduceLT, true_or, or_true, false_or, or_false, false_and, and_false, not_true_eq_false, not_false_eq_true, forall_const, false_implies, true_implies, Int.reduceEq, Int.reduceLT, Int.reduceLE, Int.reduceAdd, Int.reduceSub, Int.reduceMul, Int.reduceNeg, Int.reduceToNat, Int.toNat_natCast, ↓reduceIte, reduceIte, Nat.reduceEqDiff, Nat.reduceSub, Nat.reduceMul, ne_eq, Int.zero_add, Int.add_zero, Int.sub_zero, Nat.add_zero, Int.ofNat_eq_natCast, tX10_wood_121]
      repeat' (first | (intro _) | (with_reducible assumption) | (refine And.intro ?_ ?_))
      all_goals first | omega | assumption | (refine z_fin fin ?_ rfl; first | rfl | omega | (split <;> omega) | (split <;> split <;> omega)) | skip
    | succ d ih =>
      intro i σ1 hi hf f1 e12 e7 e94 e93
      have ei := e94 i (by omega)
      have nx := ih (i + 1) (z_up σ1 93 i (r.2.2 i)) (by omega) hf (fun c j hc => by rw [z_up_ne (by omega)]; exact f1 c j hc) (by rw [z_up_ne (by omega)]; exact e12) (by rw [z_up_ne (by omega)]; exact e7) (fun j hj => by rw [z_up_ne (by omega)]; exact e94 j hj) (fun j => by
        by_cases e : j = i
        · subst e; rw [z_up_eq, if_pos (by omega)]
        · rw [z_up_ne (by omega), e93 j]
          by_cases g : j < i
          · rw [if_pos g, if_pos (by omega)]
          · rw [if_neg g, if_neg (by omega)])
      refine h121 _ _ _ ?_
      simp only [z_push, z_lpush, z_iload, z_lload, z_aload, z_istore, z_istoreP, z_lstore, z_astore, z_iinc, z_iincP, z_iadd, z_isub, z_imul, z_iaddW, z_isubW, z_imulW, z_idiv, z_irem, z_iand, z_ior, z_ixor, z_ishl, z_ishr, z_iushr, z_ineg, z_i2l, z_i2b, z_i2s, z_i2c, z_l2i, z_ladd, z_lsub, z_land, z_lor, z_lshl, z_lshr, z_lcmp, z_dup, z_pop, z_dup2, z_goto, z_tsw, z_cases, z_geti, z_getr, z_puti, z_putz, z_ald, z_iast, z_bast, z_zast, z_alen, z_acopy, z_mmax, z_mmin, z_mabs, z_mabsL, z_iret, z_zret, z_nret, z_lret, z_aret, z_vret, z_cat, z_ldcs, z_strv, z_strc, z_gcs, z_gfm, z_sln, z_sald, z_ifeq, z_ifne, z_iflt, z_ifge, z_ifgt, z_ifle, z_iceq, z_icne, z_iclt, z_icge, z_icgt, z_icle, z_cs0, z_cs1, z_cs2, z_cs3, z_cs4, z_cs5, z_cs6, z_cs7, z_cv0, z_cv1, z_cv2, z_cv3, z_cv4, z_cv5, z_cv6, z_cv7, z_g0, z_s0, z_g1, z_s1, z_g2, z_s2, z_g3, z_s3, z_g4, z_s4, z_g5, z_s5, z_g6, z_s6, z_g7, z_s7, z_g8, z_s8, z_g9, z_s9, z_g10, z_s10, z_g11, z_s11, z_g12, z_s12, z_g13, z_s13, z_b0, z_b1, z_b0n, z_b1n, z_up_far1, z_up_far2, z_up_far3, z_up_far4, z_up_far5, z_up_far6, Classical.not_not, not_true_eq_false, z_in, z_inL, Int.cast_ofNat_Int, Nat.reduceLeDiff, List.length_cons, List.length_nil, Nat.reduceAdd, Nat.zero_add, Nat.le_refl, true_and, and_true, List.length, Nat.reduceLT, true_or, or_true, false_or, or_false, false_and, and_false, not_true_eq_false, not_false_eq_true, forall_const, false_implies, true_implies, Int.reduceEq, Int.reduceLT, Int.reduceLE, Int.reduceAdd, Int.reduceSub, Int.reduceMul, Int.reduceNeg, Int.reduceToNat, Int.toNat_natCast, ↓reduceIte, reduceIte, Nat.reduceEqDiff, Nat.reduceSub, Nat.reduceMul, ne_eq, Int.zero_add, Int.add_zero, Int.sub_zero, Nat.add_zero, Int.ofNat_eq_natCast, tX10_wood_121, ei]
      repeat' (first | (intro _) | (with_reducible assumption) | (refine And.intro ?_ ?_))
      all_goals first | omega | assumption | (refine z_fin nx ?_ rfl; first | rfl | omega | (split <;> omega) | (split <;> split <;> omega)) | skip
  have L97 : ∀ (p : Nat) (f : Int) (D : Nat → Int) (v : Option zV) (σ1 : zM), (∀ c j, ¬ (c = 89 ∧ (j = 0 ∨ j = 12 ∨ 14 ≤ j ∧ j ≤ 20) ∨ c = 94) → σ1 c j = σ c j) → σ1 89 12 = 0 → q_ms σ1 b T p f → (f = 0 → ∀ j, j < 106 → σ1 94 j = D j) → (f = 0 ∧ ¬ q_tk b T p = 0 → r.1 = p ∧ r.2.1 = 1) → (¬ (f = 0 ∧ ¬ q_tk b T p = 0) → r = (p, f, D)) → X 97 [some (.inr (.inr (10, 0, 89))), v, none] [] σ1 := by
    intro p f D v σ1 f1 e12 ms e94 g1 g2
    refine h97 _ _ _ ?_
    simp only [z_push, z_lpush, z_iload, z_lload, z_aload, z_istore, z_istoreP, z_lstore, z_astore, z_iinc, z_iincP, z_iadd, z_isub, z_imul, z_iaddW, z_isubW, z_imulW, z_idiv, z_irem, z_iand, z_ior, z_ixor, z_ishl, z_ishr, z_iushr, z_ineg, z_i2l, z_i2b, z_i2s, z_i2c, z_l2i, z_ladd, z_lsub, z_land, z_lor, z_lshl, z_lshr, z_lcmp, z_dup, z_pop, z_dup2, z_goto, z_tsw, z_cases, z_geti, z_getr, z_puti, z_putz, z_ald, z_iast, z_bast, z_zast, z_alen, z_acopy, z_mmax, z_mmin, z_mabs, z_mabsL, z_iret, z_zret, z_nret, z_lret, z_aret, z_vret, z_cat, z_ldcs, z_strv, z_strc, z_gcs, z_gfm, z_sln, z_sald, z_ifeq, z_ifne, z_iflt, z_ifge, z_ifgt, z_ifle, z_iceq, z_icne, z_iclt, z_icge, z_icgt, z_icle, z_cs0, z_cs1, z_cs2, z_cs3, z_cs4, z_cs5, z_cs6, z_cs7, z_cv0, z_cv1, z_cv2, z_cv3, z_cv4, z_cv5, z_cv6, z_cv7, z_g0, z_s0, z_g1, z_s1, z_g2, z_s2, z_g3, z_s3, z_g4, z_s4, z_g5, z_s5, z_g6, z_s6, z_g7, z_s7, z_g8, z_s8, z_g9, z_s9, z_g10, z_s10, z_g11, z_s11, z_g12, z_s12, z_g13, z_s13, z_b0, z_b1, z_b0n, z_b1n, z_up_far1, z_up_far2, z_up_far3, z_up_far4, z_up_far5, z_up_far6, Classical.not_not, not_true_eq_false, z_in, z_inL, Int.cast_ofNat_Int, Nat.reduceLeDiff, List.length_cons, List.length_nil, Nat.reduceAdd, Nat.zero_add, Nat.le_refl, true_and, and_true, List.length, Nat.reduceLT, true_or, or_true, false_or, or_false, false_and, and_false, not_true_eq_false, not_false_eq_true, forall_const, false_implies, true_implies, Int.reduceEq, Int.reduceLT, Int.reduceLE, Int.reduceAdd, Int.reduceSub, Int.reduceMul, Int.reduceNeg, Int.reduceToNat, Int.toNat_natCast, ↓reduceIte, reduceIte, Nat.reduceEqDiff, Nat.reduceSub, Nat.reduceMul, ne_eq, Int.zero_add, Int.add_zero, Int.sub_zero, Nat.add_zero, Int.ofNat_eq_natCast, tX10_wood_97, SX10_ends]
    refine fun _ => ⟨b, T, p, f, ms, fun c => ?_, fun σ2 f' c hf f2 e13 => ?_⟩
    · have e := g2 (fun q => q.2 c.2)
      have e0 : r.2.2 = D := by rw [e]
      have ef : r.2.1 = 0 := by rw [e]; exact c.1
      have c0 := e94 c.1 0 (by omega)
      have d0 := hgo.1.1.1.1
      rw [e0] at d0
      have nx := L121 106 0 (z_up σ1 89 7 1) (by omega) ef (fun c j hc => by rw [z_up_ne (by omega)]; exact f1 c j (by omega)) (by rw [z_up_ne (by omega)]; exact e12) z_up_eq (fun j hj => by rw [z_up_ne (by omega), e0]; exact e94 c.1 j hj) (fun j => by rw [if_neg (by omega), z_up_ne (by omega)]; exact f1 93 j (by omega))
      rw [e0] at nx
      rw [c0]
      refine ⟨fun _ => nx, fun q => absurd q (by omega)⟩
    · have hts := q_ts_in (b := b) ms.2.2.2.2.2.1
      have fr := ms.2.2.2.2.2.2.2.1
      have rr : r.1 = p ∧ r.2.1 = f' := by
        by_cases c2 : f = 0 ∧ ¬ q_tk b T p = 0
        · rw [if_pos c2.1] at hf
          rw [hf]
          exact g1 c2
        · have e := g2 c2
          have f0 : ¬ f = 0 := fun q => by
            by_cases z : q_tk b T p = 0
            · exact c ⟨q, z⟩
            · exact c2 ⟨q, z⟩
          rw [if_neg f0] at hf
          rw [e, hf]
          exact ⟨rfl, rfl⟩
      have fin := fail σ2 f' (q_ts b T p) (by rw [rr.2, hf]; split <;> omega) rr.2 (by rw [rr.1]) (fun c j hc => by rw [f2 c j (by omega), f1 c j (by omega)]) (by rw [f2 _ _ (by omega)]; exact e12) e13
      refine ⟨fun q => absurd q (by omega), fun _ => fin⟩
  have hb255 : ∀ i, i < T → 0 ≤ b i ∧ b i ≤ 255 := fun i hi => by
    rw [← hb]
    unfold q_by
    rw [if_pos hi]
    exact tk.2 i (by omega)
  have L64 : ∀ (d s p : Nat) (f : Int) (D : Nat → Int) (v : Option zV) (σ1 : zM), (f = 0 → T - p < d) → (s = 1 ∨ s = 2) → (s = 1 → ¬ (f = 0 ∧ q_isw b T p 0 = true)) → (∀ c j, ¬ (c = 89 ∧ (j = 0 ∨ j = 12 ∨ 14 ≤ j ∧ j ≤ 20) ∨ c = 94) → σ1 c j = σ c j) → σ1 89 12 = 0 → q_ms σ1 b T p f → (f = 0 → ∀ j, j < 106 → σ1 94 j = D j) → q_Dz D → D 2 = 0 → (f = 0 → 1 ≤ D 0) → q_fin b T s p f D = r → X 64 [some (.inr (.inr (10, 0, 89))), v, none] [] σ1 := by
    intro d
    induction d with
    | zero =>
      intro s p f D v σ1 hd hs hs1 f1 e12 ms e94 Dz D2 D0 hq
      have f0 : ¬ f = 0 := fun q => absurd (hd q) (by omega)
      have nx := L97 p f D v σ1 f1 e12 ms e94 (fun q => absurd q.1 f0) (fun q => by rw [← hq]; unfold q_fin; rw [if_neg q])
      refine h64 _ _ _ ?_
      simp only [z_push, z_lpush, z_iload, z_lload, z_aload, z_istore, z_istoreP, z_lstore, z_astore, z_iinc, z_iincP, z_iadd, z_isub, z_imul, z_iaddW, z_isubW, z_imulW, z_idiv, z_irem, z_iand, z_ior, z_ixor, z_ishl, z_ishr, z_iushr, z_ineg, z_i2l, z_i2b, z_i2s, z_i2c, z_l2i, z_ladd, z_lsub, z_land, z_lor, z_lshl, z_lshr, z_lcmp, z_dup, z_pop, z_dup2, z_goto, z_tsw, z_cases, z_geti, z_getr, z_puti, z_putz, z_ald, z_iast, z_bast, z_zast, z_alen, z_acopy, z_mmax, z_mmin, z_mabs, z_mabsL, z_iret, z_zret, z_nret, z_lret, z_aret, z_vret, z_cat, z_ldcs, z_strv, z_strc, z_gcs, z_gfm, z_sln, z_sald, z_ifeq, z_ifne, z_iflt, z_ifge, z_ifgt, z_ifle, z_iceq, z_icne, z_iclt, z_icge, z_icgt, z_icle, z_cs0, z_cs1, z_cs2, z_cs3, z_cs4, z_cs5, z_cs6, z_cs7, z_cv0, z_cv1, z_cv2, z_cv3, z_cv4, z_cv5, z_cv6, z_cv7, z_g0, z_s0, z_g1, z_s1, z_g2, z_s2, z_g3, z_s3, z_g4, z_s4, z_g5, z_s5, z_g6, z_s6, z_g7, z_s7, z_g8, z_s8, z_g9, z_s9, z_g10, z_s10, z_g11, z_s11, z_g12, z_s12, z_g13, z_s13, z_b0, z_b1, z_b0n, z_b1n, z_up_far1, z_up_far2, z_up_far3, z_up_far4, z_up_far5, z_up_far6, Classical.not_not, not_true_eq_false, z_in, z_inL, Int.cast_ofNat_Int, Nat.reduceLeDiff, List.length_cons, List.length_nil, Nat.reduceAdd, Nat.zero_add, Nat.le_refl, true_and, and_true, List.length, Nat.reduceLT, true_or, or_true, false_or, or_false, false_and, and_false, not_true_eq_false, not_false_eq_true, forall_const, false_implies, true_implies, Int.reduceEq, Int.reduceLT, Int.reduceLE, Int.reduceAdd, Int.reduceSub, Int.reduceMul, Int.reduceNeg, Int.reduceToNat, Int.toNat_natCast, ↓reduceIte, reduceIte, Nat.reduceEqDiff, Nat.reduceSub, Nat.reduceMul, ne_eq, Int.zero_add, Int.add_zero, Int.sub_zero, Nat.add_zero, Int.ofNat_eq_natCast, tX10_wood_64, SX10_name, lc]
      refine ⟨b, T, p, f, ms, ?_⟩
      rw [if_neg f0]
      refine ⟨fun _ => ⟨b, T, p, f, ms, ?_⟩, fun q => absurd q (by omega)⟩
      rw [if_neg f0]
      exact ⟨fun _ => nx, fun q => absurd q (by omega)⟩
    | succ d ih =>
      intro s p f D v σ1 hd hs hs1 f1 e12 ms e94 Dz D2 D0 hq
      have hp := ms.2.2.2.2.2.1
      have w := q_nm_w hb255 hp
      refine h64 _ _ _ ?_
      simp only [z_push, z_lpush, z_iload, z_lload, z_aload, z_istore, z_istoreP, z_lstore, z_astore, z_iinc, z_iincP, z_iadd, z_isub, z_imul, z_iaddW, z_isubW, z_imulW, z_idiv, z_irem, z_iand, z_ior, z_ixor, z_ishl, z_ishr, z_iushr, z_ineg, z_i2l, z_i2b, z_i2s, z_i2c, z_l2i, z_ladd, z_lsub, z_land, z_lor, z_lshl, z_lshr, z_lcmp, z_dup, z_pop, z_dup2, z_goto, z_tsw, z_cases, z_geti, z_getr, z_puti, z_putz, z_ald, z_iast, z_bast, z_zast, z_alen, z_acopy, z_mmax, z_mmin, z_mabs, z_mabsL, z_iret, z_zret, z_nret, z_lret, z_aret, z_vret, z_cat, z_ldcs, z_strv, z_strc, z_gcs, z_gfm, z_sln, z_sald, z_ifeq, z_ifne, z_iflt, z_ifge, z_ifgt, z_ifle, z_iceq, z_icne, z_iclt, z_icge, z_icgt, z_icle, z_cs0, z_cs1, z_cs2, z_cs3, z_cs4, z_cs5, z_cs6, z_cs7, z_cv0, z_cv1, z_cv2, z_cv3, z_cv4, z_cv5, z_cv6, z_cv7, z_g0, z_s0, z_g1, z_s1, z_g2, z_s2, z_g3, z_s3, z_g4, z_s4, z_g5, z_s5, z_g6, z_s6, z_g7, z_s7, z_g8, z_s8, z_g9, z_s9, z_g10, z_s10, z_g11, z_s11, z_g12, z_s12, z_g13, z_s13, z_b0, z_b1, z_b0n, z_b1n, z_up_far1, z_up_far2, z_up_far3, z_up_far4, z_up_far5, z_up_far6, Classical.not_not, not_true_eq_false, z_in, z_inL, Int.cast_ofNat_Int, Nat.reduceLeDiff, List.length_cons, List.length_nil, Nat.reduceAdd, Nat.zero_add, Nat.le_refl, true_and, and_true, List.length, Nat.reduceLT, true_or, or_true, false_or, or_false, false_and, and_false, not_true_eq_false, not_false_eq_true, forall_const, false_implies, true_implies, Int.reduceEq, Int.reduceLT, Int.reduceLE, Int.reduceAdd, Int.reduceSub, Int.reduceMul, Int.reduceNeg, Int.reduceToNat, Int.toNat_natCast, ↓reduceIte, reduceIte, Nat.reduceEqDiff, Nat.reduceSub, Nat.reduceMul, ne_eq, Int.zero_add, Int.add_zero, Int.sub_zero, Nat.add_zero, Int.ofNat_eq_natCast, tX10_wood_64, SX10_name, SX10_readWind, SX10_readTune, lc]
      by_cases c1 : f = 0 ∧ q_isw b T p 1 = true
      · obtain ⟨rfl, c1⟩ := c1
        have nk := q_isw_tk c1
        rw [q_fin_S hp nk] at hq
        have g := q_pa_in (b := b) (s := s) (D := D) hp
        have ok := q_pa_ok (b := b) (T := T) (s := s) (p := p) Dz (fun _ => D2) (fun _ => D0 rfl)
        have e : q_pa b T s p D = (if 6 ≤ D 1 then (2, p, 3, D) else (2, (q_w4 b T p).1, (q_w4 b T p).2, q_dW D (q_w1 b T p).1 (q_w2 b T p).1 (q_w3 b T p).1)) := by
          unfold q_pa
          rw [if_neg (fun q => by
            rcases hs with e | e
            · exact hs1 e ⟨rfl, q.2⟩
            · omega), if_pos ⟨hs, c1⟩]
        refine ⟨b, T, p, 0, ms, ?_⟩
        rw [if_pos rfl]
        refine ⟨fun q => absurd (w.2.1.mpr c1) q, fun _ => ⟨b, T, p, D, ⟨ms, Dz.1, e94 rfl⟩, fun σ2 p2 f2 fy ms2 ga gb gc => ?_⟩⟩
        have f12 : ∀ c j, ¬ (c = 89 ∧ (j = 0 ∨ j = 12 ∨ 14 ≤ j ∧ j ≤ 20) ∨ c = 94) → σ2 c j = σ c j := fun c j hc => by rw [fy c j (by omega) (by omega), f1 c j hc]
        have e12b : σ2 89 12 = 0 := by rw [fy _ _ (by omega) (by omega)]; exact e12
        by_cases c6 : 6 ≤ D 1
        · rw [if_pos c6] at e
          rw [e] at hq
          obtain ⟨rfl, rfl⟩ := ga c6
          exact ih 2 p2 3 D v σ2 (fun q => by omega) (Or.inr rfl) (fun q => by omega) f12 e12b ms2 (fun q => by omega) Dz D2 (fun q => by omega) hq
        · rw [if_neg c6] at e
          rw [e] at hq g ok
          obtain ⟨rfl, rfl⟩ := gb (by omega)
          have dz := ok.1
          have n2 : q_dW D (q_w1 b T p).1 (q_w2 b T p).1 (q_w3 b T p).1 2 = D 2 ∧ q_dW D (q_w1 b T p).1 (q_w2 b T p).1 (q_w3 b T p).1 0 = D 0 := by
            unfold q_dW
            rw [q_d1_ne (by omega), q_d1_ne (by omega), q_d1_ne (by omega), q_d1_ne (by omega), q_d1_ne (by omega), q_d1_ne (by omega), q_d1_ne (by omega), q_d1_ne (by omega)]
            exact ⟨rfl, rfl⟩
          exact ih 2 _ _ _ v σ2 (fun q => by have g2 : p < (q_w4 b T p).1 := g.2 q; have := hd rfl; have := ms2.2.2.2.2.2.1; omega) (Or.inr rfl) (fun q => by omega) f12 e12b ms2 gc dz (by rw [n2.1]; exact D2) (fun _ => by rw [n2.2]; exact D0 rfl) hq
      · have nw : ¬ (if f = 0 then q_nm b T p else 0) = 2003398244 := by
          intro q
          by_cases f0 : f = 0
          · rw [if_pos f0] at q
            exact c1 ⟨f0, w.2.1.mp q⟩
          · rw [if_neg f0] at q; omega
        refine ⟨b, T, p, f, ms, fun _ => ⟨b, T, p, f, ms, ?_⟩, fun q => absurd q nw⟩
        by_cases c2 : f = 0 ∧ q_isw b T p 2 = true
        · obtain ⟨rfl, c2⟩ := c2
          have nk := q_isw_tk c2
          rw [q_fin_S hp nk] at hq
          have e : q_pa b T s p D = (3, (q_tz b T p D).1, (q_tz b T p D).2, (q_tu b T p D).2.2) := by
            unfold q_pa
            rw [if_neg (fun q => by
              rcases hs with e | e
              · exact hs1 e ⟨rfl, q.2⟩
              · omega), if_neg (fun q => c1 ⟨rfl, q.2⟩), if_pos ⟨hs, c2⟩]
          rw [e] at hq
          dsimp only at hq
          rw [if_pos rfl]
          refine ⟨fun q => absurd (w.2.2.1.mpr c2) q, fun _ => ⟨b, T, p, D, ⟨ms, D2, e94 rfl⟩, fun σ2 fy ms2 gc => ?_⟩⟩
          refine L97 _ _ (q_tu b T p D).2.2 v σ2 (fun c j hc => by rw [fy c j (by omega) (by omega), f1 c j hc]) (by rw [fy _ _ (by omega) (by omega)]; exact e12) ms2 gc (fun q => ?_) (fun q => ?_)
          · have hp2 := ms2.2.2.2.2.2.1
            rw [q.1, q_fin_S hp2 q.2] at hq
            have e3 : q_pa b T 3 (q_tz b T p D).1 (q_tu b T p D).2.2 = (3, (q_tz b T p D).1, 1, (q_tu b T p D).2.2) := by
              unfold q_pa
              rw [if_neg (by omega), if_neg (by omega), if_neg (by omega)]
            rw [e3] at hq
            unfold q_fin at hq
            rw [if_neg (fun q => by have q : (1 : Int) = 0 := q.1; omega)] at hq
            rw [← hq]
            exact ⟨rfl, rfl⟩
          · rw [← hq]
            unfold q_fin
            rw [if_neg q]
        · have nt : ¬ (if f = 0 then q_nm b T p else 0) = 1953853029 := by
            intro q
            by_cases f0 : f = 0
            · rw [if_pos f0] at q
              exact c2 ⟨f0, w.2.2.1.mp q⟩
            · rw [if_neg f0] at q; omega
          refine ⟨fun _ => ?_, fun q => absurd q nt⟩
          refine L97 p f D v σ1 f1 e12 ms e94 (fun q => ?_) (fun q => ?_)
          · obtain ⟨rfl, q⟩ := q
            rw [q_fin_S hp q] at hq
            have e3 : q_pa b T s p D = (3, p, 1, D) := by
              unfold q_pa
              rw [if_neg (fun q => by
                rcases hs with e | e
                · exact hs1 e ⟨rfl, q.2⟩
                · omega), if_neg (fun q => c1 ⟨rfl, q.2⟩), if_neg (fun q => c2 ⟨rfl, q.2⟩)]
            rw [e3] at hq
            unfold q_fin at hq
            rw [if_neg (fun q => by have q : (1 : Int) = 0 := q.1; omega)] at hq
            rw [← hq]
            exact ⟨rfl, rfl⟩
          · rw [← hq]
            unfold q_fin
            rw [if_neg q]
  have L46 : ∀ (d p : Nat) (f : Int) (D : Nat → Int) (v : Option zV) (σ1 : zM), (f = 0 → T - p < d) → (∀ c j, ¬ (c = 89 ∧ (j = 0 ∨ j = 12 ∨ 14 ≤ j ∧ j ≤ 20) ∨ c = 94) → σ1 c j = σ c j) → σ1 89 12 = 0 → q_ms σ1 b T p f → (f = 0 → ∀ j, j < 106 → σ1 94 j = D j) → q_Dz D → D 2 = 0 → (f = 0 ∧ q_isw b T p 0 = true → q_fin b T 1 (q_pa b T 1 p D).2.1 (q_pa b T 1 p D).2.2.1 (q_pa b T 1 p D).2.2.2 = r) → (¬ (f = 0 ∧ q_isw b T p 0 = true) → q_fin b T 1 p f D = r ∧ (f = 0 → 1 ≤ D 0)) → X 46 [some (.inr (.inr (10, 0, 89))), v, none] [] σ1 := by
    intro d
    induction d with
    | zero =>
      intro p f D v σ1 hd f1 e12 ms e94 Dz D2 HA HB
      have f0 : ¬ f = 0 := fun q => absurd (hd q) (by omega)
      have nx := L64 0 1 p f D v σ1 (fun q => absurd q f0) (Or.inl rfl) (fun _ q => f0 q.1) f1 e12 ms e94 Dz D2 (fun q => absurd q f0) (HB (fun q => f0 q.1)).1
      refine h46 _ _ _ ?_
      simp only [z_push, z_lpush, z_iload, z_lload, z_aload, z_istore, z_istoreP, z_lstore, z_astore, z_iinc, z_iincP, z_iadd, z_isub, z_imul, z_iaddW, z_isubW, z_imulW, z_idiv, z_irem, z_iand, z_ior, z_ixor, z_ishl, z_ishr, z_iushr, z_ineg, z_i2l, z_i2b, z_i2s, z_i2c, z_l2i, z_ladd, z_lsub, z_land, z_lor, z_lshl, z_lshr, z_lcmp, z_dup, z_pop, z_dup2, z_goto, z_tsw, z_cases, z_geti, z_getr, z_puti, z_putz, z_ald, z_iast, z_bast, z_zast, z_alen, z_acopy, z_mmax, z_mmin, z_mabs, z_mabsL, z_iret, z_zret, z_nret, z_lret, z_aret, z_vret, z_cat, z_ldcs, z_strv, z_strc, z_gcs, z_gfm, z_sln, z_sald, z_ifeq, z_ifne, z_iflt, z_ifge, z_ifgt, z_ifle, z_iceq, z_icne, z_iclt, z_icge, z_icgt, z_icle, z_cs0, z_cs1, z_cs2, z_cs3, z_cs4, z_cs5, z_cs6, z_cs7, z_cv0, z_cv1, z_cv2, z_cv3, z_cv4, z_cv5, z_cv6, z_cv7, z_g0, z_s0, z_g1, z_s1, z_g2, z_s2, z_g3, z_s3, z_g4, z_s4, z_g5, z_s5, z_g6, z_s6, z_g7, z_s7, z_g8, z_s8, z_g9, z_s9, z_g10, z_s10, z_g11, z_s11, z_g12, z_s12, z_g13, z_s13, z_b0, z_b1, z_b0n, z_b1n, z_up_far1, z_up_far2, z_up_far3, z_up_far4, z_up_far5, z_up_far6, Classical.not_not, not_true_eq_false, z_in, z_inL, Int.cast_ofNat_Int, Nat.reduceLeDiff, List.length_cons, List.length_nil, Nat.reduceAdd, Nat.zero_add, Nat.le_refl, true_and, and_true, List.length, Nat.reduceLT, true_or, or_true, false_or, or_false, false_and, and_false, not_true_eq_false, not_false_eq_true, forall_const, false_implies, true_implies, Int.reduceEq, Int.reduceLT, Int.reduceLE, Int.reduceAdd, Int.reduceSub, Int.reduceMul, Int.reduceNeg, Int.reduceToNat, Int.toNat_natCast, ↓reduceIte, reduceIte, Nat.reduceEqDiff, Nat.reduceSub, Nat.reduceMul, ne_eq, Int.zero_add, Int.add_zero, Int.sub_zero, Nat.add_zero, Int.ofNat_eq_natCast, tX10_wood_46, SX10_name, lc]
      refine ⟨b, T, p, f, ms, ?_⟩
      rw [if_neg f0]
      exact ⟨fun _ => nx, fun q => absurd q (by omega)⟩
    | succ d ih =>
      intro p f D v σ1 hd f1 e12 ms e94 Dz D2 HA HB
      have hp := ms.2.2.2.2.2.1
      have w := q_nm_w hb255 hp
      refine h46 _ _ _ ?_
      simp only [z_push, z_lpush, z_iload, z_lload, z_aload, z_istore, z_istoreP, z_lstore, z_astore, z_iinc, z_iincP, z_iadd, z_isub, z_imul, z_iaddW, z_isubW, z_imulW, z_idiv, z_irem, z_iand, z_ior, z_ixor, z_ishl, z_ishr, z_iushr, z_ineg, z_i2l, z_i2b, z_i2s, z_i2c, z_l2i, z_ladd, z_lsub, z_land, z_lor, z_lshl, z_lshr, z_lcmp, z_dup, z_pop, z_dup2, z_goto, z_tsw, z_cases, z_geti, z_getr, z_puti, z_putz, z_ald, z_iast, z_bast, z_zast, z_alen, z_acopy, z_mmax, z_mmin, z_mabs, z_mabsL, z_iret, z_zret, z_nret, z_lret, z_aret, z_vret, z_cat, z_ldcs, z_strv, z_strc, z_gcs, z_gfm, z_sln, z_sald, z_ifeq, z_ifne, z_iflt, z_ifge, z_ifgt, z_ifle, z_iceq, z_icne, z_iclt, z_icge, z_icgt, z_icle, z_cs0, z_cs1, z_cs2, z_cs3, z_cs4, z_cs5, z_cs6, z_cs7, z_cv0, z_cv1, z_cv2, z_cv3, z_cv4, z_cv5, z_cv6, z_cv7, z_g0, z_s0, z_g1, z_s1, z_g2, z_s2, z_g3, z_s3, z_g4, z_s4, z_g5, z_s5, z_g6, z_s6, z_g7, z_s7, z_g8, z_s8, z_g9, z_s9, z_g10, z_s10, z_g11, z_s11, z_g12, z_s12, z_g13, z_s13, z_b0, z_b1, z_b0n, z_b1n, z_up_far1, z_up_far2, z_up_far3, z_up_far4, z_up_far5, z_up_far6, Classical.not_not, not_true_eq_false, z_in, z_inL, Int.cast_ofNat_Int, Nat.reduceLeDiff, List.length_cons, List.length_nil, Nat.reduceAdd, Nat.zero_add, Nat.le_refl, true_and, and_true, List.length, Nat.reduceLT, true_or, or_true, false_or, or_false, false_and, and_false, not_true_eq_false, not_false_eq_true, forall_const, false_implies, true_implies, Int.reduceEq, Int.reduceLT, Int.reduceLE, Int.reduceAdd, Int.reduceSub, Int.reduceMul, Int.reduceNeg, Int.reduceToNat, Int.toNat_natCast, ↓reduceIte, reduceIte, Nat.reduceEqDiff, Nat.reduceSub, Nat.reduceMul, ne_eq, Int.zero_add, Int.add_zero, Int.sub_zero, Nat.add_zero, Int.ofNat_eq_natCast, tX10_wood_46, SX10_name, SX10_readTree, lc]
      by_cases c0 : f = 0 ∧ q_isw b T p 0 = true
      · have hq := HA c0
        obtain ⟨rfl, c0⟩ := c0
        have g := q_pa_in (b := b) (s := 1) (D := D) hp
        have dn := Dz.1.1.1
        have e : q_pa b T 1 p D = (if 12 ≤ D 0 then (1, p, 3, D) else (1, (q_t5 b T p).1, (q_t5 b T p).2, q_dT D (q_t1 b T p).1 (q_t2 b T p).1 (q_t3 b T p).1 (q_t4 b T p).1)) := by
          unfold q_pa
          rw [if_pos ⟨Nat.le_refl _, c0⟩]
        refine ⟨b, T, p, 0, ms, ?_⟩
        rw [if_pos rfl]
        refine ⟨fun q => absurd (w.1.mpr c0) q, fun _ => ⟨b, T, p, D, ⟨ms, Dz.1, e94 rfl⟩, fun σ2 p2 f2 fy ms2 ga gb gc => ?_⟩⟩
        have f12 : ∀ c j, ¬ (c = 89 ∧ (j = 0 ∨ j = 12 ∨ 14 ≤ j ∧ j ≤ 20) ∨ c = 94) → σ2 c j = σ c j := fun c j hc => by rw [fy c j (by omega) (by omega), f1 c j hc]
        have e12b : σ2 89 12 = 0 := by rw [fy _ _ (by omega) (by omega)]; exact e12
        by_cases c6 : 12 ≤ D 0
        · rw [if_pos c6] at e
          rw [e] at hq
          obtain ⟨rfl, rfl⟩ := ga c6
          exact ih p2 3 D v σ2 (fun q => by omega) f12 e12b ms2 (fun q => by omega) Dz D2 (fun q => by omega) (fun _ => ⟨hq, fun q => by omega⟩)
        · have tt := q_pn_rg (b := b) (T := T) (p := q_te b T p) (f := 0) (lo := 10) (hi := 99) (by omega)
          have b2 := q_pn_rg (b := b) (T := T) (p := (q_t1 b T p).2.1) (f := (q_t1 b T p).2.2) (lo := 1) (hi := 20) (by omega)
          have b3 := q_pn_rg (b := b) (T := T) (p := (q_t2 b T p).2.1) (f := (q_t2 b T p).2.2) (lo := 0) (hi := 7) (by omega)
          have b4 := q_pn_rg (b := b) (T := T) (p := (q_t3 b T p).2.1) (f := (q_t3 b T p).2.2) (lo := 0) (hi := 5) (by omega)
          have dz := q_Dz_T (l := (q_t1 b T p).1) (u := (q_t2 b T p).1) (s := (q_t3 b T p).1) (g := (q_t4 b T p).1) Dz (by omega) ⟨tt.1, Int.le_trans tt.2 (by omega)⟩ b2 b3 b4
          rw [if_neg c6] at e
          rw [e] at hq g
          obtain ⟨rfl, rfl⟩ := gb (by omega)
          refine ih _ _ _ v σ2 (fun q => by have g2 : p < (q_t5 b T p).1 := g.2 q; have := hd rfl; have := ms2.2.2.2.2.2.1; omega) f12 e12b ms2 gc dz.1 (by rw [dz.2.2]; exact D2) (fun q => ?_) (fun q => ⟨hq, fun _ => by rw [dz.2.1]; omega⟩)
          have nk := q_isw_tk q.2
          have hp2 := ms2.2.2.2.2.2.1
          have hq2 := hq
          dsimp only at hq2
          rw [q.1, q_fin_S hp2 nk] at hq2
          have e3 : (q_pa b T 1 (q_t5 b T p).1 (q_dT D (q_t1 b T p).1 (q_t2 b T p).1 (q_t3 b T p).1 (q_t4 b T p).1)).1 = 1 := by
            unfold q_pa
            rw [if_pos ⟨Nat.le_refl _, q.2⟩]
            split <;> rfl
          rw [e3] at hq2
          exact hq2
      · have nw : ¬ (if f = 0 then q_nm b T p else 0) = 1953654117 := by
          intro q
          by_cases f0 : f = 0
          · rw [if_pos f0] at q
            exact c0 ⟨f0, w.1.mp q⟩
          · rw [if_neg f0] at q; omega
        have hb2 := HB c0
        have nx := L64 (d + 1) 1 p f D v σ1 hd (Or.inl rfl) (fun _ => c0) f1 e12 ms e94 Dz D2 hb2.2 hb2.1
        exact ⟨b, T, p, f, ms, fun _ => nx, fun q => absurd q nw⟩
  have L11 : ∀ (d i : Nat) (σ1 : zM), i + d = 106 → (∀ c j, ¬ (c = 89 ∧ (j = 0 ∨ j = 12 ∨ 14 ≤ j ∧ j ≤ 20) ∨ c = 94) → σ1 c j = σ c j) → σ1 89 12 = 0 → q_ms σ1 b T 0 0 → (∀ j, j < i → σ1 94 j = 0) → X 11 [some (.inr (.inr (10, 0, 89))), some (.inl (i : Int)), none] [] σ1 := by
    intro d
    induction d with
    | zero =>
      intro i σ1 hi f1 e12 ms e94
      obtain rfl : i = 106 := by omega
      have hp := ms.2.2.2.2.2.1
      have w := q_nm_w hb255 hp
      have m19 := ms.2.2.2.2.2.2.1
      refine h11 _ _ _ ?_
      simp only [z_push, z_lpush, z_iload, z_lload, z_aload, z_istore, z_istoreP, z_lstore, z_astore, z_iinc, z_iincP, z_iadd, z_isub, z_imul, z_iaddW, z_isubW, z_imulW, z_idiv, z_irem, z_iand, z_ior, z_ixor, z_ishl, z_ishr, z_iushr, z_ineg, z_i2l, z_i2b, z_i2s, z_i2c, z_l2i, z_ladd, z_lsub, z_land, z_lor, z_lshl, z_lshr, z_lcmp, z_dup, z_pop, z_dup2, z_goto, z_tsw, z_cases, z_geti, z_getr, z_puti, z_putz, z_ald, z_iast, z_bast, z_zast, z_alen, z_acopy, z_mmax, z_mmin, z_mabs, z_mabsL, z_iret, z_zret, z_nret, z_lret, z_aret, z_vret, z_cat, z_ldcs, z_strv, z_strc, z_gcs, z_gfm, z_sln, z_sald, z_ifeq, z_ifne, z_iflt, z_ifge, z_ifgt, z_ifle, z_iceq, z_icne, z_iclt, z_icge, z_icgt, z_icle, z_cs0, z_cs1, z_cs2, z_cs3, z_cs4, z_cs5, z_cs6, z_cs7, z_cv0, z_cv1, z_cv2, z_cv3, z_cv4, z_cv5, z_cv6, z_cv7, z_g0, z_s0, z_g1, z_s1, z_g2, z_s2, z_g3, z_s3, z_g4, z_s4, z_g5, z_s5, z_g6, z_s6, z_g7, z_s7, z_g8, z_s8, z_g9, z_s9, z_g10, z_s10, z_g11, z_s11, z_g12, z_s12, z_g13, z_s13, z_b0, z_b1, z_b0n, z_b1n, z_up_far1, z_up_far2, z_up_far3, z_up_far4, z_up_far5, z_up_far6, Classical.not_not, not_true_eq_false, z_in, z_inL, Int.cast_ofNat_Int, Nat.reduceLeDiff, List.length_cons, List.length_nil, Nat.reduceAdd, Nat.zero_add, Nat.le_refl, true_and, and_true, List.length, Nat.reduceLT, true_or, or_true, false_or, or_false, false_and, and_false, not_true_eq_false, not_false_eq_true, forall_const, false_implies, true_implies, Int.reduceEq, Int.reduceLT, Int.reduceLE, Int.reduceAdd, Int.reduceSub, Int.reduceMul, Int.reduceNeg, Int.reduceToNat, Int.toNat_natCast, ↓reduceIte, reduceIte, Nat.reduceEqDiff, Nat.reduceSub, Nat.reduceMul, ne_eq, Int.zero_add, Int.add_zero, Int.sub_zero, Nat.add_zero, Int.ofNat_eq_natCast, tX10_wood_11, SX10_name, SX10_bad, lc, m19]
      refine ⟨b, T, 0, 0, ms, ?_⟩
      rw [if_pos rfl]
      have hr2 : q_wo b T 0 0 q_D0 = r := hr
      refine ⟨fun q => ?_, fun q => ?_⟩
      · have c0 := w.1.mp q
        have nk := q_isw_tk c0
        have es : q_pa b T 0 0 q_D0 = q_pa b T 1 0 q_D0 := by
          unfold q_pa
          rw [if_pos (show 0 ≤ 1 ∧ q_isw b T 0 0 = true from ⟨by omega, c0⟩), if_pos (show 1 ≤ 1 ∧ q_isw b T 0 0 = true from ⟨by omega, c0⟩)]
        have e1 : (q_pa b T 0 0 q_D0).1 = 1 := by
          unfold q_pa
          rw [if_pos (show 0 ≤ 1 ∧ q_isw b T 0 0 = true from ⟨by omega, c0⟩)]
          split <;> rfl
        refine L46 (T + 1) 0 0 q_D0 _ σ1 (fun _ => by omega) f1 e12 ms (fun _ j hj => e94 j hj) q_D0_ok rfl (fun _ => ?_) (fun q => absurd ⟨rfl, c0⟩ q)
        rw [← es, ← hr2]
        unfold q_fin
        by_cases z : (q_pa b T 0 0 q_D0).2.2.1 = 0 ∧ ¬ q_tk b T (q_pa b T 0 0 q_D0).2.1 = 0
        · rw [if_pos z, q_wo_go (Nat.zero_le _) z.1 z.2, e1]
        · rw [if_neg z, q_wo_end z]
      · have c0 : ¬ q_isw b T 0 0 = true := fun z => q (w.1.mpr z)
        have mb := ms.bad (τ' := z_up (z_up σ1 89 19 1) 89 20 (σ1 89 17)) (n := 1) (by omega) (fun c j hc => by rw [z_up_ne (by omega), z_up_ne (by omega)]) (by rw [z_up_ne (by omega), z_up_eq]) z_up_eq
        have e : q_pa b T 0 0 q_D0 = (3, 0, 1, q_D0) := by
          unfold q_pa
          rw [if_neg (fun q => c0 q.2), if_neg (by omega), if_neg (by omega)]
        have rr : r = (0, 1, q_D0) := by
          rw [← hr2, q_wo_end (by rw [e]; intro q; have q : (1 : Int) = 0 := q.1; omega), e]
        refine L46 0 0 1 q_D0 _ _ (fun q => by omega) (fun c j hc => by rw [z_up_ne (by omega), z_up_ne (by omega)]; exact f1 c j hc) (by rw [z_up_ne (by omega), z_up_ne (by omega)]; exact e12) mb (fun q => by omega) q_D0_ok rfl (fun q => by omega) (fun _ => ⟨?_, fun q => by omega⟩)
        unfold q_fin
        rw [if_neg (fun q => by omega), rr]
    | succ d ih =>
      intro i σ1 hi f1 e12 ms e94
      have nx := ih (i + 1) (z_up σ1 94 i 0) (by omega) (fun c j hc => by rw [z_up_ne (by omega)]; exact f1 c j hc) (by rw [z_up_ne (by omega)]; exact e12) (ms.fr (fun c j hc => z_up_ne (by omega))) (fun j hj => by
        by_cases e : j = i
        · subst e; rw [z_up_eq]
        · rw [z_up_ne (by omega)]; exact e94 j (by omega))
      refine h11 _ _ _ ?_
      simp only [z_push, z_lpush, z_iload, z_lload, z_aload, z_istore, z_istoreP, z_lstore, z_astore, z_iinc, z_iincP, z_iadd, z_isub, z_imul, z_iaddW, z_isubW, z_imulW, z_idiv, z_irem, z_iand, z_ior, z_ixor, z_ishl, z_ishr, z_iushr, z_ineg, z_i2l, z_i2b, z_i2s, z_i2c, z_l2i, z_ladd, z_lsub, z_land, z_lor, z_lshl, z_lshr, z_lcmp, z_dup, z_pop, z_dup2, z_goto, z_tsw, z_cases, z_geti, z_getr, z_puti, z_putz, z_ald, z_iast, z_bast, z_zast, z_alen, z_acopy, z_mmax, z_mmin, z_mabs, z_mabsL, z_iret, z_zret, z_nret, z_lret, z_aret, z_vret, z_cat, z_ldcs, z_strv, z_strc, z_gcs, z_gfm, z_sln, z_sald, z_ifeq, z_ifne, z_iflt, z_ifge, z_ifgt, z_ifle, z_iceq, z_icne, z_iclt, z_icge, z_icgt, z_icle, z_cs0, z_cs1, z_cs2, z_cs3, z_cs4, z_cs5, z_cs6, z_cs7, z_cv0, z_cv1, z_cv2, z_cv3, z_cv4, z_cv5, z_cv6, z_cv7, z_g0, z_s0, z_g1, z_s1, z_g2, z_s2, z_g3, z_s3, z_g4, z_s4, z_g5, z_s5, z_g6, z_s6, z_g7, z_s7, z_g8, z_s8, z_g9, z_s9, z_g10, z_s10, z_g11, z_s11, z_g12, z_s12, z_g13, z_s13, z_b0, z_b1, z_b0n, z_b1n, z_up_far1, z_up_far2, z_up_far3, z_up_far4, z_up_far5, z_up_far6, Classical.not_not, not_true_eq_false, z_in, z_inL, Int.cast_ofNat_Int, Nat.reduceLeDiff, List.length_cons, List.length_nil, Nat.reduceAdd, Nat.zero_add, Nat.le_refl, true_and, and_true, List.length, Nat.reduceLT, true_or, or_true, false_or, or_false, false_and, and_false, not_true_eq_false, not_false_eq_true, forall_const, false_implies, true_implies, Int.reduceEq, Int.reduceLT, Int.reduceLE, Int.reduceAdd, Int.reduceSub, Int.reduceMul, Int.reduceNeg, Int.reduceToNat, Int.toNat_natCast, ↓reduceIte, reduceIte, Nat.reduceEqDiff, Nat.reduceSub, Nat.reduceMul, ne_eq, Int.zero_add, Int.add_zero, Int.sub_zero, Nat.add_zero, Int.ofNat_eq_natCast, tX10_wood_11]
      repeat' (first | (intro _) | (with_reducible assumption) | (refine And.intro ?_ ?_))
      all_goals first | omega | assumption | (refine z_fin nx ?_ rfl; first | rfl | omega | (split <;> omega) | (split <;> split <;> omega)) | skip
  have a12 : z_up σ 89 0 0 89 12 = (T : Int) := by rw [z_up_ne (by omega)]; exact hT
  have a97 : z_up σ 89 0 0 97 = σ 97 := funext fun j => z_up_ne (by omega)
  refine h0 _ _ _ ?_
  simp only [z_push, z_lpush, z_iload, z_lload, z_aload, z_istore, z_istoreP, z_lstore, z_astore, z_iinc, z_iincP, z_iadd, z_isub, z_imul, z_iaddW, z_isubW, z_imulW, z_idiv, z_irem, z_iand, z_ior, z_ixor, z_ishl, z_ishr, z_iushr, z_ineg, z_i2l, z_i2b, z_i2s, z_i2c, z_l2i, z_ladd, z_lsub, z_land, z_lor, z_lshl, z_lshr, z_lcmp, z_dup, z_pop, z_dup2, z_goto, z_tsw, z_cases, z_geti, z_getr, z_puti, z_putz, z_ald, z_iast, z_bast, z_zast, z_alen, z_acopy, z_mmax, z_mmin, z_mabs, z_mabsL, z_iret, z_zret, z_nret, z_lret, z_aret, z_vret, z_cat, z_ldcs, z_strv, z_strc, z_gcs, z_gfm, z_sln, z_sald, z_ifeq, z_ifne, z_iflt, z_ifge, z_ifgt, z_ifle, z_iceq, z_icne, z_iclt, z_icge, z_icgt, z_icle, z_cs0, z_cs1, z_cs2, z_cs3, z_cs4, z_cs5, z_cs6, z_cs7, z_cv0, z_cv1, z_cv2, z_cv3, z_cv4, z_cv5, z_cv6, z_cv7, z_g0, z_s0, z_g1, z_s1, z_g2, z_s2, z_g3, z_s3, z_g4, z_s4, z_g5, z_s5, z_g6, z_s6, z_g7, z_s7, z_g8, z_s8, z_g9, z_s9, z_g10, z_s10, z_g11, z_s11, z_g12, z_s12, z_g13, z_s13, z_b0, z_b1, z_b0n, z_b1n, z_up_far1, z_up_far2, z_up_far3, z_up_far4, z_up_far5, z_up_far6, Classical.not_not, not_true_eq_false, z_in, z_inL, Int.cast_ofNat_Int, Nat.reduceLeDiff, List.length_cons, List.length_nil, Nat.reduceAdd, Nat.zero_add, Nat.le_refl, true_and, and_true, List.length, Nat.reduceLT, true_or, or_true, false_or, or_false, false_and, and_false, not_true_eq_false, not_false_eq_true, forall_const, false_implies, true_implies, Int.reduceEq, Int.reduceLT, Int.reduceLE, Int.reduceAdd, Int.reduceSub, Int.reduceMul, Int.reduceNeg, Int.reduceToNat, Int.toNat_natCast, ↓reduceIte, reduceIte, Nat.reduceEqDiff, Nat.reduceSub, Nat.reduceMul, ne_eq, Int.zero_add, Int.add_zero, Int.sub_zero, Nat.add_zero, Int.ofNat_eq_natCast, tX10_wood_0, SX10_begin]
  rw [a12, a97, Int.toNat_natCast, hb]
  refine ⟨?_, fun σ1 f1 e12 ms => ?_⟩
  · unfold q_tpok
    rw [a12, a97]
    have := tk
    unfold q_tpok at this
    rw [hT] at this
    exact this
  · exact L11 106 0 σ1 (by omega) (fun c j hc => by rw [f1 c j (by omega), z_up_ne (by omega)]) e12 ms (fun j hj => absurd hj (by omega))
theorem dX10_wood_0 : decode cX10_wood 0 = .ok (.aload_n 0, 1) := by decide +kernel
theorem dX10_wood_1 : decode cX10_wood 1 = .ok (.iconst 0, 1) := by decide +kernel
theorem dX10_wood_2 : decode cX10_wood 2 = .ok (.putfield 65, 3) := by decide +kernel
theorem dX10_wood_5 : decode cX10_wood 5 = .ok (.aload_n 0, 1) := by decide +kernel
theorem dX10_wood_6 : decode cX10_wood 6 = .ok (.invokevirtual 180, 3) := by decide +kernel
theorem dX10_wood_9 : decode cX10_wood 9 = .ok (.iconst 0, 1) := by decide +kernel
theorem dX10_wood_10 : decode cX10_wood 10 = .ok (.istore_n 1, 1) := by decide +kernel
theorem dX10_wood_11 : decode cX10_wood 11 = .ok (.iload_n 1, 1) := by decide +kernel
theorem dX10_wood_12 : decode cX10_wood 12 = .ok (.bipush 106, 2) := by decide +kernel
theorem dX10_wood_14 : decode cX10_wood 14 = .ok (.if_icmp .ge 16, 3) := by decide +kernel
theorem dX10_wood_17 : decode cX10_wood 17 = .ok (.aload_n 0, 1) := by decide +kernel
theorem dX10_wood_18 : decode cX10_wood 18 = .ok (.getfield 22, 3) := by decide +kernel
theorem dX10_wood_21 : decode cX10_wood 21 = .ok (.iload_n 1, 1) := by decide +kernel
theorem dX10_wood_22 : decode cX10_wood 22 = .ok (.iconst 0, 1) := by decide +kernel
theorem dX10_wood_23 : decode cX10_wood 23 = .ok (.iastore, 1) := by decide +kernel
theorem dX10_wood_24 : decode cX10_wood 24 = .ok (.iinc 1 1, 3) := by decide +kernel
theorem dX10_wood_27 : decode cX10_wood 27 = .ok (.goto (-16), 3) := by decide +kernel
theorem dX10_wood_30 : decode cX10_wood 30 = .ok (.aload_n 0, 1) := by decide +kernel
theorem dX10_wood_31 : decode cX10_wood 31 = .ok (.invokevirtual 183, 3) := by decide +kernel
theorem dX10_wood_34 : decode cX10_wood 34 = .ok (.ldc2_w 187, 3) := by decide +kernel
theorem dX10_wood_37 : decode cX10_wood 37 = .ok (.lcmp, 1) := by decide +kernel
theorem dX10_wood_38 : decode cX10_wood 38 = .ok (.ifCond .eq 8, 3) := by decide +kernel
theorem dX10_wood_41 : decode cX10_wood 41 = .ok (.aload_n 0, 1) := by decide +kernel
theorem dX10_wood_42 : decode cX10_wood 42 = .ok (.iconst 1, 1) := by decide +kernel
theorem dX10_wood_43 : decode cX10_wood 43 = .ok (.invokevirtual 132, 3) := by decide +kernel
theorem dX10_wood_46 : decode cX10_wood 46 = .ok (.aload_n 0, 1) := by decide +kernel
theorem dX10_wood_47 : decode cX10_wood 47 = .ok (.invokevirtual 183, 3) := by decide +kernel
theorem dX10_wood_50 : decode cX10_wood 50 = .ok (.ldc2_w 187, 3) := by decide +kernel
theorem dX10_wood_53 : decode cX10_wood 53 = .ok (.lcmp, 1) := by decide +kernel
theorem dX10_wood_54 : decode cX10_wood 54 = .ok (.ifCond .ne 10, 3) := by decide +kernel
theorem dX10_wood_57 : decode cX10_wood 57 = .ok (.aload_n 0, 1) := by decide +kernel
theorem dX10_wood_58 : decode cX10_wood 58 = .ok (.invokevirtual 189, 3) := by decide +kernel
theorem dX10_wood_61 : decode cX10_wood 61 = .ok (.goto (-15), 3) := by decide +kernel
theorem dX10_wood_64 : decode cX10_wood 64 = .ok (.aload_n 0, 1) := by decide +kernel
theorem dX10_wood_65 : decode cX10_wood 65 = .ok (.invokevirtual 183, 3) := by decide +kernel
theorem dX10_wood_68 : decode cX10_wood 68 = .ok (.ldc2_w 192, 3) := by decide +kernel
theorem dX10_wood_71 : decode cX10_wood 71 = .ok (.lcmp, 1) := by decide +kernel
theorem dX10_wood_72 : decode cX10_wood 72 = .ok (.ifCond .ne 10, 3) := by decide +kernel
theorem dX10_wood_75 : decode cX10_wood 75 = .ok (.aload_n 0, 1) := by decide +kernel
theorem dX10_wood_76 : decode cX10_wood 76 = .ok (.invokevirtual 194, 3) := by decide +kernel
theorem dX10_wood_79 : decode cX10_wood 79 = .ok (.goto (-15), 3) := by decide +kernel
theorem dX10_wood_82 : decode cX10_wood 82 = .ok (.aload_n 0, 1) := by decide +kernel
theorem dX10_wood_83 : decode cX10_wood 83 = .ok (.invokevirtual 183, 3) := by decide +kernel
theorem dX10_wood_86 : decode cX10_wood 86 = .ok (.ldc2_w 197, 3) := by decide +kernel
theorem dX10_wood_89 : decode cX10_wood 89 = .ok (.lcmp, 1) := by decide +kernel
theorem dX10_wood_90 : decode cX10_wood 90 = .ok (.ifCond .ne 7, 3) := by decide +kernel
theorem dX10_wood_93 : decode cX10_wood 93 = .ok (.aload_n 0, 1) := by decide +kernel
theorem dX10_wood_94 : decode cX10_wood 94 = .ok (.invokevirtual 199, 3) := by decide +kernel
theorem dX10_wood_97 : decode cX10_wood 97 = .ok (.aload_n 0, 1) := by decide +kernel
theorem dX10_wood_98 : decode cX10_wood 98 = .ok (.aload_n 0, 1) := by decide +kernel
theorem dX10_wood_99 : decode cX10_wood 99 = .ok (.getfield 22, 3) := by decide +kernel
theorem dX10_wood_102 : decode cX10_wood 102 = .ok (.iconst 0, 1) := by decide +kernel
theorem dX10_wood_103 : decode cX10_wood 103 = .ok (.iaload, 1) := by decide +kernel
theorem dX10_wood_104 : decode cX10_wood 104 = .ok (.invokevirtual 202, 3) := by decide +kernel
theorem dX10_wood_107 : decode cX10_wood 107 = .ok (.istore_n 1, 1) := by decide +kernel
theorem dX10_wood_108 : decode cX10_wood 108 = .ok (.iload_n 1, 1) := by decide +kernel
theorem dX10_wood_109 : decode cX10_wood 109 = .ok (.ifCond .ge 5, 3) := by decide +kernel
theorem dX10_wood_112 : decode cX10_wood 112 = .ok (.iload_n 1, 1) := by decide +kernel
theorem dX10_wood_113 : decode cX10_wood 113 = .ok (.ireturn, 1) := by decide +kernel
theorem dX10_wood_114 : decode cX10_wood 114 = .ok (.aload_n 0, 1) := by decide +kernel
theorem dX10_wood_115 : decode cX10_wood 115 = .ok (.iconst 1, 1) := by decide +kernel
theorem dX10_wood_116 : decode cX10_wood 116 = .ok (.putfield 205, 3) := by decide +kernel
theorem dX10_wood_119 : decode cX10_wood 119 = .ok (.iconst 0, 1) := by decide +kernel
theorem dX10_wood_120 : decode cX10_wood 120 = .ok (.istore_n 2, 1) := by decide +kernel
theorem dX10_wood_121 : decode cX10_wood 121 = .ok (.iload_n 2, 1) := by decide +kernel
theorem dX10_wood_122 : decode cX10_wood 122 = .ok (.bipush 106, 2) := by decide +kernel
theorem dX10_wood_124 : decode cX10_wood 124 = .ok (.if_icmp .ge 21, 3) := by decide +kernel
theorem dX10_wood_127 : decode cX10_wood 127 = .ok (.aload_n 0, 1) := by decide +kernel
theorem dX10_wood_128 : decode cX10_wood 128 = .ok (.getfield 19, 3) := by decide +kernel
theorem dX10_wood_131 : decode cX10_wood 131 = .ok (.iload_n 2, 1) := by decide +kernel
theorem dX10_wood_132 : decode cX10_wood 132 = .ok (.aload_n 0, 1) := by decide +kernel
theorem dX10_wood_133 : decode cX10_wood 133 = .ok (.getfield 22, 3) := by decide +kernel
theorem dX10_wood_136 : decode cX10_wood 136 = .ok (.iload_n 2, 1) := by decide +kernel
theorem dX10_wood_137 : decode cX10_wood 137 = .ok (.iaload, 1) := by decide +kernel
theorem dX10_wood_138 : decode cX10_wood 138 = .ok (.iastore, 1) := by decide +kernel
theorem dX10_wood_139 : decode cX10_wood 139 = .ok (.iinc 2 1, 3) := by decide +kernel
theorem dX10_wood_142 : decode cX10_wood 142 = .ok (.goto (-21), 3) := by decide +kernel
theorem dX10_wood_145 : decode cX10_wood 145 = .ok (.iload_n 1, 1) := by decide +kernel
theorem dX10_wood_146 : decode cX10_wood 146 = .ok (.ireturn, 1) := by decide +kernel
set_option maxRecDepth 100000 in
theorem rX10_wood_0 {p : Program} {l : Launch} {e : Env} {s : State} {m : MethodId} {args : Array Value} {below : List Frame} {meth : Method} {c : Code} {D : va_G} {cA : Nat → ClassId} {ad : Nat → Nat} {Ret : zR} (C : z_Cx p { frames := 6, cells := 0, slots := 0, locals := 127 } s m args c cX10_wood yX10_wood.cls 3 D cA ad) (hr : meth.sig.returnType = (some .int)) (hlocks : meth.locks = false) : ∀ L st σ, tX10_wood_0 (z_X p l e { frames := 6, cells := 0, slots := 0, locals := 127 } s m args below meth c (MQ below (z_Qc D cA ad Ret) args s 0 0 (z_A ad)) 3 D cA ad true) Ret L st σ → z_X p l e { frames := 6, cells := 0, slots := 0, locals := 127 } s m args below meth c (MQ below (z_Qc D cA ad Ret) args s 0 0 (z_A ad)) 3 D cA ad true 0 L st σ := (s_aload_n C dX10_wood_0 rfl (s_iconst C dX10_wood_1 rfl ⟨by decide, by decide⟩ (s_puti C dX10_wood_2 cls_X10 (by decide) rfl wd_968 rfl rfl (s_aload_n C dX10_wood_5 rfl (s_cv0 C dX10_wood_6 (okX10_begin l) cls_X10 wd_1115 wd_1117 wd_36 wd_85 wd_1118 ⟨by decide, by decide, by decide +kernel⟩ ⟨by decide, by decide⟩ (s_iconst C dX10_wood_9 rfl ⟨by decide, by decide⟩ (s_istore_n C dX10_wood_10 (by decide) rfl rfl (fun _ _ _ h => h))))))))
set_option maxRecDepth 100000 in
theorem rX10_wood_11 {p : Program} {l : Launch} {e : Env} {s : State} {m : MethodId} {args : Array Value} {below : List Frame} {meth : Method} {c : Code} {D : va_G} {cA : Nat → ClassId} {ad : Nat → Nat} {Ret : zR} (C : z_Cx p { frames := 6, cells := 0, slots := 0, locals := 127 } s m args c cX10_wood yX10_wood.cls 3 D cA ad) (hr : meth.sig.returnType = (some .int)) (hlocks : meth.locks = false) : ∀ L st σ, tX10_wood_11 (z_X p l e { frames := 6, cells := 0, slots := 0, locals := 127 } s m args below meth c (MQ below (z_Qc D cA ad Ret) args s 0 0 (z_A ad)) 3 D cA ad true) Ret L st σ → z_X p l e { frames := 6, cells := 0, slots := 0, locals := 127 } s m args below meth c (MQ below (z_Qc D cA ad Ret) args s 0 0 (z_A ad)) 3 D cA ad true 11 L st σ := (s_iload_n C dX10_wood_11 rfl (s_bipush C dX10_wood_12 rfl ⟨by decide, by decide⟩ (s_icge C dX10_wood_14 (by decide) (s_aload_n C dX10_wood_30 rfl (s_cv0 C dX10_wood_31 (okX10_name l) cls_X10 wd_1134 wd_1136 wd_39 wd_85 wd_1137 ⟨by decide, by decide, by decide +kernel⟩ ⟨by decide, by decide⟩ (s_ldc2 C dX10_wood_34 (v := 1953654117) wd_1138 ⟨by decide, by decide⟩ (s_lcmp C dX10_wood_37 (s_ifeq C dX10_wood_38 (by decide) (fun _ _ _ h => h) (s_aload_n C dX10_wood_41 rfl (s_iconst C dX10_wood_42 rfl ⟨by decide, by decide⟩ (s_cv1 C dX10_wood_43 (okX10_bad l) cls_X10 wd_1139 wd_1141 wd_40 wd_85 wd_1142 ⟨by decide, by decide, by decide +kernel⟩ ⟨by decide, by decide⟩ (fun _ _ _ h => h))))))))) (s_aload_n C dX10_wood_17 rfl (s_getr C dX10_wood_18 (j := 6) cls_X10 (by decide) rfl (by decide) (by decide) (by decide +kernel) wd_974 (s_iload_n C dX10_wood_21 rfl (s_iconst C dX10_wood_22 rfl ⟨by decide, by decide⟩ (s_iast C dX10_wood_23 (s_iinc C dX10_wood_24 (by decide) rfl (s_goto C dX10_wood_27 (by decide) (fun _ _ _ h => h)))))))))))
set_option maxRecDepth 100000 in
theorem rX10_wood_46 {p : Program} {l : Launch} {e : Env} {s : State} {m : MethodId} {args : Array Value} {below : List Frame} {meth : Method} {c : Code} {D : va_G} {cA : Nat → ClassId} {ad : Nat → Nat} {Ret : zR} (C : z_Cx p { frames := 6, cells := 0, slots := 0, locals := 127 } s m args c cX10_wood yX10_wood.cls 3 D cA ad) (hr : meth.sig.returnType = (some .int)) (hlocks : meth.locks = false) : ∀ L st σ, tX10_wood_46 (z_X p l e { frames := 6, cells := 0, slots := 0, locals := 127 } s m args below meth c (MQ below (z_Qc D cA ad Ret) args s 0 0 (z_A ad)) 3 D cA ad true) Ret L st σ → z_X p l e { frames := 6, cells := 0, slots := 0, locals := 127 } s m args below meth c (MQ below (z_Qc D cA ad Ret) args s 0 0 (z_A ad)) 3 D cA ad true 46 L st σ := (s_aload_n C dX10_wood_46 rfl (s_cv0 C dX10_wood_47 (okX10_name l) cls_X10 wd_1134 wd_1136 wd_39 wd_85 wd_1137 ⟨by decide, by decide, by decide +kernel⟩ ⟨by decide, by decide⟩ (s_ldc2 C dX10_wood_50 (v := 1953654117) wd_1138 ⟨by decide, by decide⟩ (s_lcmp C dX10_wood_53 (s_ifne C dX10_wood_54 (by decide) (fun _ _ _ h => h) (s_aload_n C dX10_wood_57 rfl (s_cv0 C dX10_wood_58 (okX10_readTree l) cls_X10 wd_1143 wd_1145 wd_41 wd_85 wd_1146 ⟨by decide, by decide, by decide +kernel⟩ ⟨by decide, by decide⟩ (s_goto C dX10_wood_61 (by decide) (fun _ _ _ h => h)))))))))
set_option maxRecDepth 100000 in
theorem rX10_wood_64 {p : Program} {l : Launch} {e : Env} {s : State} {m : MethodId} {args : Array Value} {below : List Frame} {meth : Method} {c : Code} {D : va_G} {cA : Nat → ClassId} {ad : Nat → Nat} {Ret : zR} (C : z_Cx p { frames := 6, cells := 0, slots := 0, locals := 127 } s m args c cX10_wood yX10_wood.cls 3 D cA ad) (hr : meth.sig.returnType = (some .int)) (hlocks : meth.locks = false) : ∀ L st σ, tX10_wood_64 (z_X p l e { frames := 6, cells := 0, slots := 0, locals := 127 } s m args below meth c (MQ below (z_Qc D cA ad Ret) args s 0 0 (z_A ad)) 3 D cA ad true) Ret L st σ → z_X p l e { frames := 6, cells := 0, slots := 0, locals := 127 } s m args below meth c (MQ below (z_Qc D cA ad Ret) args s 0 0 (z_A ad)) 3 D cA ad true 64 L st σ := (s_aload_n C dX10_wood_64 rfl (s_cv0 C dX10_wood_65 (okX10_name l) cls_X10 wd_1134 wd_1136 wd_39 wd_85 wd_1137 ⟨by decide, by decide, by decide +kernel⟩ ⟨by decide, by decide⟩ (s_ldc2 C dX10_wood_68 (v := 2003398244) wd_1167 ⟨by decide, by decide⟩ (s_lcmp C dX10_wood_71 (s_ifne C dX10_wood_72 (by decide) (s_aload_n C dX10_wood_82 rfl (s_cv0 C dX10_wood_83 (okX10_name l) cls_X10 wd_1134 wd_1136 wd_39 wd_85 wd_1137 ⟨by decide, by decide, by decide +kernel⟩ ⟨by decide, by decide⟩ (s_ldc2 C dX10_wood_86 (v := 1953853029) wd_1172 ⟨by decide, by decide⟩ (s_lcmp C dX10_wood_89 (s_ifne C dX10_wood_90 (by decide) (fun _ _ _ h => h) (s_aload_n C dX10_wood_93 rfl (s_cv0 C dX10_wood_94 (okX10_readTune l) cls_X10 wd_1173 wd_1175 wd_48 wd_85 wd_1176 ⟨by decide, by decide, by decide +kernel⟩ ⟨by decide, by decide⟩ (fun _ _ _ h => h)))))))) (s_aload_n C dX10_wood_75 rfl (s_cv0 C dX10_wood_76 (okX10_readWind l) cls_X10 wd_1168 wd_1170 wd_47 wd_85 wd_1171 ⟨by decide, by decide, by decide +kernel⟩ ⟨by decide, by decide⟩ (s_goto C dX10_wood_79 (by decide) (fun _ _ _ h => h)))))))))
set_option maxRecDepth 100000 in
theorem rX10_wood_97 {p : Program} {l : Launch} {e : Env} {s : State} {m : MethodId} {args : Array Value} {below : List Frame} {meth : Method} {c : Code} {D : va_G} {cA : Nat → ClassId} {ad : Nat → Nat} {Ret : zR} (C : z_Cx p { frames := 6, cells := 0, slots := 0, locals := 127 } s m args c cX10_wood yX10_wood.cls 3 D cA ad) (hr : meth.sig.returnType = (some .int)) (hlocks : meth.locks = false) : ∀ L st σ, tX10_wood_97 (z_X p l e { frames := 6, cells := 0, slots := 0, locals := 127 } s m args below meth c (MQ below (z_Qc D cA ad Ret) args s 0 0 (z_A ad)) 3 D cA ad true) Ret L st σ → z_X p l e { frames := 6, cells := 0, slots := 0, locals := 127 } s m args below meth c (MQ below (z_Qc D cA ad Ret) args s 0 0 (z_A ad)) 3 D cA ad true 97 L st σ := (s_aload_n C dX10_wood_97 rfl (s_aload_n C dX10_wood_98 rfl (s_getr C dX10_wood_99 (j := 6) cls_X10 (by decide) rfl (by decide) (by decide) (by decide +kernel) wd_974 (s_iconst C dX10_wood_102 rfl ⟨by decide, by decide⟩ (s_iald C dX10_wood_103 (s_cv1 C dX10_wood_104 (okX10_ends l) cls_X10 wd_1182 wd_1184 wd_50 wd_85 wd_1185 ⟨by decide, by decide, by decide +kernel⟩ ⟨by decide, by decide⟩ (s_istore_n C dX10_wood_107 (by decide) rfl rfl (s_iload_n C dX10_wood_108 rfl (s_ifge C dX10_wood_109 (by decide) (s_aload_n C dX10_wood_114 rfl (s_iconst C dX10_wood_115 rfl ⟨by decide, by decide⟩ (s_putz C dX10_wood_116 cls_X10 (by decide) rfl wd_975 rfl rfl (s_iconst C dX10_wood_119 rfl ⟨by decide, by decide⟩ (s_istore_n C dX10_wood_120 (by decide) rfl rfl (fun _ _ _ h => h)))))) (s_iload_n C dX10_wood_112 rfl (s_iret C dX10_wood_113 hr hlocks)))))))))))
set_option maxRecDepth 100000 in
theorem rX10_wood_121 {p : Program} {l : Launch} {e : Env} {s : State} {m : MethodId} {args : Array Value} {below : List Frame} {meth : Method} {c : Code} {D : va_G} {cA : Nat → ClassId} {ad : Nat → Nat} {Ret : zR} (C : z_Cx p { frames := 6, cells := 0, slots := 0, locals := 127 } s m args c cX10_wood yX10_wood.cls 3 D cA ad) (hr : meth.sig.returnType = (some .int)) (hlocks : meth.locks = false) : ∀ L st σ, tX10_wood_121 (z_X p l e { frames := 6, cells := 0, slots := 0, locals := 127 } s m args below meth c (MQ below (z_Qc D cA ad Ret) args s 0 0 (z_A ad)) 3 D cA ad true) Ret L st σ → z_X p l e { frames := 6, cells := 0, slots := 0, locals := 127 } s m args below meth c (MQ below (z_Qc D cA ad Ret) args s 0 0 (z_A ad)) 3 D cA ad true 121 L st σ := (s_iload_n C dX10_wood_121 rfl (s_bipush C dX10_wood_122 rfl ⟨by decide, by decide⟩ (s_icge C dX10_wood_124 (by decide) (s_iload_n C dX10_wood_145 rfl (s_iret C dX10_wood_146 hr hlocks)) (s_aload_n C dX10_wood_127 rfl (s_getr C dX10_wood_128 (j := 5) cls_X10 (by decide) rfl (by decide) (by decide) (by decide +kernel) wd_973 (s_iload_n C dX10_wood_131 rfl (s_aload_n C dX10_wood_132 rfl (s_getr C dX10_wood_133 (j := 6) cls_X10 (by decide) rfl (by decide) (by decide) (by decide +kernel) wd_974 (s_iload_n C dX10_wood_136 rfl (s_iald C dX10_wood_137 (s_iast C dX10_wood_138 (s_iinc C dX10_wood_139 (by decide) rfl (s_goto C dX10_wood_142 (by decide) (fun _ _ _ h => h))))))))))))))
theorem okX10_wood (l : Launch) : z_OK l yX10_wood cX10_wood 3 (some .int) 6 127 SX10_wood := by
  refine z_ok_of true (by decide +kernel) ?_ ?_
  · intro as σ Ret h
    obtain ⟨k0, rfl⟩ := pX10_wood h
    exact ⟨Nat.le_of_ble_eq_true rfl, by simp⟩
  · intro p e s m args below meth c D cA ad Ret C hr hlocks as σ has hσ h
    obtain ⟨k0, rfl⟩ := pX10_wood h
    exact vX10_wood (rX10_wood_0 C hr hlocks) (rX10_wood_11 C hr hlocks) (rX10_wood_46 C hr hlocks) (rX10_wood_64 C hr hlocks) (rX10_wood_97 C hr hlocks) (rX10_wood_121 C hr hlocks) k0 σ (has _ (List.mem_of_getElem? (i := 0) rfl)) hσ h
