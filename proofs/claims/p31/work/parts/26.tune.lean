/-! a tune off the tape -/
theorem q_fw.fw2 {k w : Nat} {σ τ υ : zM} (h1 : q_fw k w σ τ) (h2 : q_fr k τ υ) : q_fw k w σ υ := h1.tr h2.fw
theorem q_fw.addJ {k w : Nat} {σ τ : zM} (h1 : q_fw k w σ τ) (v : Int) : q_fw k w σ (q_addJ τ w v) := by
  intro c j a e
  unfold q_addJ
  rw [z_up_ne (by omega), z_up_ne (by omega)]
  exact h1 c j a e
theorem q_rs.addJ {σ : zM} {k w : Nat} {b : Nat → Int} {T p : Nat} {f : Int} (h : q_rs σ k b T p f) (c : k + 1 < w) (v : Int) : q_rs (q_addJ σ w v) k b T p f := (h.far (by omega) _ _).far (by omega) _ _
def SX4_readTune : zS := fun as σ Ret => match as with
  | [.inr (.inr (4, 0, k)), .inr (.inr (8, 0, w))] => ∃ b T p D, (q_rs σ k b T p 0 ∧ q_dr σ w D ∧ D 2 < 10) ∧ ∀ σ' : zM, q_fw k w σ σ' → q_rs σ' k b T (q_tz b T p D).1 (q_tz b T p D).2 → q_dr σ' w (q_tu b T p D).2.2 → Ret none σ'
  | _ => False
def tX4_readTune_0 (X : Nat → zB) (Ret : zR) (L : zL) (st : List zV) (σ : zM) : Prop := (z_aload 0 (z_cv0 4 SX4_next (z_aload 1 (z_aload 0 (z_push 0 (z_push 999 (z_cv2 4 SX4_takeNumber (z_cv1 8 SX8_addTone (z_push 0 (z_istore 2 (X 18))))))))))) L st σ
def tX4_readTune_18 (X : Nat → zB) (Ret : zR) (L : zL) (st : List zV) (σ : zM) : Prop := (z_iload 2 (z_push 400 (z_icge (z_aload 0 (z_cv0 4 SX4_takeSign (z_vret Ret))) (z_aload 0 (z_geti 4 3 (z_ifne (z_aload 0 (z_cv0 4 SX4_takeSign (z_vret Ret))) (z_aload 0 (z_geti 4 5 (z_push 2 (z_icne (z_aload 0 (z_cv0 4 SX4_takeSign (z_vret Ret))) (z_aload 1 (z_geti 8 4 (z_push 10 (z_iclt (z_aload 1 (z_aload 0 (z_push 0 (z_push 999 (z_cv2 4 SX4_takeNumber (z_cv1 8 SX8_addTone (z_iinc 2 1 (z_goto (X 18))))))))) (z_aload 0 (z_push 3 (z_cv1 4 SX4_fail (z_goto (z_iinc 2 1 (z_goto (X 18))))))))))))))))))))) L st σ
theorem pX4_readTune {as : List zV} {σ : zM} {Ret : zR} (h : SX4_readTune as σ Ret) : ∃ (k0 : Nat) (k1 : Nat), as = [.inr (.inr (4, 0, k0)), .inr (.inr (8, 0, k1))] := by
  unfold SX4_readTune at h
  split at h
  · exact ⟨_, _, rfl⟩
  · exact h.elim
set_option maxRecDepth 10000 in
set_option maxHeartbeats 4000000 in
theorem vX4_readTune {X : Nat → zB} {Ret : zR} (h0 : ∀ L st σ, tX4_readTune_0 X Ret L st σ → X 0 L st σ) (h18 : ∀ L st σ, tX4_readTune_18 X Ret L st σ → X 18 L st σ) (k0 : Nat) (k1 : Nat) (σ : zM) (hk0 : z_kd k0 = (4, 0)) (hk1 : z_kd k1 = (8, 0)) (hσ : z_okm σ) (h : SX4_readTune [.inr (.inr (4, 0, k0)), .inr (.inr (8, 0, k1))] σ Ret) : X 0 [some (.inr (.inr (4, 0, k0))), some (.inr (.inr (8, 0, k1))), none] [] σ := by
  obtain ⟨b, T, p, D, ⟨rs, dr, c2⟩, h⟩ := h
  have ek := z_kd4 hk0
  have ew := z_kd8 hk1
  have c0 := dr.1.1.2.2.1.2.1
  have out : ∀ (i p1 : Nat) (f1 : Int) (D1 : Nat → Int) (σ1 : zM), i ≤ 10 → ¬ (f1 = 0 ∧ q_tk b T p1 = 2) → q_fw k0 k1 σ σ1 → q_rs σ1 k0 b T p1 f1 → q_dr σ1 k1 D1 → (p1, f1, D1) = q_tu b T p D → X 18 [some (.inr (.inr (4, 0, k0))), some (.inr (.inr (8, 0, k1))), some (.inl (i : Int))] [] σ1 := by
    intro i p1 f1 D1 σ1 hi hf fw rs1 dr1 hq
    have r6 := rs1.2.2.2.2.2
    have a3 := rs1.2.2.2.1.2.2.1
    have fin : ∃ b T p f, q_rs σ1 k0 b T p f ∧ ∀ σ' : zM, q_fr k0 σ1 σ' → q_rs σ' k0 b T (q_ps b T p f).1 (q_ps b T p f).2 → Ret none σ' := by
      refine ⟨b, T, p1, f1, rs1, fun σ2 f2 g2 => ?_⟩
      refine h σ2 (fw.fw2 f2) ?_ ?_
      · unfold q_tz
        rw [← hq]
        exact g2
      · rw [← hq]
        exact dr1.fr (fun c j e1 e2 => f2 c j (by omega))
    by_cases h0 : f1 = 0
    · have h2 : ¬ q_tk b T p1 = 2 := fun e => hf ⟨h0, e⟩
      refine h18 _ _ _ ?_
      simp only [z_push, z_lpush, z_iload, z_lload, z_aload, z_istore, z_istoreP, z_lstore, z_astore, z_iinc, z_iincP, z_iadd, z_isub, z_imul, z_iaddW, z_isubW, z_imulW, z_idiv, z_irem, z_iand, z_ior, z_ixor, z_ishl, z_ishr, z_iushr, z_ineg, z_i2l, z_i2b, z_i2s, z_i2c, z_l2i, z_ladd, z_lsub, z_land, z_lor, z_lshl, z_lshr, z_lcmp, z_dup, z_pop, z_dup2, z_goto, z_tsw, z_cases, z_geti, z_getr, z_puti, z_putz, z_ald, z_iast, z_bast, z_zast, z_alen, z_acopy, z_mmax, z_mmin, z_mabs, z_mabsL, z_iret, z_zret, z_nret, z_lret, z_aret, z_vret, z_cat, z_xald, z_xlen, z_ldcs, z_strv, z_strc, z_gcs, z_gfm, z_sln, z_sald, z_ifeq, z_ifne, z_iflt, z_ifge, z_ifgt, z_ifle, z_iceq, z_icne, z_iclt, z_icge, z_icgt, z_icle, z_cs0, z_cs1, z_cs2, z_cs3, z_cs4, z_cs5, z_cs6, z_cs7, z_cv0, z_cv1, z_cv2, z_cv3, z_cv4, z_cv5, z_cv6, z_cv7, z_g0, z_s0, z_g1, z_s1, z_g2, z_s2, z_g3, z_s3, z_g4, z_s4, z_g5, z_s5, z_g6, z_s6, z_g7, z_s7, z_g8, z_s8, z_g9, z_s9, z_g10, z_s10, z_g11, z_s11, z_g12, z_s12, z_g13, z_s13, z_b0, z_b1, z_b0n, z_b1n, z_up_far1, z_up_far2, z_up_far3, z_up_far4, z_up_far5, z_up_far6, Classical.not_not, not_true_eq_false, z_in, z_inL, Int.cast_ofNat_Int, Nat.reduceLeDiff, List.length_cons, List.length_nil, Nat.reduceAdd, Nat.zero_add, Nat.le_refl, true_and, and_true, List.length, Nat.reduceLT, true_or, or_true, false_or, or_false, false_and, and_false, not_true_eq_false, not_false_eq_true, forall_const, false_implies, true_implies, Int.reduceEq, Int.reduceLT, Int.reduceLE, Int.reduceAdd, Int.reduceSub, Int.reduceMul, Int.reduceNeg, Int.reduceToNat, Int.toNat_natCast, ↓reduceIte, reduceIte, Nat.reduceEqDiff, Nat.reduceSub, Nat.reduceMul, ne_eq, Int.zero_add, Int.add_zero, Int.sub_zero, Nat.add_zero, Int.ofNat_eq_natCast, tX4_readTune_18, SX4_takeSign, r6, a3, h0, h2]
      repeat' (first | (with_reducible intro _) | (with_reducible assumption) | (with_reducible refine And.intro ?_ ?_))
      all_goals first | omega | (with_reducible assumption) | (with_reducible refine z_fin fin ?_ rfl; first | rfl | omega | (split <;> omega) | (split <;> split <;> omega)) | skip
    · refine h18 _ _ _ ?_
      simp only [z_push, z_lpush, z_iload, z_lload, z_aload, z_istore, z_istoreP, z_lstore, z_astore, z_iinc, z_iincP, z_iadd, z_isub, z_imul, z_iaddW, z_isubW, z_imulW, z_idiv, z_irem, z_iand, z_ior, z_ixor, z_ishl, z_ishr, z_iushr, z_ineg, z_i2l, z_i2b, z_i2s, z_i2c, z_l2i, z_ladd, z_lsub, z_land, z_lor, z_lshl, z_lshr, z_lcmp, z_dup, z_pop, z_dup2, z_goto, z_tsw, z_cases, z_geti, z_getr, z_puti, z_putz, z_ald, z_iast, z_bast, z_zast, z_alen, z_acopy, z_mmax, z_mmin, z_mabs, z_mabsL, z_iret, z_zret, z_nret, z_lret, z_aret, z_vret, z_cat, z_xald, z_xlen, z_ldcs, z_strv, z_strc, z_gcs, z_gfm, z_sln, z_sald, z_ifeq, z_ifne, z_iflt, z_ifge, z_ifgt, z_ifle, z_iceq, z_icne, z_iclt, z_icge, z_icgt, z_icle, z_cs0, z_cs1, z_cs2, z_cs3, z_cs4, z_cs5, z_cs6, z_cs7, z_cv0, z_cv1, z_cv2, z_cv3, z_cv4, z_cv5, z_cv6, z_cv7, z_g0, z_s0, z_g1, z_s1, z_g2, z_s2, z_g3, z_s3, z_g4, z_s4, z_g5, z_s5, z_g6, z_s6, z_g7, z_s7, z_g8, z_s8, z_g9, z_s9, z_g10, z_s10, z_g11, z_s11, z_g12, z_s12, z_g13, z_s13, z_b0, z_b1, z_b0n, z_b1n, z_up_far1, z_up_far2, z_up_far3, z_up_far4, z_up_far5, z_up_far6, Classical.not_not, not_true_eq_false, z_in, z_inL, Int.cast_ofNat_Int, Nat.reduceLeDiff, List.length_cons, List.length_nil, Nat.reduceAdd, Nat.zero_add, Nat.le_refl, true_and, and_true, List.length, Nat.reduceLT, true_or, or_true, false_or, or_false, false_and, and_false, not_true_eq_false, not_false_eq_true, forall_const, false_implies, true_implies, Int.reduceEq, Int.reduceLT, Int.reduceLE, Int.reduceAdd, Int.reduceSub, Int.reduceMul, Int.reduceNeg, Int.reduceToNat, Int.toNat_natCast, ↓reduceIte, reduceIte, Nat.reduceEqDiff, Nat.reduceSub, Nat.reduceMul, ne_eq, Int.zero_add, Int.add_zero, Int.sub_zero, Nat.add_zero, Int.ofNat_eq_natCast, tX4_readTune_18, SX4_takeSign, r6, a3, h0]
      repeat' (first | (with_reducible intro _) | (with_reducible assumption) | (with_reducible refine And.intro ?_ ?_))
      all_goals first | omega | (with_reducible assumption) | (with_reducible refine z_fin fin ?_ rfl; first | rfl | omega | (split <;> omega) | (split <;> split <;> omega)) | skip
  have L18 : ∀ (d i p1 : Nat) (f1 : Int) (D1 : Nat → Int) (σ1 : zM), i + d ≤ 9 → D1 2 + (d : Int) = 10 → q_fw k0 k1 σ σ1 → q_rs σ1 k0 b T p1 f1 → q_dr σ1 k1 D1 → q_tl b T d p1 f1 D1 = q_tu b T p D → X 18 [some (.inr (.inr (4, 0, k0))), some (.inr (.inr (8, 0, k1))), some (.inl (i : Int))] [] σ1 := by
    intro d
    induction d with
    | zero =>
      intro i p1 f1 D1 σ1 hi hd fw rs1 dr1 hq
      have r6 := rs1.2.2.2.2.2
      have a3 := rs1.2.2.2.1.2.2.1
      have ec := dr1.1.1.2.2.1.1
      rw [q_tl] at hq
      by_cases hf : f1 = 0 ∧ q_tk b T p1 = 2
      · rw [if_pos hf] at hq
        obtain ⟨hf, ht⟩ := hf
        subst hf
        have nx : X 18 [some (.inr (.inr (4, 0, k0))), some (.inr (.inr (8, 0, k1))), some (.inl ((i : Int) + 1))] [] (z_up σ1 k0 3 3) := out (i + 1) p1 3 D1 (z_up σ1 k0 3 3) (by omega) (fun e => absurd e.1 (by decide)) (fw.fw2 (q_fr.rf.up (by omega) 3)) (rs1.fault 3) (dr1.fr (fun c j e1 e2 => z_up_ne (by omega))) hq
        refine h18 _ _ _ ?_
        simp only [z_push, z_lpush, z_iload, z_lload, z_aload, z_istore, z_istoreP, z_lstore, z_astore, z_iinc, z_iincP, z_iadd, z_isub, z_imul, z_iaddW, z_isubW, z_imulW, z_idiv, z_irem, z_iand, z_ior, z_ixor, z_ishl, z_ishr, z_iushr, z_ineg, z_i2l, z_i2b, z_i2s, z_i2c, z_l2i, z_ladd, z_lsub, z_land, z_lor, z_lshl, z_lshr, z_lcmp, z_dup, z_pop, z_dup2, z_goto, z_tsw, z_cases, z_geti, z_getr, z_puti, z_putz, z_ald, z_iast, z_bast, z_zast, z_alen, z_acopy, z_mmax, z_mmin, z_mabs, z_mabsL, z_iret, z_zret, z_nret, z_lret, z_aret, z_vret, z_cat, z_xald, z_xlen, z_ldcs, z_strv, z_strc, z_gcs, z_gfm, z_sln, z_sald, z_ifeq, z_ifne, z_iflt, z_ifge, z_ifgt, z_ifle, z_iceq, z_icne, z_iclt, z_icge, z_icgt, z_icle, z_cs0, z_cs1, z_cs2, z_cs3, z_cs4, z_cs5, z_cs6, z_cs7, z_cv0, z_cv1, z_cv2, z_cv3, z_cv4, z_cv5, z_cv6, z_cv7, z_g0, z_s0, z_g1, z_s1, z_g2, z_s2, z_g3, z_s3, z_g4, z_s4, z_g5, z_s5, z_g6, z_s6, z_g7, z_s7, z_g8, z_s8, z_g9, z_s9, z_g10, z_s10, z_g11, z_s11, z_g12, z_s12, z_g13, z_s13, z_b0, z_b1, z_b0n, z_b1n, z_up_far1, z_up_far2, z_up_far3, z_up_far4, z_up_far5, z_up_far6, Classical.not_not, not_true_eq_false, z_in, z_inL, Int.cast_ofNat_Int, Nat.reduceLeDiff, List.length_cons, List.length_nil, Nat.reduceAdd, Nat.zero_add, Nat.le_refl, true_and, and_true, List.length, Nat.reduceLT, true_or, or_true, false_or, or_false, false_and, and_false, not_true_eq_false, not_false_eq_true, forall_const, false_implies, true_implies, Int.reduceEq, Int.reduceLT, Int.reduceLE, Int.reduceAdd, Int.reduceSub, Int.reduceMul, Int.reduceNeg, Int.reduceToNat, Int.toNat_natCast, ↓reduceIte, reduceIte, Nat.reduceEqDiff, Nat.reduceSub, Nat.reduceMul, ne_eq, Int.zero_add, Int.add_zero, Int.sub_zero, Nat.add_zero, Int.ofNat_eq_natCast, tX4_readTune_18, SX4_fail, r6, a3, ht, ec]
        repeat' (first | (with_reducible intro _) | (with_reducible assumption) | (with_reducible refine And.intro ?_ ?_))
        all_goals first | omega | (with_reducible assumption) | (with_reducible refine z_fin nx ?_ rfl; first | rfl | omega | (split <;> omega) | (split <;> split <;> omega)) | skip
      · rw [if_neg hf] at hq
        exact out i p1 f1 D1 σ1 (by omega) hf fw rs1 dr1 hq
    | succ d ih =>
      intro i p1 f1 D1 σ1 hi hd fw rs1 dr1 hq
      have r6 := rs1.2.2.2.2.2
      have a3 := rs1.2.2.2.1.2.2.1
      have ec := dr1.1.1.2.2.1.1
      rw [q_tl] at hq
      by_cases hf : f1 = 0 ∧ q_tk b T p1 = 2
      · rw [if_pos hf] at hq
        obtain ⟨hf, ht⟩ := hf
        subst hf
        refine h18 _ _ _ ?_
        simp only [z_push, z_lpush, z_iload, z_lload, z_aload, z_istore, z_istoreP, z_lstore, z_astore, z_iinc, z_iincP, z_iadd, z_isub, z_imul, z_iaddW, z_isubW, z_imulW, z_idiv, z_irem, z_iand, z_ior, z_ixor, z_ishl, z_ishr, z_iushr, z_ineg, z_i2l, z_i2b, z_i2s, z_i2c, z_l2i, z_ladd, z_lsub, z_land, z_lor, z_lshl, z_lshr, z_lcmp, z_dup, z_pop, z_dup2, z_goto, z_tsw, z_cases, z_geti, z_getr, z_puti, z_putz, z_ald, z_iast, z_bast, z_zast, z_alen, z_acopy, z_mmax, z_mmin, z_mabs, z_mabsL, z_iret, z_zret, z_nret, z_lret, z_aret, z_vret, z_cat, z_xald, z_xlen, z_ldcs, z_strv, z_strc, z_gcs, z_gfm, z_sln, z_sald, z_ifeq, z_ifne, z_iflt, z_ifge, z_ifgt, z_ifle, z_iceq, z_icne, z_iclt, z_icge, z_icgt, z_icle, z_cs0, z_cs1, z_cs2, z_cs3, z_cs4, z_cs5, z_cs6, z_cs7, z_cv0, z_cv1, z_cv2, z_cv3, z_cv4, z_cv5, z_cv6, z_cv7, z_g0, z_s0, z_g1, z_s1, z_g2, z_s2, z_g3, z_s3, z_g4, z_s4, z_g5, z_s5, z_g6, z_s6, z_g7, z_s7, z_g8, z_s8, z_g9, z_s9, z_g10, z_s10, z_g11, z_s11, z_g12, z_s12, z_g13, z_s13, z_b0, z_b1, z_b0n, z_b1n, z_up_far1, z_up_far2, z_up_far3, z_up_far4, z_up_far5, z_up_far6, Classical.not_not, not_true_eq_false, z_in, z_inL, Int.cast_ofNat_Int, Nat.reduceLeDiff, List.length_cons, List.length_nil, Nat.reduceAdd, Nat.zero_add, Nat.le_refl, true_and, and_true, List.length, Nat.reduceLT, true_or, or_true, false_or, or_false, false_and, and_false, not_true_eq_false, not_false_eq_true, forall_const, false_implies, true_implies, Int.reduceEq, Int.reduceLT, Int.reduceLE, Int.reduceAdd, Int.reduceSub, Int.reduceMul, Int.reduceNeg, Int.reduceToNat, Int.toNat_natCast, ↓reduceIte, reduceIte, Nat.reduceEqDiff, Nat.reduceSub, Nat.reduceMul, ne_eq, Int.zero_add, Int.add_zero, Int.sub_zero, Nat.add_zero, Int.ofNat_eq_natCast, tX4_readTune_18, SX4_takeNumber, SX8_addTone, SX4_fail, r6, a3, ht, ec]
        refine ⟨fun _ => by omega, fun _ _ => ⟨fun _ => ⟨b, T, _, _, rs1, fun σ2 f2 g2 => ?_⟩, fun _ => by omega⟩⟩
        have dr2 : q_dr σ2 k1 D1 := dr1.fr (fun c j e1 e2 => f2 c j (by omega))
        have ec2 := dr2.1.1.2.2.1.1
        have b2 := dr2.1.1.2.2.1.2.1
        refine ⟨⟨by omega, by omega⟩, ⟨by omega, by omega⟩, ?_⟩
        exact ih (i + 1) _ _ _ _ (by omega) (by show D1 2 + 1 + (d : Int) = 10; omega) ((fw.fw2 f2).addJ _) (g2.addJ (by omega) _) (dr2.addJ (by omega) _) hq
      · rw [if_neg hf] at hq
        exact out i p1 f1 D1 σ1 (by omega) hf fw rs1 dr1 hq
  refine h0 _ _ _ ?_
  simp only [z_push, z_lpush, z_iload, z_lload, z_aload, z_istore, z_istoreP, z_lstore, z_astore, z_iinc, z_iincP, z_iadd, z_isub, z_imul, z_iaddW, z_isubW, z_imulW, z_idiv, z_irem, z_iand, z_ior, z_ixor, z_ishl, z_ishr, z_iushr, z_ineg, z_i2l, z_i2b, z_i2s, z_i2c, z_l2i, z_ladd, z_lsub, z_land, z_lor, z_lshl, z_lshr, z_lcmp, z_dup, z_pop, z_dup2, z_goto, z_tsw, z_cases, z_geti, z_getr, z_puti, z_putz, z_ald, z_iast, z_bast, z_zast, z_alen, z_acopy, z_mmax, z_mmin, z_mabs, z_mabsL, z_iret, z_zret, z_nret, z_lret, z_aret, z_vret, z_cat, z_xald, z_xlen, z_ldcs, z_strv, z_strc, z_gcs, z_gfm, z_sln, z_sald, z_ifeq, z_ifne, z_iflt, z_ifge, z_ifgt, z_ifle, z_iceq, z_icne, z_iclt, z_icge, z_icgt, z_icle, z_cs0, z_cs1, z_cs2, z_cs3, z_cs4, z_cs5, z_cs6, z_cs7, z_cv0, z_cv1, z_cv2, z_cv3, z_cv4, z_cv5, z_cv6, z_cv7, z_g0, z_s0, z_g1, z_s1, z_g2, z_s2, z_g3, z_s3, z_g4, z_s4, z_g5, z_s5, z_g6, z_s6, z_g7, z_s7, z_g8, z_s8, z_g9, z_s9, z_g10, z_s10, z_g11, z_s11, z_g12, z_s12, z_g13, z_s13, z_b0, z_b1, z_b0n, z_b1n, z_up_far1, z_up_far2, z_up_far3, z_up_far4, z_up_far5, z_up_far6, Classical.not_not, not_true_eq_false, z_in, z_inL, Int.cast_ofNat_Int, Nat.reduceLeDiff, List.length_cons, List.length_nil, Nat.reduceAdd, Nat.zero_add, Nat.le_refl, true_and, and_true, List.length, Nat.reduceLT, true_or, or_true, false_or, or_false, false_and, and_false, not_true_eq_false, not_false_eq_true, forall_const, false_implies, true_implies, Int.reduceEq, Int.reduceLT, Int.reduceLE, Int.reduceAdd, Int.reduceSub, Int.reduceMul, Int.reduceNeg, Int.reduceToNat, Int.toNat_natCast, ↓reduceIte, reduceIte, Nat.reduceEqDiff, Nat.reduceSub, Nat.reduceMul, ne_eq, Int.zero_add, Int.add_zero, Int.sub_zero, Nat.add_zero, Int.ofNat_eq_natCast, tX4_readTune_0]
  refine q_next rs (fun σ1 f1 g1 => ?_)
  simp only [z_push, z_lpush, z_iload, z_lload, z_aload, z_istore, z_istoreP, z_lstore, z_astore, z_iinc, z_iincP, z_iadd, z_isub, z_imul, z_iaddW, z_isubW, z_imulW, z_idiv, z_irem, z_iand, z_ior, z_ixor, z_ishl, z_ishr, z_iushr, z_ineg, z_i2l, z_i2b, z_i2s, z_i2c, z_l2i, z_ladd, z_lsub, z_land, z_lor, z_lshl, z_lshr, z_lcmp, z_dup, z_pop, z_dup2, z_goto, z_tsw, z_cases, z_geti, z_getr, z_puti, z_putz, z_ald, z_iast, z_bast, z_zast, z_alen, z_acopy, z_mmax, z_mmin, z_mabs, z_mabsL, z_iret, z_zret, z_nret, z_lret, z_aret, z_vret, z_cat, z_xald, z_xlen, z_ldcs, z_strv, z_strc, z_gcs, z_gfm, z_sln, z_sald, z_ifeq, z_ifne, z_iflt, z_ifge, z_ifgt, z_ifle, z_iceq, z_icne, z_iclt, z_icge, z_icgt, z_icle, z_cs0, z_cs1, z_cs2, z_cs3, z_cs4, z_cs5, z_cs6, z_cs7, z_cv0, z_cv1, z_cv2, z_cv3, z_cv4, z_cv5, z_cv6, z_cv7, z_g0, z_s0, z_g1, z_s1, z_g2, z_s2, z_g3, z_s3, z_g4, z_s4, z_g5, z_s5, z_g6, z_s6, z_g7, z_s7, z_g8, z_s8, z_g9, z_s9, z_g10, z_s10, z_g11, z_s11, z_g12, z_s12, z_g13, z_s13, z_b0, z_b1, z_b0n, z_b1n, z_up_far1, z_up_far2, z_up_far3, z_up_far4, z_up_far5, z_up_far6, Classical.not_not, not_true_eq_false, z_in, z_inL, Int.cast_ofNat_Int, Nat.reduceLeDiff, List.length_cons, List.length_nil, Nat.reduceAdd, Nat.zero_add, Nat.le_refl, true_and, and_true, List.length, Nat.reduceLT, true_or, or_true, false_or, or_false, false_and, and_false, not_true_eq_false, not_false_eq_true, forall_const, false_implies, true_implies, Int.reduceEq, Int.reduceLT, Int.reduceLE, Int.reduceAdd, Int.reduceSub, Int.reduceMul, Int.reduceNeg, Int.reduceToNat, Int.toNat_natCast, ↓reduceIte, reduceIte, Nat.reduceEqDiff, Nat.reduceSub, Nat.reduceMul, ne_eq, Int.zero_add, Int.add_zero, Int.sub_zero, Nat.add_zero, Int.ofNat_eq_natCast, SX4_takeNumber, SX8_addTone]
  refine ⟨b, T, _, _, g1, fun σ2 f2 g2 => ?_⟩
  have dr2 : q_dr σ2 k1 D := dr.fr (fun c j e1 e2 => (f1.tr f2) c j (by omega))
  have ec2 := dr2.1.1.2.2.1.1
  refine ⟨⟨by omega, by omega⟩, ?_⟩
  exact L18 (9 - (D 2).toNat) 0 _ _ _ _ (by omega) (by show D 2 + 1 + ((9 - (D 2).toNat : Nat) : Int) = 10; omega) ((f1.tr f2).fw.addJ _) (g2.addJ (by omega) _) (dr2.addJ (by omega) _) rfl
theorem dX4_readTune_0 : decode cX4_readTune 0 = .ok (.aload_n 0, 1) := by decide +kernel
theorem dX4_readTune_1 : decode cX4_readTune 1 = .ok (.invokevirtual 50, 3) := by decide +kernel
theorem dX4_readTune_4 : decode cX4_readTune 4 = .ok (.aload_n 1, 1) := by decide +kernel
theorem dX4_readTune_5 : decode cX4_readTune 5 = .ok (.aload_n 0, 1) := by decide +kernel
theorem dX4_readTune_6 : decode cX4_readTune 6 = .ok (.iconst 0, 1) := by decide +kernel
theorem dX4_readTune_7 : decode cX4_readTune 7 = .ok (.sipush 999, 3) := by decide +kernel
theorem dX4_readTune_10 : decode cX4_readTune 10 = .ok (.invokevirtual 93, 3) := by decide +kernel
theorem dX4_readTune_13 : decode cX4_readTune 13 = .ok (.invokevirtual 110, 3) := by decide +kernel
theorem dX4_readTune_16 : decode cX4_readTune 16 = .ok (.iconst 0, 1) := by decide +kernel
theorem dX4_readTune_17 : decode cX4_readTune 17 = .ok (.istore_n 2, 1) := by decide +kernel
theorem dX4_readTune_18 : decode cX4_readTune 18 = .ok (.iload_n 2, 1) := by decide +kernel
theorem dX4_readTune_19 : decode cX4_readTune 19 = .ok (.sipush 400, 3) := by decide +kernel
theorem dX4_readTune_22 : decode cX4_readTune 22 = .ok (.if_icmp .ge 53, 3) := by decide +kernel
theorem dX4_readTune_25 : decode cX4_readTune 25 = .ok (.aload_n 0, 1) := by decide +kernel
theorem dX4_readTune_26 : decode cX4_readTune 26 = .ok (.getfield 47, 3) := by decide +kernel
theorem dX4_readTune_29 : decode cX4_readTune 29 = .ok (.ifCond .ne 46, 3) := by decide +kernel
theorem dX4_readTune_32 : decode cX4_readTune 32 = .ok (.aload_n 0, 1) := by decide +kernel
theorem dX4_readTune_33 : decode cX4_readTune 33 = .ok (.getfield 53, 3) := by decide +kernel
theorem dX4_readTune_36 : decode cX4_readTune 36 = .ok (.iconst 2, 1) := by decide +kernel
theorem dX4_readTune_37 : decode cX4_readTune 37 = .ok (.if_icmp .ne 38, 3) := by decide +kernel
theorem dX4_readTune_40 : decode cX4_readTune 40 = .ok (.aload_n 1, 1) := by decide +kernel
theorem dX4_readTune_41 : decode cX4_readTune 41 = .ok (.getfield 113, 3) := by decide +kernel
theorem dX4_readTune_44 : decode cX4_readTune 44 = .ok (.bipush 10, 2) := by decide +kernel
theorem dX4_readTune_46 : decode cX4_readTune 46 = .ok (.if_icmp .lt 11, 3) := by decide +kernel
theorem dX4_readTune_49 : decode cX4_readTune 49 = .ok (.aload_n 0, 1) := by decide +kernel
theorem dX4_readTune_50 : decode cX4_readTune 50 = .ok (.iconst 3, 1) := by decide +kernel
theorem dX4_readTune_51 : decode cX4_readTune 51 = .ok (.invokevirtual 86, 3) := by decide +kernel
theorem dX4_readTune_54 : decode cX4_readTune 54 = .ok (.goto 15, 3) := by decide +kernel
theorem dX4_readTune_57 : decode cX4_readTune 57 = .ok (.aload_n 1, 1) := by decide +kernel
theorem dX4_readTune_58 : decode cX4_readTune 58 = .ok (.aload_n 0, 1) := by decide +kernel
theorem dX4_readTune_59 : decode cX4_readTune 59 = .ok (.iconst 0, 1) := by decide +kernel
theorem dX4_readTune_60 : decode cX4_readTune 60 = .ok (.sipush 999, 3) := by decide +kernel
theorem dX4_readTune_63 : decode cX4_readTune 63 = .ok (.invokevirtual 93, 3) := by decide +kernel
theorem dX4_readTune_66 : decode cX4_readTune 66 = .ok (.invokevirtual 110, 3) := by decide +kernel
theorem dX4_readTune_69 : decode cX4_readTune 69 = .ok (.iinc 2 1, 3) := by decide +kernel
theorem dX4_readTune_72 : decode cX4_readTune 72 = .ok (.goto (-54), 3) := by decide +kernel
theorem dX4_readTune_75 : decode cX4_readTune 75 = .ok (.aload_n 0, 1) := by decide +kernel
theorem dX4_readTune_76 : decode cX4_readTune 76 = .ok (.invokevirtual 97, 3) := by decide +kernel
theorem dX4_readTune_79 : decode cX4_readTune 79 = .ok (.return_, 1) := by decide +kernel
set_option maxRecDepth 100000 in
theorem rX4_readTune_0 {zx : zX} {zn : Nat} {p : Program} {l : Launch} {e : Env} {s : State} {m : MethodId} {args : Array Value} {below : List Frame} {meth : Method} {c : Code} {D : va_G} {cA : Nat → ClassId} {ad : Nat → Nat} {Ret : zR} (C : z_Cx zx zn (z_A zn ad) 0 0 p { frames := 3, cells := 0, slots := 0, locals := 65 } s m args c cX4_readTune yX4_readTune.cls 3 D cA ad) (hr : meth.sig.returnType = none) (hlocks : meth.locks = false) : ∀ L st σ, tX4_readTune_0 (z_X zx zn (z_A zn ad) 0 0 p l e { frames := 3, cells := 0, slots := 0, locals := 65 } s m args below meth c (MQ below (z_Qc zn D cA ad Ret) args s 0 0 (z_A zn ad)) 3 D cA ad true) Ret L st σ → z_X zx zn (z_A zn ad) 0 0 p l e { frames := 3, cells := 0, slots := 0, locals := 65 } s m args below meth c (MQ below (z_Qc zn D cA ad Ret) args s 0 0 (z_A zn ad)) 3 D cA ad true 0 L st σ := (s_aload_n C dX4_readTune_0 rfl (s_cv0 C dX4_readTune_1 (okX4_next l) cls_X4 wd_335 wd_337 wd_1 wd_18 wd_338 ⟨by decide, by decide, by decide +kernel⟩ ⟨by decide, by decide⟩ (s_aload_n C dX4_readTune_4 rfl (s_aload_n C dX4_readTune_5 rfl (s_iconst C dX4_readTune_6 rfl ⟨by decide, by decide⟩ (s_sipush C dX4_readTune_7 rfl ⟨by decide, by decide⟩ (s_cv2 C dX4_readTune_10 (okX4_takeNumber l) cls_X4 wd_431 wd_433 wd_8 wd_18 wd_434 ⟨by decide, by decide, by decide +kernel⟩ ⟨by decide, by decide⟩ (s_cv1 C dX4_readTune_13 (okX8_addTone l) cls_X8 wd_627 wd_628 wd_629 wd_20 wd_630 ⟨by decide, by decide, by decide +kernel⟩ ⟨by decide, by decide⟩ (s_iconst C dX4_readTune_16 rfl ⟨by decide, by decide⟩ (s_istore_n C dX4_readTune_17 (by decide) rfl rfl (fun _ _ _ h => h)))))))))))
set_option maxRecDepth 100000 in
theorem rX4_readTune_18 {zx : zX} {zn : Nat} {p : Program} {l : Launch} {e : Env} {s : State} {m : MethodId} {args : Array Value} {below : List Frame} {meth : Method} {c : Code} {D : va_G} {cA : Nat → ClassId} {ad : Nat → Nat} {Ret : zR} (C : z_Cx zx zn (z_A zn ad) 0 0 p { frames := 3, cells := 0, slots := 0, locals := 65 } s m args c cX4_readTune yX4_readTune.cls 3 D cA ad) (hr : meth.sig.returnType = none) (hlocks : meth.locks = false) : ∀ L st σ, tX4_readTune_18 (z_X zx zn (z_A zn ad) 0 0 p l e { frames := 3, cells := 0, slots := 0, locals := 65 } s m args below meth c (MQ below (z_Qc zn D cA ad Ret) args s 0 0 (z_A zn ad)) 3 D cA ad true) Ret L st σ → z_X zx zn (z_A zn ad) 0 0 p l e { frames := 3, cells := 0, slots := 0, locals := 65 } s m args below meth c (MQ below (z_Qc zn D cA ad Ret) args s 0 0 (z_A zn ad)) 3 D cA ad true 18 L st σ := (s_iload_n C dX4_readTune_18 rfl (s_sipush C dX4_readTune_19 rfl ⟨by decide, by decide⟩ (s_icge C dX4_readTune_22 (by decide) (s_aload_n C dX4_readTune_75 rfl (s_cv0 C dX4_readTune_76 (okX4_takeSign l) cls_X4 wd_435 wd_437 wd_9 wd_18 wd_438 ⟨by decide, by decide, by decide +kernel⟩ ⟨by decide, by decide⟩ (s_vret C dX4_readTune_79 hr hlocks))) (s_aload_n C dX4_readTune_25 rfl (s_geti C dX4_readTune_26 cls_X4 (by decide) rfl wd_52 (s_ifne C dX4_readTune_29 (by decide) (s_aload_n C dX4_readTune_75 rfl (s_cv0 C dX4_readTune_76 (okX4_takeSign l) cls_X4 wd_435 wd_437 wd_9 wd_18 wd_438 ⟨by decide, by decide, by decide +kernel⟩ ⟨by decide, by decide⟩ (s_vret C dX4_readTune_79 hr hlocks))) (s_aload_n C dX4_readTune_32 rfl (s_geti C dX4_readTune_33 cls_X4 (by decide) rfl wd_55 (s_iconst C dX4_readTune_36 rfl ⟨by decide, by decide⟩ (s_icne C dX4_readTune_37 (by decide) (s_aload_n C dX4_readTune_75 rfl (s_cv0 C dX4_readTune_76 (okX4_takeSign l) cls_X4 wd_435 wd_437 wd_9 wd_18 wd_438 ⟨by decide, by decide, by decide +kernel⟩ ⟨by decide, by decide⟩ (s_vret C dX4_readTune_79 hr hlocks))) (s_aload_n C dX4_readTune_40 rfl (s_geti C dX4_readTune_41 cls_X8 (by decide) rfl wd_203 (s_bipush C dX4_readTune_44 rfl ⟨by decide, by decide⟩ (s_iclt C dX4_readTune_46 (by decide) (s_aload_n C dX4_readTune_57 rfl (s_aload_n C dX4_readTune_58 rfl (s_iconst C dX4_readTune_59 rfl ⟨by decide, by decide⟩ (s_sipush C dX4_readTune_60 rfl ⟨by decide, by decide⟩ (s_cv2 C dX4_readTune_63 (okX4_takeNumber l) cls_X4 wd_431 wd_433 wd_8 wd_18 wd_434 ⟨by decide, by decide, by decide +kernel⟩ ⟨by decide, by decide⟩ (s_cv1 C dX4_readTune_66 (okX8_addTone l) cls_X8 wd_627 wd_628 wd_629 wd_20 wd_630 ⟨by decide, by decide, by decide +kernel⟩ ⟨by decide, by decide⟩ (s_iinc C dX4_readTune_69 (by decide) rfl (s_goto C dX4_readTune_72 (by decide) (fun _ _ _ h => h))))))))) (s_aload_n C dX4_readTune_49 rfl (s_iconst C dX4_readTune_50 rfl ⟨by decide, by decide⟩ (s_cv1 C dX4_readTune_51 (okX4_fail l) cls_X4 wd_427 wd_429 wd_7 wd_18 wd_430 ⟨by decide, by decide, by decide +kernel⟩ ⟨by decide, by decide⟩ (s_goto C dX4_readTune_54 (by decide) (s_iinc C dX4_readTune_69 (by decide) rfl (s_goto C dX4_readTune_72 (by decide) (fun _ _ _ h => h)))))))))))))))))))))
theorem okX4_readTune {zx : zX} {zn : Nat} (l : Launch) : z_OK zx zn l yX4_readTune cX4_readTune 3 none 3 65 SX4_readTune := by
  refine z_ok_of true (by decide +kernel) ?_ ?_
  · intro as σ Ret h
    obtain ⟨k0, k1, rfl⟩ := pX4_readTune h
    exact ⟨Nat.le_of_ble_eq_true rfl, by simp⟩
  · intro p e s m args below meth c D cA ad Ret C hr hlocks as σ has hσ h
    obtain ⟨k0, k1, rfl⟩ := pX4_readTune h
    exact vX4_readTune (rX4_readTune_0 C hr hlocks) (rX4_readTune_18 C hr hlocks) k0 k1 σ (has _ (List.mem_of_getElem? (i := 0) rfl)).1 (has _ (List.mem_of_getElem? (i := 1) rfl)).1 hσ h
