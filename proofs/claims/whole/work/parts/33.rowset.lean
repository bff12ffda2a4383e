/-! set and drop -/
theorem q_R2_row {σ σ' τ' : zM} (R : q_R2 σ σ) (v : Int) (hrow : q_rrow σ' τ') (e : ∀ c j, ¬ (4 ≤ c ∧ c ≤ 7) → σ' c j = z_up σ 0 12 v c j) (f : ∀ c j, 89 ≤ c → ¬ (90 ≤ c ∧ c ≤ 92) → τ' c j = z_up σ 89 1 v c j) : q_R2 σ' τ' := by
  have a : ∀ c j, ¬ (4 ≤ c ∧ c ≤ 7) → c ≠ 0 → σ' c j = σ c j := fun c j h1 h2 => by rw [e c j h1, z_up_ne (by omega)]
  have b : ∀ c j, 89 ≤ c → ¬ (90 ≤ c ∧ c ≤ 92) → c ≠ 89 ∨ j ≠ 1 → τ' c j = σ c j := fun c j h1 h2 h3 => by rw [f c j h1 h2, z_up_ne h3]
  obtain ⟨h1, ⟨h2, h3⟩, h4, h5, h6, h7⟩ := R
  refine ⟨hrow, ⟨by rw [e _ _ (by omega), f _ _ (by omega) (by omega), z_up_eq, z_up_eq], ?_⟩, q_rtape_cg h4 (a _ _ (by omega) (by omega)) (fun j => a _ _ (by omega) (by omega)) (b _ _ (by omega) (by omega) (by omega)) (fun j => b _ _ (by omega) (by omega) (by omega)), q_rtr_cg h5 (a _ _ (by omega) (by omega)) (fun j => a _ _ (by omega) (by omega)) (b _ _ (by omega) (by omega) (by omega)) (fun j => b _ _ (by omega) (by omega) (by omega)), q_rwood_cg h6 (fun c j a1 a2 => a c j (by omega) (by omega)) (fun j => b _ _ (by omega) (by omega) (by omega)) (fun j => b _ _ (by omega) (by omega) (by omega)) (b _ _ (by omega) (by omega) (by omega)), q_rimg_cg h7 (fun c j a1 a2 => a c j (by omega) (by omega)) (fun c j a1 a2 => b c j (by omega) (by omega) (by omega))⟩
  rw [e _ _ (by omega), b _ _ (by omega) (by omega) (by omega), z_up_ne (by omega)]
  exact h3
def q_gSet (r i v : Int) (τ : zM) : Int := if ¬ (0 ≤ r ∧ r < 8) then -1000001 else if τ 90 r.toNat < 0 then -1000011 else if ¬ (0 ≤ i ∧ i < τ 91 r.toNat) then -1000012 else q_nar (τ 90 r.toNat) v
def q_fSet (r i v : Int) (τ : zM) : zM := if ¬ (0 ≤ r ∧ r < 8) then τ else if τ 90 r.toNat < 0 then z_up τ 89 1 1 else if ¬ (0 ≤ i ∧ i < τ 91 r.toNat) then z_up τ 89 1 2 else z_up (z_up τ 89 1 0) 92 (40 * r.toNat + i.toNat) (q_nar (τ 90 r.toNat) v)
def SX9_set : zS := fun as σ Ret => match as with
  | [.inr (.inr (9, 0, _)), .inl r, .inl i, .inl v] => q_S9 (q_gSet r i v) (q_fSet r i v) σ Ret
  | _ => False
def tX9_set_0 (X : Nat → zB) (Ret : zR) (L : zL) (st : List zV) (σ : zM) : Prop := (z_iload 1 (z_cs1 SX5_isRow (z_ifne (z_aload 0 (z_getr 9 3 5 0 (z_iload 1 (z_cv1 5 SX5_isThere (z_ifne (z_aload 0 (z_getr 9 3 5 0 (z_iload 1 (z_iload 2 (z_push 1 (z_cv3 5 SX5_hasPlaces (z_ifne (z_aload 0 (z_aload 0 (z_getr 9 3 5 0 (z_iload 1 (z_iload 2 (z_iload 3 (z_cv3 5 SX5_put (z_cv1 9 SX9_passed (z_iret Ret))))))))) (z_aload 0 (z_push 2 (z_cv1 9 SX9_found (z_iret Ret))))))))))) (z_aload 0 (z_push 1 (z_cv1 9 SX9_found (z_iret Ret))))))))) (z_push (-1000001) (z_iret Ret))))) L st σ
theorem pX9_set {as : List zV} {σ : zM} {Ret : zR} (h : SX9_set as σ Ret) : ∃ (k0 : Nat) (x1 : Int) (x2 : Int) (x3 : Int), as = [.inr (.inr (9, 0, k0)), .inl x1, .inl x2, .inl x3] := by
  unfold SX9_set at h
  split at h
  · exact ⟨_, _, _, _, rfl⟩
  · exact h.elim
set_option maxRecDepth 10000 in
set_option maxHeartbeats 4000000 in
theorem vX9_set {X : Nat → zB} {Ret : zR} (h0 : ∀ L st σ, tX9_set_0 X Ret L st σ → X 0 L st σ) (k0 : Nat) (x1 : Int) (x2 : Int) (x3 : Int) (σ : zM) (hk0 : z_kd k0 = (9, 0)) (hx1 : -2147483648 ≤ x1 ∧ x1 ≤ 2147483647) (hx2 : -2147483648 ≤ x2 ∧ x2 ≤ 2147483647) (hx3 : -2147483648 ≤ x3 ∧ x3 ≤ 2147483647) (hσ : z_okm σ) (h : SX9_set [.inr (.inr (9, 0, k0)), .inl x1, .inl x2, .inl x3] σ Ret) : X 0 [some (.inr (.inr (9, 0, k0))), some (.inl x1), some (.inl x2), some (.inl x3)] [] σ := by
  obtain ⟨⟨R, m⟩, h⟩ := h
  obtain rfl := z_kd9 hk0
  by_cases c1 : ¬ (0 ≤ x1 ∧ x1 < 8)
  · have fin := h σ (fun _ _ => rfl) (by unfold q_fSet; rw [if_pos c1]; exact R)
    simp only [q_gSet, if_pos c1] at fin
    refine h0 _ _ _ ?_
    simp only [z_push, z_lpush, z_iload, z_lload, z_aload, z_istore, z_istoreP, z_lstore, z_astore, z_iinc, z_iincP, z_iadd, z_isub, z_imul, z_iaddW, z_isubW, z_imulW, z_idiv, z_irem, z_iand, z_ior, z_ixor, z_ishl, z_ishr, z_iushr, z_ineg, z_i2l, z_i2b, z_i2s, z_i2c, z_l2i, z_ladd, z_lsub, z_land, z_lor, z_lshl, z_lshr, z_lcmp, z_dup, z_pop, z_dup2, z_goto, z_tsw, z_cases, z_geti, z_getr, z_puti, z_putz, z_ald, z_iast, z_bast, z_zast, z_alen, z_acopy, z_mmax, z_mmin, z_mabs, z_mabsL, z_iret, z_zret, z_nret, z_lret, z_aret, z_vret, z_cat, z_ldcs, z_strv, z_strc, z_gcs, z_gfm, z_sln, z_sald, z_ifeq, z_ifne, z_iflt, z_ifge, z_ifgt, z_ifle, z_iceq, z_icne, z_iclt, z_icge, z_icgt, z_icle, z_cs0, z_cs1, z_cs2, z_cs3, z_cs4, z_cs5, z_cs6, z_cs7, z_cv0, z_cv1, z_cv2, z_cv3, z_cv4, z_cv5, z_cv6, z_cv7, z_g0, z_s0, z_g1, z_s1, z_g2, z_s2, z_g3, z_s3, z_g4, z_s4, z_g5, z_s5, z_g6, z_s6, z_g7, z_s7, z_g8, z_s8, z_g9, z_s9, z_g10, z_s10, z_g11, z_s11, z_g12, z_s12, z_g13, z_s13, z_b0, z_b1, z_b0n, z_b1n, z_up_far1, z_up_far2, z_up_far3, z_up_far4, z_up_far5, z_up_far6, Classical.not_not, not_true_eq_false, z_in, z_inL, Int.cast_ofNat_Int, Nat.reduceLeDiff, List.length_cons, List.length_nil, Nat.reduceAdd, Nat.zero_add, Nat.le_refl, true_and, and_true, List.length, Nat.reduceLT, true_or, or_true, false_or, or_false, false_and, and_false, not_true_eq_false, not_false_eq_true, forall_const, false_implies, true_implies, Int.reduceEq, Int.reduceLT, Int.reduceLE, Int.reduceAdd, Int.reduceSub, Int.reduceMul, Int.reduceNeg, Int.reduceToNat, Int.toNat_natCast, ↓reduceIte, reduceIte, Nat.reduceEqDiff, Nat.reduceSub, Nat.reduceMul, ne_eq, Int.zero_add, Int.add_zero, Int.sub_zero, Nat.add_zero, Int.ofNat_eq_natCast, tX9_set_0, SX5_isRow]
    repeat' (first | (intro _) | (with_reducible assumption) | (refine And.intro ?_ ?_))
    all_goals first | omega | assumption | (refine z_fin fin ?_ rfl; first | rfl | omega | (split <;> omega) | (split <;> split <;> omega)) | skip
  obtain ⟨r, rfl⟩ := z_nat (show 0 ≤ x1 by omega)
  have hr : r < 8 := by omega
  obtain ⟨g1, g2⟩ := R.1 r hr
  obtain ⟨m1, m2⟩ := m.1 r hr
  by_cases c2 : σ 90 r < 0
  · rw [if_pos c2] at g1
    have fin := h (z_up σ 0 12 1) (q_up89 (by omega)) (by unfold q_fSet; rw [if_neg c1, if_pos (by rw [Int.toNat_natCast, z_up_ne (by omega)]; exact c2)]; exact q_R2_fnd R 1)
    simp only [q_gSet, if_neg c1, Int.toNat_natCast] at fin
    rw [if_pos (by rw [z_up_ne (by omega)]; exact c2)] at fin
    refine h0 _ _ _ ?_
    simp only [z_push, z_lpush, z_iload, z_lload, z_aload, z_istore, z_istoreP, z_lstore, z_astore, z_iinc, z_iincP, z_iadd, z_isub, z_imul, z_iaddW, z_isubW, z_imulW, z_idiv, z_irem, z_iand, z_ior, z_ixor, z_ishl, z_ishr, z_iushr, z_ineg, z_i2l, z_i2b, z_i2s, z_i2c, z_l2i, z_ladd, z_lsub, z_land, z_lor, z_lshl, z_lshr, z_lcmp, z_dup, z_pop, z_dup2, z_goto, z_tsw, z_cases, z_geti, z_getr, z_puti, z_putz, z_ald, z_iast, z_bast, z_zast, z_alen, z_acopy, z_mmax, z_mmin, z_mabs, z_mabsL, z_iret, z_zret, z_nret, z_lret, z_aret, z_vret, z_cat, z_ldcs, z_strv, z_strc, z_gcs, z_gfm, z_sln, z_sald, z_ifeq, z_ifne, z_iflt, z_ifge, z_ifgt, z_ifle, z_iceq, z_icne, z_iclt, z_icge, z_icgt, z_icle, z_cs0, z_cs1, z_cs2, z_cs3, z_cs4, z_cs5, z_cs6, z_cs7, z_cv0, z_cv1, z_cv2, z_cv3, z_cv4, z_cv5, z_cv6, z_cv7, z_g0, z_s0, z_g1, z_s1, z_g2, z_s2, z_g3, z_s3, z_g4, z_s4, z_g5, z_s5, z_g6, z_s6, z_g7, z_s7, z_g8, z_s8, z_g9, z_s9, z_g10, z_s10, z_g11, z_s11, z_g12, z_s12, z_g13, z_s13, z_b0, z_b1, z_b0n, z_b1n, z_up_far1, z_up_far2, z_up_far3, z_up_far4, z_up_far5, z_up_far6, Classical.not_not, not_true_eq_false, z_in, z_inL, Int.cast_ofNat_Int, Nat.reduceLeDiff, List.length_cons, List.length_nil, Nat.reduceAdd, Nat.zero_add, Nat.le_refl, true_and, and_true, List.length, Nat.reduceLT, true_or, or_true, false_or, or_false, false_and, and_false, not_true_eq_false, not_false_eq_true, forall_const, false_implies, true_implies, Int.reduceEq, Int.reduceLT, Int.reduceLE, Int.reduceAdd, Int.reduceSub, Int.reduceMul, Int.reduceNeg, Int.reduceToNat, Int.toNat_natCast, ↓reduceIte, reduceIte, Nat.reduceEqDiff, Nat.reduceSub, Nat.reduceMul, ne_eq, Int.zero_add, Int.add_zero, Int.sub_zero, Nat.add_zero, Int.ofNat_eq_natCast, tX9_set_0, SX5_isRow, SX5_isThere, SX9_found, g1]
    repeat' (first | (intro _) | (with_reducible assumption) | (refine And.intro ?_ ?_))
    all_goals first | omega | assumption | (refine z_fin fin ?_ rfl; first | rfl | omega | (split <;> omega) | (split <;> split <;> omega)) | skip
  · rw [if_neg c2] at g1
    obtain ⟨g3, g4, g5⟩ := g2 (by omega)
    by_cases c3 : ¬ (0 ≤ x2 ∧ x2 < σ 91 r)
    · have fin := h (z_up σ 0 12 2) (q_up89 (by omega)) (by unfold q_fSet; rw [if_neg c1, if_neg (by rw [Int.toNat_natCast, z_up_ne (by omega)]; exact c2), if_pos (by rw [Int.toNat_natCast, z_up_ne (by omega)]; exact c3)]; exact q_R2_fnd R 2)
      simp only [q_gSet, if_neg c1, Int.toNat_natCast] at fin
      rw [if_neg (by rw [z_up_ne (by omega)]; exact c2), if_pos (by rw [z_up_ne (by omega)]; exact c3)] at fin
      refine h0 _ _ _ ?_
      simp only [z_push, z_lpush, z_iload, z_lload, z_aload, z_istore, z_istoreP, z_lstore, z_astore, z_iinc, z_iincP, z_iadd, z_isub, z_imul, z_iaddW, z_isubW, z_imulW, z_idiv, z_irem, z_iand, z_ior, z_ixor, z_ishl, z_ishr, z_iushr, z_ineg, z_i2l, z_i2b, z_i2s, z_i2c, z_l2i, z_ladd, z_lsub, z_land, z_lor, z_lshl, z_lshr, z_lcmp, z_dup, z_pop, z_dup2, z_goto, z_tsw, z_cases, z_geti, z_getr, z_puti, z_putz, z_ald, z_iast, z_bast, z_zast, z_alen, z_acopy, z_mmax, z_mmin, z_mabs, z_mabsL, z_iret, z_zret, z_nret, z_lret, z_aret, z_vret, z_cat, z_ldcs, z_strv, z_strc, z_gcs, z_gfm, z_sln, z_sald, z_ifeq, z_ifne, z_iflt, z_ifge, z_ifgt, z_ifle, z_iceq, z_icne, z_iclt, z_icge, z_icgt, z_icle, z_cs0, z_cs1, z_cs2, z_cs3, z_cs4, z_cs5, z_cs6, z_cs7, z_cv0, z_cv1, z_cv2, z_cv3, z_cv4, z_cv5, z_cv6, z_cv7, z_g0, z_s0, z_g1, z_s1, z_g2, z_s2, z_g3, z_s3, z_g4, z_s4, z_g5, z_s5, z_g6, z_s6, z_g7, z_s7, z_g8, z_s8, z_g9, z_s9, z_g10, z_s10, z_g11, z_s11, z_g12, z_s12, z_g13, z_s13, z_b0, z_b1, z_b0n, z_b1n, z_up_far1, z_up_far2, z_up_far3, z_up_far4, z_up_far5, z_up_far6, Classical.not_not, not_true_eq_false, z_in, z_inL, Int.cast_ofNat_Int, Nat.reduceLeDiff, List.length_cons, List.length_nil, Nat.reduceAdd, Nat.zero_add, Nat.le_refl, true_and, and_true, List.length, Nat.reduceLT, true_or, or_true, false_or, or_false, false_and, and_false, not_true_eq_false, not_false_eq_true, forall_const, false_implies, true_implies, Int.reduceEq, Int.reduceLT, Int.reduceLE, Int.reduceAdd, Int.reduceSub, Int.reduceMul, Int.reduceNeg, Int.reduceToNat, Int.toNat_natCast, ↓reduceIte, reduceIte, Nat.reduceEqDiff, Nat.reduceSub, Nat.reduceMul, ne_eq, Int.zero_add, Int.add_zero, Int.sub_zero, Nat.add_zero, Int.ofNat_eq_natCast, tX9_set_0, SX5_isRow, SX5_isThere, SX5_hasPlaces, SX9_found, g1, g4]
      repeat' (first | (intro _) | (with_reducible assumption) | (refine And.intro ?_ ?_))
      all_goals first | omega | assumption | (refine z_fin fin ?_ rfl; first | rfl | omega | (split <;> omega) | (split <;> split <;> omega)) | skip
    · obtain ⟨i, rfl⟩ := z_nat (show 0 ≤ x2 by omega)
      generalize hv : q_nar (σ 90 r) x3 = v
      have r2 : q_R2 (z_up (z_up σ 7 (40 * r + i) v) 0 12 0) (z_up (z_up (z_up (z_up σ 7 (40 * r + i) v) 0 12 0) 89 1 0) 92 (40 * r + i) v) := by
        refine q_R2_row R 0 (fun q hq => ?_) (fun c j h1 => ?_) (fun c j h1 h2 => ?_)
        · obtain ⟨g1, g2⟩ := R.1 q hq
          have := (m.1 q hq).2
          simp only [z_up]
          simp (disch := omega) only [if_neg, if_pos, ↓reduceIte, and_true, true_and, and_self]
          refine ⟨g1, fun hl => ⟨(g2 hl).1, (g2 hl).2.1, fun a ha => ?_⟩⟩
          by_cases e : 40 * q + a = 40 * r + i
          · rw [if_pos e, if_pos e]
          · rw [if_neg e, if_neg e]
            exact (g2 hl).2.2 a ha
        · simp only [z_up]
          rw [if_neg (show ¬ (c = 7 ∧ j = 40 * r + i) by omega)]
        · simp only [z_up]
          simp (disch := omega) only [if_neg]
      have fin := h (z_up (z_up σ 7 (40 * r + i) v) 0 12 0) (fun c hc => funext fun j => by rw [z_up_ne (by omega), z_up_ne (by omega)]) (by unfold q_fSet; rw [if_neg c1, Int.toNat_natCast, Int.toNat_natCast, z_up_ne (by omega), z_up_ne (by omega), z_up_ne (by omega), z_up_ne (by omega), if_neg c2, if_neg c3, hv]; exact r2)
      simp only [q_gSet, if_neg c1, Int.toNat_natCast] at fin
      rw [if_neg (by rw [z_up_ne (by omega), z_up_ne (by omega)]; exact c2), if_neg (by rw [z_up_ne (by omega), z_up_ne (by omega)]; exact c3), z_up_ne (by omega), z_up_ne (by omega), hv] at fin
      refine h0 _ _ _ ?_
      simp only [z_push, z_lpush, z_iload, z_lload, z_aload, z_istore, z_istoreP, z_lstore, z_astore, z_iinc, z_iincP, z_iadd, z_isub, z_imul, z_iaddW, z_isubW, z_imulW, z_idiv, z_irem, z_iand, z_ior, z_ixor, z_ishl, z_ishr, z_iushr, z_ineg, z_i2l, z_i2b, z_i2s, z_i2c, z_l2i, z_ladd, z_lsub, z_land, z_lor, z_lshl, z_lshr, z_lcmp, z_dup, z_pop, z_dup2, z_goto, z_tsw, z_cases, z_geti, z_getr, z_puti, z_putz, z_ald, z_iast, z_bast, z_zast, z_alen, z_acopy, z_mmax, z_mmin, z_mabs, z_mabsL, z_iret, z_zret, z_nret, z_lret, z_aret, z_vret, z_cat, z_ldcs, z_strv, z_strc, z_gcs, z_gfm, z_sln, z_sald, z_ifeq, z_ifne, z_iflt, z_ifge, z_ifgt, z_ifle, z_iceq, z_icne, z_iclt, z_icge, z_icgt, z_icle, z_cs0, z_cs1, z_cs2, z_cs3, z_cs4, z_cs5, z_cs6, z_cs7, z_cv0, z_cv1, z_cv2, z_cv3, z_cv4, z_cv5, z_cv6, z_cv7, z_g0, z_s0, z_g1, z_s1, z_g2, z_s2, z_g3, z_s3, z_g4, z_s4, z_g5, z_s5, z_g6, z_s6, z_g7, z_s7, z_g8, z_s8, z_g9, z_s9, z_g10, z_s10, z_g11, z_s11, z_g12, z_s12, z_g13, z_s13, z_b0, z_b1, z_b0n, z_b1n, z_up_far1, z_up_far2, z_up_far3, z_up_far4, z_up_far5, z_up_far6, Classical.not_not, not_true_eq_false, z_in, z_inL, Int.cast_ofNat_Int, Nat.reduceLeDiff, List.length_cons, List.length_nil, Nat.reduceAdd, Nat.zero_add, Nat.le_refl, true_and, and_true, List.length, Nat.reduceLT, true_or, or_true, false_or, or_false, false_and, and_false, not_true_eq_false, not_false_eq_true, forall_const, false_implies, true_implies, Int.reduceEq, Int.reduceLT, Int.reduceLE, Int.reduceAdd, Int.reduceSub, Int.reduceMul, Int.reduceNeg, Int.reduceToNat, Int.toNat_natCast, ↓reduceIte, reduceIte, Nat.reduceEqDiff, Nat.reduceSub, Nat.reduceMul, ne_eq, Int.zero_add, Int.add_zero, Int.sub_zero, Nat.add_zero, Int.ofNat_eq_natCast, tX9_set_0, SX5_isRow, SX5_isThere, SX5_hasPlaces, SX5_put, SX9_passed, g1, g3, g4, hv]
      repeat' (first | (intro _) | (with_reducible assumption) | (refine And.intro ?_ ?_))
      all_goals first | omega | assumption | (refine z_fin fin ?_ rfl; first | rfl | omega | (split <;> omega) | (split <;> split <;> omega)) | skip
theorem dX9_set_0 : decode cX9_set 0 = .ok (.iload_n 1, 1) := by decide +kernel
theorem dX9_set_1 : decode cX9_set 1 = .ok (.invokestatic 71, 3) := by decide +kernel
theorem dX9_set_4 : decode cX9_set 4 = .ok (.ifCond .ne 6, 3) := by decide +kernel
theorem dX9_set_7 : decode cX9_set 7 = .ok (.ldc 75, 2) := by decide +kernel
theorem dX9_set_9 : decode cX9_set 9 = .ok (.ireturn, 1) := by decide +kernel
theorem dX9_set_10 : decode cX9_set 10 = .ok (.aload_n 0, 1) := by decide +kernel
theorem dX9_set_11 : decode cX9_set 11 = .ok (.getfield 19, 3) := by decide +kernel
theorem dX9_set_14 : decode cX9_set 14 = .ok (.iload_n 1, 1) := by decide +kernel
theorem dX9_set_15 : decode cX9_set 15 = .ok (.invokevirtual 87, 3) := by decide +kernel
theorem dX9_set_18 : decode cX9_set 18 = .ok (.ifCond .ne 9, 3) := by decide +kernel
theorem dX9_set_21 : decode cX9_set 21 = .ok (.aload_n 0, 1) := by decide +kernel
theorem dX9_set_22 : decode cX9_set 22 = .ok (.iconst 1, 1) := by decide +kernel
theorem dX9_set_23 : decode cX9_set 23 = .ok (.invokevirtual 76, 3) := by decide +kernel
theorem dX9_set_26 : decode cX9_set 26 = .ok (.ireturn, 1) := by decide +kernel
theorem dX9_set_27 : decode cX9_set 27 = .ok (.aload_n 0, 1) := by decide +kernel
theorem dX9_set_28 : decode cX9_set 28 = .ok (.getfield 19, 3) := by decide +kernel
theorem dX9_set_31 : decode cX9_set 31 = .ok (.iload_n 1, 1) := by decide +kernel
theorem dX9_set_32 : decode cX9_set 32 = .ok (.iload_n 2, 1) := by decide +kernel
theorem dX9_set_33 : decode cX9_set 33 = .ok (.iconst 1, 1) := by decide +kernel
theorem dX9_set_34 : decode cX9_set 34 = .ok (.invokevirtual 90, 3) := by decide +kernel
theorem dX9_set_37 : decode cX9_set 37 = .ok (.ifCond .ne 9, 3) := by decide +kernel
theorem dX9_set_40 : decode cX9_set 40 = .ok (.aload_n 0, 1) := by decide +kernel
theorem dX9_set_41 : decode cX9_set 41 = .ok (.iconst 2, 1) := by decide +kernel
theorem dX9_set_42 : decode cX9_set 42 = .ok (.invokevirtual 76, 3) := by decide +kernel
theorem dX9_set_45 : decode cX9_set 45 = .ok (.ireturn, 1) := by decide +kernel
theorem dX9_set_46 : decode cX9_set 46 = .ok (.aload_n 0, 1) := by decide +kernel
theorem dX9_set_47 : decode cX9_set 47 = .ok (.aload_n 0, 1) := by decide +kernel
theorem dX9_set_48 : decode cX9_set 48 = .ok (.getfield 19, 3) := by decide +kernel
theorem dX9_set_51 : decode cX9_set 51 = .ok (.iload_n 1, 1) := by decide +kernel
theorem dX9_set_52 : decode cX9_set 52 = .ok (.iload_n 2, 1) := by decide +kernel
theorem dX9_set_53 : decode cX9_set 53 = .ok (.iload_n 3, 1) := by decide +kernel
theorem dX9_set_54 : decode cX9_set 54 = .ok (.invokevirtual 94, 3) := by decide +kernel
theorem dX9_set_57 : decode cX9_set 57 = .ok (.invokevirtual 84, 3) := by decide +kernel
theorem dX9_set_60 : decode cX9_set 60 = .ok (.ireturn, 1) := by decide +kernel
set_option maxRecDepth 100000 in
theorem rX9_set_0 {p : Program} {l : Launch} {e : Env} {s : State} {m : MethodId} {args : Array Value} {below : List Frame} {meth : Method} {c : Code} {D : va_G} {cA : Nat → ClassId} {ad : Nat → Nat} {Ret : zR} (C : z_Cx p { frames := 4, cells := 0, slots := 0, locals := 88 } s m args c cX9_set yX9_set.cls 4 D cA ad) (hr : meth.sig.returnType = (some .int)) (hlocks : meth.locks = false) : ∀ L st σ, tX9_set_0 (z_X p l e { frames := 4, cells := 0, slots := 0, locals := 88 } s m args below meth c (MQ below (z_Qc D cA ad Ret) args s 0 0 (z_A ad)) 4 D cA ad true) Ret L st σ → z_X p l e { frames := 4, cells := 0, slots := 0, locals := 88 } s m args below meth c (MQ below (z_Qc D cA ad Ret) args s 0 0 (z_A ad)) 4 D cA ad true 0 L st σ := (s_iload_n C dX9_set_0 rfl (s_cs1 C dX9_set_1 (okX5_isRow l) wd_401 wd_402 wd_77 wd_403 ⟨by decide, by decide, by decide +kernel⟩ ⟨by decide, by decide⟩ (s_ifne C dX9_set_4 (by decide) (s_aload_n C dX9_set_10 rfl (s_getr C dX9_set_11 (j := 1) cls_X9 (by decide) rfl (by decide) (by decide) (by decide +kernel) wd_358 (s_iload_n C dX9_set_14 rfl (s_cv1 C dX9_set_15 (okX5_isThere l) cls_X5 wd_423 wd_424 wd_425 wd_77 wd_426 ⟨by decide, by decide, by decide +kernel⟩ ⟨by decide, by decide⟩ (s_ifne C dX9_set_18 (by decide) (s_aload_n C dX9_set_27 rfl (s_getr C dX9_set_28 (j := 1) cls_X9 (by decide) rfl (by decide) (by decide) (by decide +kernel) wd_358 (s_iload_n C dX9_set_31 rfl (s_iload_n C dX9_set_32 rfl (s_iconst C dX9_set_33 rfl ⟨by decide, by decide⟩ (s_cv3 C dX9_set_34 (okX5_hasPlaces l) cls_X5 wd_427 wd_428 wd_429 wd_77 wd_430 ⟨by decide, by decide, by decide +kernel⟩ ⟨by decide, by decide⟩ (s_ifne C dX9_set_37 (by decide) (s_aload_n C dX9_set_46 rfl (s_aload_n C dX9_set_47 rfl (s_getr C dX9_set_48 (j := 1) cls_X9 (by decide) rfl (by decide) (by decide) (by decide +kernel) wd_358 (s_iload_n C dX9_set_51 rfl (s_iload_n C dX9_set_52 rfl (s_iload_n C dX9_set_53 rfl (s_cv3 C dX9_set_54 (okX5_put l) cls_X5 wd_432 wd_433 wd_434 wd_77 wd_435 ⟨by decide, by decide, by decide +kernel⟩ ⟨by decide, by decide⟩ (s_cv1 C dX9_set_57 (okX9_passed l) cls_X9 wd_415 wd_417 wd_1 wd_75 wd_418 ⟨by decide, by decide, by decide +kernel⟩ ⟨by decide, by decide⟩ (s_iret C dX9_set_60 hr hlocks))))))))) (s_aload_n C dX9_set_40 rfl (s_iconst C dX9_set_41 rfl ⟨by decide, by decide⟩ (s_cv1 C dX9_set_42 (okX9_found l) cls_X9 wd_405 wd_407 wd_0 wd_75 wd_408 ⟨by decide, by decide, by decide +kernel⟩ ⟨by decide, by decide⟩ (s_iret C dX9_set_45 hr hlocks))))))))))) (s_aload_n C dX9_set_21 rfl (s_iconst C dX9_set_22 rfl ⟨by decide, by decide⟩ (s_cv1 C dX9_set_23 (okX9_found l) cls_X9 wd_405 wd_407 wd_0 wd_75 wd_408 ⟨by decide, by decide, by decide +kernel⟩ ⟨by decide, by decide⟩ (s_iret C dX9_set_26 hr hlocks))))))))) (s_ldc C dX9_set_7 (v := -1000001) wd_404 ⟨by decide, by decide⟩ (s_iret C dX9_set_9 hr hlocks)))))
theorem okX9_set (l : Launch) : z_OK l yX9_set cX9_set 4 (some .int) 4 88 SX9_set := by
  refine z_ok_of true (by decide +kernel) ?_ ?_
  · intro as σ Ret h
    obtain ⟨k0, x1, x2, x3, rfl⟩ := pX9_set h
    exact ⟨Nat.le_of_ble_eq_true rfl, by simp⟩
  · intro p e s m args below meth c D cA ad Ret C hr hlocks as σ has hσ h
    obtain ⟨k0, x1, x2, x3, rfl⟩ := pX9_set h
    exact vX9_set (rX9_set_0 C hr hlocks) k0 x1 x2 x3 σ (has _ (List.mem_of_getElem? (i := 0) rfl)) (has _ (List.mem_of_getElem? (i := 1) rfl)) (has _ (List.mem_of_getElem? (i := 2) rfl)) (has _ (List.mem_of_getElem? (i := 3) rfl)) hσ h
def q_gDrop (r : Int) (τ : zM) : Int := if ¬ (0 ≤ r ∧ r < 8) then -1000001 else if τ 90 r.toNat < 0 then -1000011 else τ 91 r.toNat
def q_fDrop (r : Int) (τ : zM) : zM := if ¬ (0 ≤ r ∧ r < 8) then τ else if τ 90 r.toNat < 0 then z_up τ 89 1 1 else z_up (z_up τ 89 1 0) 90 r.toNat (-1)
def SX9_drop : zS := fun as σ Ret => match as with
  | [.inr (.inr (9, 0, _)), .inl r] => q_S9 (q_gDrop r) (q_fDrop r) σ Ret
  | _ => False
def tX9_drop_0 (X : Nat → zB) (Ret : zR) (L : zL) (st : List zV) (σ : zM) : Prop := (z_iload 1 (z_cs1 SX5_isRow (z_ifne (z_aload 0 (z_getr 9 3 5 0 (z_iload 1 (z_cv1 5 SX5_isThere (z_ifne (z_aload 0 (z_aload 0 (z_getr 9 3 5 0 (z_iload 1 (z_cv1 5 SX5_takeAway (z_cv1 9 SX9_passed (z_iret Ret))))))) (z_aload 0 (z_push 1 (z_cv1 9 SX9_found (z_iret Ret))))))))) (z_push (-1000001) (z_iret Ret))))) L st σ
theorem pX9_drop {as : List zV} {σ : zM} {Ret : zR} (h : SX9_drop as σ Ret) : ∃ (k0 : Nat) (x1 : Int), as = [.inr (.inr (9, 0, k0)), .inl x1] := by
  unfold SX9_drop at h
  split at h
  · exact ⟨_, _, rfl⟩
  · exact h.elim
set_option maxRecDepth 10000 in
set_option maxHeartbeats 4000000 in
theorem vX9_drop {X : Nat → zB} {Ret : zR} (h0 : ∀ L st σ, tX9_drop_0 X Ret L st σ → X 0 L st σ) (k0 : Nat) (x1 : Int) (σ : zM) (hk0 : z_kd k0 = (9, 0)) (hx1 : -2147483648 ≤ x1 ∧ x1 ≤ 2147483647) (hσ : z_okm σ) (h : SX9_drop [.inr (.inr (9, 0, k0)), .inl x1] σ Ret) : X 0 [some (.inr (.inr (9, 0, k0))), some (.inl x1)] [] σ := by
  obtain ⟨⟨R, m⟩, h⟩ := h
  obtain rfl := z_kd9 hk0
  by_cases c1 : ¬ (0 ≤ x1 ∧ x1 < 8)
  · have fin := h σ (fun _ _ => rfl) (by unfold q_fDrop; rw [if_pos c1]; exact R)
    simp only [q_gDrop, if_pos c1] at fin
    refine h0 _ _ _ ?_
    simp only [z_push, z_lpush, z_iload, z_lload, z_aload, z_istore, z_istoreP, z_lstore, z_astore, z_iinc, z_iincP, z_iadd, z_isub, z_imul, z_iaddW, z_isubW, z_imulW, z_idiv, z_irem, z_iand, z_ior, z_ixor, z_ishl, z_ishr, z_iushr, z_ineg, z_i2l, z_i2b, z_i2s, z_i2c, z_l2i, z_ladd, z_lsub, z_land, z_lor, z_lshl, z_lshr, z_lcmp, z_dup, z_pop, z_dup2, z_goto, z_tsw, z_cases, z_geti, z_getr, z_puti, z_putz, z_ald, z_iast, z_bast, z_zast, z_alen, z_acopy, z_mmax, z_mmin, z_mabs, z_mabsL, z_iret, z_zret, z_nret, z_lret, z_aret, z_vret, z_cat, z_ldcs, z_strv, z_strc, z_gcs, z_gfm, z_sln, z_sald, z_ifeq, z_ifne, z_iflt, z_ifge, z_ifgt, z_ifle, z_iceq, z_icne, z_iclt, z_icge, z_icgt, z_icle, z_cs0, z_cs1, z_cs2, z_cs3, z_cs4, z_cs5, z_cs6, z_cs7, z_cv0, z_cv1, z_cv2, z_cv3, z_cv4, z_cv5, z_cv6, z_cv7, z_g0, z_s0, z_g1, z_s1, z_g2, z_s2, z_g3, z_s3, z_g4, z_s4, z_g5, z_s5, z_g6, z_s6, z_g7, z_s7, z_g8, z_s8, z_g9, z_s9, z_g10, z_s10, z_g11, z_s11, z_g12, z_s12, z_g13, z_s13, z_b0, z_b1, z_b0n, z_b1n, z_up_far1, z_up_far2, z_up_far3, z_up_far4, z_up_far5, z_up_far6, Classical.not_not, not_true_eq_false, z_in, z_inL, Int.cast_ofNat_Int, Nat.reduceLeDiff, List.length_cons, List.length_nil, Nat.reduceAdd, Nat.zero_add, Nat.le_refl, true_and, and_true, List.length, Nat.reduceLT, true_or, or_true, false_or, or_false, false_and, and_false, not_true_eq_false, not_false_eq_true, forall_const, false_implies, true_implies, Int.reduceEq, Int.reduceLT, Int.reduceLE, Int.reduceAdd, Int.reduceSub, Int.reduceMul, Int.reduceNeg, Int.reduceToNat, Int.toNat_natCast, ↓reduceIte, reduceIte, Nat.reduceEqDiff, Nat.reduceSub, Nat.reduceMul, ne_eq, Int.zero_add, Int.add_zero, Int.sub_zero, Nat.add_zero, Int.ofNat_eq_natCast, tX9_drop_0, SX5_isRow]
    repeat' (first | (intro _) | (with_reducible assumption) | (refine And.intro ?_ ?_))
    all_goals first | omega | assumption | (refine z_fin fin ?_ rfl; first | rfl | omega | (split <;> omega) | (split <;> split <;> omega)) | skip
  obtain ⟨r, rfl⟩ := z_nat (show 0 ≤ x1 by omega)
  have hr : r < 8 := by omega
  obtain ⟨g1, g2⟩ := R.1 r hr
  obtain ⟨m1, m2⟩ := m.1 r hr
  by_cases c2 : σ 90 r < 0
  · rw [if_pos c2] at g1
    have fin := h (z_up σ 0 12 1) (q_up89 (by omega)) (by unfold q_fDrop; rw [if_neg c1, if_pos (by rw [Int.toNat_natCast, z_up_ne (by omega)]; exact c2)]; exact q_R2_fnd R 1)
    simp only [q_gDrop, if_neg c1, Int.toNat_natCast] at fin
    rw [if_pos (by rw [z_up_ne (by omega)]; exact c2)] at fin
    refine h0 _ _ _ ?_
    simp only [z_push, z_lpush, z_iload, z_lload, z_aload, z_istore, z_istoreP, z_lstore, z_astore, z_iinc, z_iincP, z_iadd, z_isub, z_imul, z_iaddW, z_isubW, z_imulW, z_idiv, z_irem, z_iand, z_ior, z_ixor, z_ishl, z_ishr, z_iushr, z_ineg, z_i2l, z_i2b, z_i2s, z_i2c, z_l2i, z_ladd, z_lsub, z_land, z_lor, z_lshl, z_lshr, z_lcmp, z_dup, z_pop, z_dup2, z_goto, z_tsw, z_cases, z_geti, z_getr, z_puti, z_putz, z_ald, z_iast, z_bast, z_zast, z_alen, z_acopy, z_mmax, z_mmin, z_mabs, z_mabsL, z_iret, z_zret, z_nret, z_lret, z_aret, z_vret, z_cat, z_ldcs, z_strv, z_strc, z_gcs, z_gfm, z_sln, z_sald, z_ifeq, z_ifne, z_iflt, z_ifge, z_ifgt, z_ifle, z_iceq, z_icne, z_iclt, z_icge, z_icgt, z_icle, z_cs0, z_cs1, z_cs2, z_cs3, z_cs4, z_cs5, z_cs6, z_cs7, z_cv0, z_cv1, z_cv2, z_cv3, z_cv4, z_cv5, z_cv6, z_cv7, z_g0, z_s0, z_g1, z_s1, z_g2, z_s2, z_g3, z_s3, z_g4, z_s4, z_g5, z_s5, z_g6, z_s6, z_g7, z_s7, z_g8, z_s8, z_g9, z_s9, z_g10, z_s10, z_g11, z_s11, z_g12, z_s12, z_g13, z_s13, z_b0, z_b1, z_b0n, z_b1n, z_up_far1, z_up_far2, z_up_far3, z_up_far4, z_up_far5, z_up_far6, Classical.not_not, not_true_eq_false, z_in, z_inL, Int.cast_ofNat_Int, Nat.reduceLeDiff, List.length_cons, List.length_nil, Nat.reduceAdd, Nat.zero_add, Nat.le_refl, true_and, and_true, List.length, Nat.reduceLT, true_or, or_true, false_or, or_false, false_and, and_false, not_true_eq_false, not_false_eq_true, forall_const, false_implies, true_implies, Int.reduceEq, Int.reduceLT, Int.reduceLE, Int.reduceAdd, Int.reduceSub, Int.reduceMul, Int.reduceNeg, Int.reduceToNat, Int.toNat_natCast, ↓reduceIte, reduceIte, Nat.reduceEqDiff, Nat.reduceSub, Nat.reduceMul, ne_eq, Int.zero_add, Int.add_zero, Int.sub_zero, Nat.add_zero, Int.ofNat_eq_natCast, tX9_drop_0, SX5_isRow, SX5_isThere, SX9_found, g1]
    repeat' (first | (intro _) | (with_reducible assumption) | (refine And.intro ?_ ?_))
    all_goals first | omega | assumption | (refine z_fin fin ?_ rfl; first | rfl | omega | (split <;> omega) | (split <;> split <;> omega)) | skip
  · rw [if_neg c2] at g1
    obtain ⟨g3, g4, g5⟩ := g2 (by omega)
    have r2 : q_R2 (z_up (z_up σ 4 r 0) 0 12 0) (z_up (z_up (z_up (z_up σ 4 r 0) 0 12 0) 89 1 0) 90 r (-1)) := by
      refine q_R2_row R 0 (fun q hq => ?_) (fun c j h1 => ?_) (fun c j h1 h2 => ?_)
      · simp only [z_up]
        by_cases e : q = r
        · subst e
          simp (disch := omega) only [if_neg, if_pos, ↓reduceIte, and_true, true_and, and_self]
          exact fun hl => absurd hl (by omega)
        · obtain ⟨g1, g2⟩ := R.1 q hq
          simp (disch := omega) only [if_neg, if_pos, ↓reduceIte, and_true, true_and, and_self]
          exact ⟨g1, g2⟩
      · simp only [z_up]
        rw [if_neg (show ¬ (c = 4 ∧ j = r) by omega)]
      · simp only [z_up]
        simp (disch := omega) only [if_neg]
    have fin := h (z_up (z_up σ 4 r 0) 0 12 0) (fun c hc => funext fun j => by rw [z_up_ne (by omega), z_up_ne (by omega)]) (by unfold q_fDrop; rw [if_neg c1, Int.toNat_natCast, z_up_ne (by omega), z_up_ne (by omega), if_neg c2]; exact r2)
    simp only [q_gDrop, if_neg c1, Int.toNat_natCast] at fin
    rw [if_neg (by rw [z_up_ne (by omega), z_up_ne (by omega)]; exact c2), z_up_ne (by omega), z_up_ne (by omega), ← g4] at fin
    refine h0 _ _ _ ?_
    simp only [z_push, z_lpush, z_iload, z_lload, z_aload, z_istore, z_istoreP, z_lstore, z_astore, z_iinc, z_iincP, z_iadd, z_isub, z_imul, z_iaddW, z_isubW, z_imulW, z_idiv, z_irem, z_iand, z_ior, z_ixor, z_ishl, z_ishr, z_iushr, z_ineg, z_i2l, z_i2b, z_i2s, z_i2c, z_l2i, z_ladd, z_lsub, z_land, z_lor, z_lshl, z_lshr, z_lcmp, z_dup, z_pop, z_dup2, z_goto, z_tsw, z_cases, z_geti, z_getr, z_puti, z_putz, z_ald, z_iast, z_bast, z_zast, z_alen, z_acopy, z_mmax, z_mmin, z_mabs, z_mabsL, z_iret, z_zret, z_nret, z_lret, z_aret, z_vret, z_cat, z_ldcs, z_strv, z_strc, z_gcs, z_gfm, z_sln, z_sald, z_ifeq, z_ifne, z_iflt, z_ifge, z_ifgt, z_ifle, z_iceq, z_icne, z_iclt, z_icge, z_icgt, z_icle, z_cs0, z_cs1, z_cs2, z_cs3, z_cs4, z_cs5, z_cs6, z_cs7, z_cv0, z_cv1, z_cv2, z_cv3, z_cv4, z_cv5, z_cv6, z_cv7, z_g0, z_s0, z_g1, z_s1, z_g2, z_s2, z_g3, z_s3, z_g4, z_s4, z_g5, z_s5, z_g6, z_s6, z_g7, z_s7, z_g8, z_s8, z_g9, z_s9, z_g10, z_s10, z_g11, z_s11, z_g12, z_s12, z_g13, z_s13, z_b0, z_b1, z_b0n, z_b1n, z_up_far1, z_up_far2, z_up_far3, z_up_far4, z_up_far5, z_up_far6, Classical.not_not, not_true_eq_false, z_in, z_inL, Int.cast_ofNat_Int, Nat.reduceLeDiff, List.length_cons, List.length_nil, Nat.reduceAdd, Nat.zero_add, Nat.le_refl, true_and, and_true, List.length, Nat.reduceLT, true_or, or_true, false_or, or_false, false_and, and_false, not_true_eq_false, not_false_eq_true, forall_const, false_implies, true_implies, Int.reduceEq, Int.reduceLT, Int.reduceLE, Int.reduceAdd, Int.reduceSub, Int.reduceMul, Int.reduceNeg, Int.reduceToNat, Int.toNat_natCast, ↓reduceIte, reduceIte, Nat.reduceEqDiff, Nat.reduceSub, Nat.reduceMul, ne_eq, Int.zero_add, Int.add_zero, Int.sub_zero, Nat.add_zero, Int.ofNat_eq_natCast, tX9_drop_0, SX5_isRow, SX5_isThere, SX5_takeAway, SX9_passed, g1]
    repeat' (first | (intro _) | (with_reducible assumption) | (refine And.intro ?_ ?_))
    all_goals first | omega | assumption | (refine z_fin fin ?_ rfl; first | rfl | omega | (split <;> omega) | (split <;> split <;> omega)) | skip
theorem dX9_drop_0 : decode cX9_drop 0 = .ok (.iload_n 1, 1) := by decide +kernel
theorem dX9_drop_1 : decode cX9_drop 1 = .ok (.invokestatic 71, 3) := by decide +kernel
theorem dX9_drop_4 : decode cX9_drop 4 = .ok (.ifCond .ne 6, 3) := by decide +kernel
theorem dX9_drop_7 : decode cX9_drop 7 = .ok (.ldc 75, 2) := by decide +kernel
theorem dX9_drop_9 : decode cX9_drop 9 = .ok (.ireturn, 1) := by decide +kernel
theorem dX9_drop_10 : decode cX9_drop 10 = .ok (.aload_n 0, 1) := by decide +kernel
theorem dX9_drop_11 : decode cX9_drop 11 = .ok (.getfield 19, 3) := by decide +kernel
theorem dX9_drop_14 : decode cX9_drop 14 = .ok (.iload_n 1, 1) := by decide +kernel
theorem dX9_drop_15 : decode cX9_drop 15 = .ok (.invokevirtual 87, 3) := by decide +kernel
theorem dX9_drop_18 : decode cX9_drop 18 = .ok (.ifCond .ne 9, 3) := by decide +kernel
theorem dX9_drop_21 : decode cX9_drop 21 = .ok (.aload_n 0, 1) := by decide +kernel
theorem dX9_drop_22 : decode cX9_drop 22 = .ok (.iconst 1, 1) := by decide +kernel
theorem dX9_drop_23 : decode cX9_drop 23 = .ok (.invokevirtual 76, 3) := by decide +kernel
theorem dX9_drop_26 : decode cX9_drop 26 = .ok (.ireturn, 1) := by decide +kernel
theorem dX9_drop_27 : decode cX9_drop 27 = .ok (.aload_n 0, 1) := by decide +kernel
theorem dX9_drop_28 : decode cX9_drop 28 = .ok (.aload_n 0, 1) := by decide +kernel
theorem dX9_drop_29 : decode cX9_drop 29 = .ok (.getfield 19, 3) := by decide +kernel
theorem dX9_drop_32 : decode cX9_drop 32 = .ok (.iload_n 1, 1) := by decide +kernel
theorem dX9_drop_33 : decode cX9_drop 33 = .ok (.invokevirtual 106, 3) := by decide +kernel
theorem dX9_drop_36 : decode cX9_drop 36 = .ok (.invokevirtual 84, 3) := by decide +kernel
theorem dX9_drop_39 : decode cX9_drop 39 = .ok (.ireturn, 1) := by decide +kernel
set_option maxRecDepth 100000 in
theorem rX9_drop_0 {p : Program} {l : Launch} {e : Env} {s : State} {m : MethodId} {args : Array Value} {below : List Frame} {meth : Method} {c : Code} {D : va_G} {cA : Nat → ClassId} {ad : Nat → Nat} {Ret : zR} (C : z_Cx p { frames := 3, cells := 0, slots := 0, locals := 62 } s m args c cX9_drop yX9_drop.cls 2 D cA ad) (hr : meth.sig.returnType = (some .int)) (hlocks : meth.locks = false) : ∀ L st σ, tX9_drop_0 (z_X p l e { frames := 3, cells := 0, slots := 0, locals := 62 } s m args below meth c (MQ below (z_Qc D cA ad Ret) args s 0 0 (z_A ad)) 2 D cA ad true) Ret L st σ → z_X p l e { frames := 3, cells := 0, slots := 0, locals := 62 } s m args below meth c (MQ below (z_Qc D cA ad Ret) args s 0 0 (z_A ad)) 2 D cA ad true 0 L st σ := (s_iload_n C dX9_drop_0 rfl (s_cs1 C dX9_drop_1 (okX5_isRow l) wd_401 wd_402 wd_77 wd_403 ⟨by decide, by decide, by decide +kernel⟩ ⟨by decide, by decide⟩ (s_ifne C dX9_drop_4 (by decide) (s_aload_n C dX9_drop_10 rfl (s_getr C dX9_drop_11 (j := 1) cls_X9 (by decide) rfl (by decide) (by decide) (by decide +kernel) wd_358 (s_iload_n C dX9_drop_14 rfl (s_cv1 C dX9_drop_15 (okX5_isThere l) cls_X5 wd_423 wd_424 wd_425 wd_77 wd_426 ⟨by decide, by decide, by decide +kernel⟩ ⟨by decide, by decide⟩ (s_ifne C dX9_drop_18 (by decide) (s_aload_n C dX9_drop_27 rfl (s_aload_n C dX9_drop_28 rfl (s_getr C dX9_drop_29 (j := 1) cls_X9 (by decide) rfl (by decide) (by decide) (by decide +kernel) wd_358 (s_iload_n C dX9_drop_32 rfl (s_cv1 C dX9_drop_33 (okX5_takeAway l) cls_X5 wd_456 wd_457 wd_458 wd_77 wd_459 ⟨by decide, by decide, by decide +kernel⟩ ⟨by decide, by decide⟩ (s_cv1 C dX9_drop_36 (okX9_passed l) cls_X9 wd_415 wd_417 wd_1 wd_75 wd_418 ⟨by decide, by decide, by decide +kernel⟩ ⟨by decide, by decide⟩ (s_iret C dX9_drop_39 hr hlocks))))))) (s_aload_n C dX9_drop_21 rfl (s_iconst C dX9_drop_22 rfl ⟨by decide, by decide⟩ (s_cv1 C dX9_drop_23 (okX9_found l) cls_X9 wd_405 wd_407 wd_0 wd_75 wd_408 ⟨by decide, by decide, by decide +kernel⟩ ⟨by decide, by decide⟩ (s_iret C dX9_drop_26 hr hlocks))))))))) (s_ldc C dX9_drop_7 (v := -1000001) wd_404 ⟨by decide, by decide⟩ (s_iret C dX9_drop_9 hr hlocks)))))
theorem okX9_drop (l : Launch) : z_OK l yX9_drop cX9_drop 2 (some .int) 3 62 SX9_drop := by
  refine z_ok_of true (by decide +kernel) ?_ ?_
  · intro as σ Ret h
    obtain ⟨k0, x1, rfl⟩ := pX9_drop h
    exact ⟨Nat.le_of_ble_eq_true rfl, by simp⟩
  · intro p e s m args below meth c D cA ad Ret C hr hlocks as σ has hσ h
    obtain ⟨k0, x1, rfl⟩ := pX9_drop h
    exact vX9_drop (rX9_drop_0 C hr hlocks) k0 x1 σ (has _ (List.mem_of_getElem? (i := 0) rfl)) (has _ (List.mem_of_getElem? (i := 1) rfl)) hσ h
