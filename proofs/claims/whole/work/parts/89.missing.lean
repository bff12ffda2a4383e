/-! which trees were cut, asked of the program -/
def q_msP (τ : zM) (w r n s : Nat) : Bool := q_left s (fun k => q_tnD (τ 93) ((q_lsD (τ 93) w).getD k 0)) (fun y => τ 92 (40 * r + y)) (fun k => (q_lsD (τ 93) w).getD k 0) (q_lsD (τ 93) w).length n
def q_gMissing (w r n i : Int) (τ : zM) : Int := if ¬ ((0 ≤ w ∧ w < τ 93 1) ∧ (0 ≤ r ∧ r < 8) ∧ (0 ≤ n ∧ n ≤ 12) ∧ -1 ≤ i) then -1000001 else if τ 90 r.toNat < 0 then -1000011 else if ¬ n ≤ τ 91 r.toNat then -1000012 else if i < 0 then z_sumf (fun s => q_one (q_msP τ w.toNat r.toNat n.toNat s)) 4096 else q_nthI (q_nth (q_msP τ w.toNat r.toNat n.toNat) i 4096)
def q_fMissing (w r n i : Int) (τ : zM) : zM := if ¬ ((0 ≤ w ∧ w < τ 93 1) ∧ (0 ≤ r ∧ r < 8) ∧ (0 ≤ n ∧ n ≤ 12) ∧ -1 ≤ i) then τ else if τ 90 r.toNat < 0 then z_up τ 89 1 1 else if ¬ n ≤ τ 91 r.toNat then z_up τ 89 1 2 else z_up τ 89 1 0
def SX9_missing : zS := fun as σ Ret => match as with
  | [.inr (.inr (9, 0, _)), .inl w, .inl r, .inl n, .inl i] => q_S9 (q_gMissing w r n i) (q_fMissing w r n i) σ Ret
  | _ => False
def tX9_missing_0 (X : Nat → zB) (Ret : zR) (L : zL) (st : List zV) (σ : zM) : Prop := (z_aload 0 (z_getr 9 8 8 0 (z_getr 8 8 7 0 (z_iload 1 (z_cv1 7 SX7_has (z_ifeq (z_push (-1000001) (z_iret Ret)) (z_iload 2 (z_cs1 SX5_isRow (z_ifeq (z_push (-1000001) (z_iret Ret)) (z_iload 3 (z_iflt (z_push (-1000001) (z_iret Ret)) (z_iload 3 (z_push 12 (z_icgt (z_push (-1000001) (z_iret Ret)) (z_iload 4 (z_push (-1) (z_icge (z_aload 0 (z_getr 9 3 5 0 (z_iload 2 (z_cv1 5 SX5_isThere (z_ifne (z_aload 0 (z_getr 9 3 5 0 (z_iload 2 (z_push 0 (z_iload 3 (z_cv3 5 SX5_hasPlaces (z_ifne (z_aload 0 (z_getr 9 3 5 0 (z_iload 2 (z_push 0 (z_aload 0 (z_getr 9 88 100 20 (z_iload 3 (z_cv4 5 SX5_read (z_aload 0 (z_getr 9 80 3 0 (z_aload 0 (z_getr 9 8 8 0 (z_iload 1 (z_cv2 3 SX3_listen (z_aload 0 (z_iload 4 (z_ifge (z_aload 0 (z_getr 9 80 3 0 (z_aload 0 (z_getr 9 88 100 20 (z_iload 3 (z_iload 4 (z_cv3 3 SX3_missingSet (z_cv1 9 SX9_passed (z_iret Ret))))))))) (z_aload 0 (z_getr 9 80 3 0 (z_aload 0 (z_getr 9 88 100 20 (z_iload 3 (z_cv2 3 SX3_countMissing (z_goto (z_cv1 9 SX9_passed (z_iret Ret)))))))))))))))))))))))))) (z_aload 0 (z_push 2 (z_cv1 9 SX9_found (z_iret Ret))))))))))) (z_aload 0 (z_push 1 (z_cv1 9 SX9_found (z_iret Ret))))))))) (z_push (-1000001) (z_iret Ret))))))))))))))))))) L st σ
theorem pX9_missing {as : List zV} {σ : zM} {Ret : zR} (h : SX9_missing as σ Ret) : ∃ (k0 : Nat) (x1 : Int) (x2 : Int) (x3 : Int) (x4 : Int), as = [.inr (.inr (9, 0, k0)), .inl x1, .inl x2, .inl x3, .inl x4] := by
  unfold SX9_missing at h
  split at h
  · exact ⟨_, _, _, _, _, rfl⟩
  · exact h.elim
set_option maxRecDepth 10000 in
set_option maxHeartbeats 4000000 in
theorem vX9_missing {X : Nat → zB} {Ret : zR} (h0 : ∀ L st σ, tX9_missing_0 X Ret L st σ → X 0 L st σ) (k0 : Nat) (x1 : Int) (x2 : Int) (x3 : Int) (x4 : Int) (σ : zM) (hk0 : z_kd k0 = (9, 0)) (hx1 : -2147483648 ≤ x1 ∧ x1 ≤ 2147483647) (hx2 : -2147483648 ≤ x2 ∧ x2 ≤ 2147483647) (hx3 : -2147483648 ≤ x3 ∧ x3 ≤ 2147483647) (hx4 : -2147483648 ≤ x4 ∧ x4 ≤ 2147483647) (hσ : z_okm σ) (h : SX9_missing [.inr (.inr (9, 0, k0)), .inl x1, .inl x2, .inl x3, .inl x4] σ Ret) : X 0 [some (.inr (.inr (9, 0, k0))), some (.inl x1), some (.inl x2), some (.inl x3), some (.inl x4)] [] σ := by
  obtain ⟨⟨R, m⟩, h⟩ := h
  obtain rfl := z_kd9 hk0
  have W := R.2.2.2.2.1.1
  have K := m.2.1.1
  have W1 : σ 16 3 = σ 93 1 := W.1.2.1.1
  have K1 := K.1.2.1
  by_cases c1 : ¬ ((0 ≤ x1 ∧ x1 < σ 93 1) ∧ (0 ≤ x2 ∧ x2 < 8) ∧ (0 ≤ x3 ∧ x3 ≤ 12) ∧ -1 ≤ x4)
  · have fin := h σ (fun _ _ => rfl) (by unfold q_fMissing; rw [if_pos c1]; exact R)
    simp only [q_gMissing, if_pos c1] at fin
    refine h0 _ _ _ ?_
    simp only [z_push, z_lpush, z_iload, z_lload, z_aload, z_istore, z_istoreP, z_lstore, z_astore, z_iinc, z_iincP, z_iadd, z_isub, z_imul, z_iaddW, z_isubW, z_imulW, z_idiv, z_irem, z_iand, z_ior, z_ixor, z_ishl, z_ishr, z_iushr, z_ineg, z_i2l, z_i2b, z_i2s, z_i2c, z_l2i, z_ladd, z_lsub, z_land, z_lor, z_lshl, z_lshr, z_lcmp, z_dup, z_pop, z_dup2, z_goto, z_tsw, z_cases, z_geti, z_getr, z_puti, z_putz, z_ald, z_iast, z_bast, z_zast, z_alen, z_acopy, z_mmax, z_mmin, z_mabs, z_mabsL, z_iret, z_zret, z_nret, z_lret, z_aret, z_vret, z_cat, z_ldcs, z_strv, z_strc, z_gcs, z_gfm, z_sln, z_sald, z_ifeq, z_ifne, z_iflt, z_ifge, z_ifgt, z_ifle, z_iceq, z_icne, z_iclt, z_icge, z_icgt, z_icle, z_cs0, z_cs1, z_cs2, z_cs3, z_cs4, z_cs5, z_cs6, z_cs7, z_cv0, z_cv1, z_cv2, z_cv3, z_cv4, z_cv5, z_cv6, z_cv7, z_g0, z_s0, z_g1, z_s1, z_g2, z_s2, z_g3, z_s3, z_g4, z_s4, z_g5, z_s5, z_g6, z_s6, z_g7, z_s7, z_g8, z_s8, z_g9, z_s9, z_g10, z_s10, z_g11, z_s11, z_g12, z_s12, z_g13, z_s13, z_b0, z_b1, z_b0n, z_b1n, z_up_far1, z_up_far2, z_up_far3, z_up_far4, z_up_far5, z_up_far6, Classical.not_not, not_true_eq_false, z_in, z_inL, Int.cast_ofNat_Int, Nat.reduceLeDiff, List.length_cons, List.length_nil, Nat.reduceAdd, Nat.zero_add, Nat.le_refl, true_and, and_true, List.length, Nat.reduceLT, true_or, or_true, false_or, or_false, false_and, and_false, not_true_eq_false, not_false_eq_true, forall_const, false_implies, true_implies, Int.reduceEq, Int.reduceLT, Int.reduceLE, Int.reduceAdd, Int.reduceSub, Int.reduceMul, Int.reduceNeg, Int.reduceToNat, Int.toNat_natCast, ↓reduceIte, reduceIte, Nat.reduceEqDiff, Nat.reduceSub, Nat.reduceMul, ne_eq, Int.zero_add, Int.add_zero, Int.sub_zero, Nat.add_zero, Int.ofNat_eq_natCast, tX9_missing_0, SX7_has, SX5_isRow, W1]
    repeat' (first | (intro _) | (with_reducible assumption) | (refine And.intro ?_ ?_))
    all_goals first | omega | assumption | (refine z_fin fin ?_ rfl; first | rfl | omega | (split <;> omega) | (split <;> split <;> omega)) | skip
  obtain ⟨r, rfl⟩ := z_nat (show 0 ≤ x2 by omega)
  obtain ⟨w, rfl⟩ := z_nat (show 0 ≤ x1 by omega)
  obtain ⟨n, rfl⟩ := z_nat (show 0 ≤ x3 by omega)
  obtain ⟨g1, g2⟩ := R.1 r (by omega)
  have mr := m.1 r (by omega)
  by_cases c2 : σ 90 r < 0
  · have fin := h (z_up σ 0 12 1) (q_up89 (by omega)) (by unfold q_fMissing; rw [q_up89 (by omega) 93 (by omega), q_up89 (by omega) 90 (by omega), if_neg c1, Int.toNat_natCast, if_pos c2]; exact q_R2_fnd R 1)
    simp only [q_gMissing, q_up89 (show 0 < 89 by omega) 93 (by omega), q_up89 (show 0 < 89 by omega) 90 (by omega), if_neg c1, Int.toNat_natCast, if_pos c2] at fin
    rw [if_pos c2] at g1
    refine h0 _ _ _ ?_
    simp only [z_push, z_lpush, z_iload, z_lload, z_aload, z_istore, z_istoreP, z_lstore, z_astore, z_iinc, z_iincP, z_iadd, z_isub, z_imul, z_iaddW, z_isubW, z_imulW, z_idiv, z_irem, z_iand, z_ior, z_ixor, z_ishl, z_ishr, z_iushr, z_ineg, z_i2l, z_i2b, z_i2s, z_i2c, z_l2i, z_ladd, z_lsub, z_land, z_lor, z_lshl, z_lshr, z_lcmp, z_dup, z_pop, z_dup2, z_goto, z_tsw, z_cases, z_geti, z_getr, z_puti, z_putz, z_ald, z_iast, z_bast, z_zast, z_alen, z_acopy, z_mmax, z_mmin, z_mabs, z_mabsL, z_iret, z_zret, z_nret, z_lret, z_aret, z_vret, z_cat, z_ldcs, z_strv, z_strc, z_gcs, z_gfm, z_sln, z_sald, z_ifeq, z_ifne, z_iflt, z_ifge, z_ifgt, z_ifle, z_iceq, z_icne, z_iclt, z_icge, z_icgt, z_icle, z_cs0, z_cs1, z_cs2, z_cs3, z_cs4, z_cs5, z_cs6, z_cs7, z_cv0, z_cv1, z_cv2, z_cv3, z_cv4, z_cv5, z_cv6, z_cv7, z_g0, z_s0, z_g1, z_s1, z_g2, z_s2, z_g3, z_s3, z_g4, z_s4, z_g5, z_s5, z_g6, z_s6, z_g7, z_s7, z_g8, z_s8, z_g9, z_s9, z_g10, z_s10, z_g11, z_s11, z_g12, z_s12, z_g13, z_s13, z_b0, z_b1, z_b0n, z_b1n, z_up_far1, z_up_far2, z_up_far3, z_up_far4, z_up_far5, z_up_far6, Classical.not_not, not_true_eq_false, z_in, z_inL, Int.cast_ofNat_Int, Nat.reduceLeDiff, List.length_cons, List.length_nil, Nat.reduceAdd, Nat.zero_add, Nat.le_refl, true_and, and_true, List.length, Nat.reduceLT, true_or, or_true, false_or, or_false, false_and, and_false, not_true_eq_false, not_false_eq_true, forall_const, false_implies, true_implies, Int.reduceEq, Int.reduceLT, Int.reduceLE, Int.reduceAdd, Int.reduceSub, Int.reduceMul, Int.reduceNeg, Int.reduceToNat, Int.toNat_natCast, ↓reduceIte, reduceIte, Nat.reduceEqDiff, Nat.reduceSub, Nat.reduceMul, ne_eq, Int.zero_add, Int.add_zero, Int.sub_zero, Nat.add_zero, Int.ofNat_eq_natCast, tX9_missing_0, SX7_has, SX5_isRow, SX5_isThere, SX9_found, W1, g1]
    repeat' (first | (intro _) | (with_reducible assumption) | (refine And.intro ?_ ?_))
    all_goals first | omega | assumption | (refine z_fin fin ?_ rfl; first | rfl | omega | (split <;> omega) | (split <;> split <;> omega)) | skip
  rw [if_neg c2] at g1
  obtain ⟨g3, g4, g5⟩ := g2 (by omega)
  by_cases c3 : ¬ (n : Int) ≤ σ 91 r
  · have fin := h (z_up σ 0 12 2) (q_up89 (by omega)) (by unfold q_fMissing; rw [q_up89 (by omega) 93 (by omega), q_up89 (by omega) 90 (by omega), q_up89 (by omega) 91 (by omega), if_neg c1, Int.toNat_natCast, if_neg c2, if_pos c3]; exact q_R2_fnd R 2)
    simp only [q_gMissing, q_up89 (show 0 < 89 by omega) 93 (by omega), q_up89 (show 0 < 89 by omega) 90 (by omega), q_up89 (show 0 < 89 by omega) 91 (by omega), if_neg c1, Int.toNat_natCast, if_neg c2, if_pos c3] at fin
    refine h0 _ _ _ ?_
    simp only [z_push, z_lpush, z_iload, z_lload, z_aload, z_istore, z_istoreP, z_lstore, z_astore, z_iinc, z_iincP, z_iadd, z_isub, z_imul, z_iaddW, z_isubW, z_imulW, z_idiv, z_irem, z_iand, z_ior, z_ixor, z_ishl, z_ishr, z_iushr, z_ineg, z_i2l, z_i2b, z_i2s, z_i2c, z_l2i, z_ladd, z_lsub, z_land, z_lor, z_lshl, z_lshr, z_lcmp, z_dup, z_pop, z_dup2, z_goto, z_tsw, z_cases, z_geti, z_getr, z_puti, z_putz, z_ald, z_iast, z_bast, z_zast, z_alen, z_acopy, z_mmax, z_mmin, z_mabs, z_mabsL, z_iret, z_zret, z_nret, z_lret, z_aret, z_vret, z_cat, z_ldcs, z_strv, z_strc, z_gcs, z_gfm, z_sln, z_sald, z_ifeq, z_ifne, z_iflt, z_ifge, z_ifgt, z_ifle, z_iceq, z_icne, z_iclt, z_icge, z_icgt, z_icle, z_cs0, z_cs1, z_cs2, z_cs3, z_cs4, z_cs5, z_cs6, z_cs7, z_cv0, z_cv1, z_cv2, z_cv3, z_cv4, z_cv5, z_cv6, z_cv7, z_g0, z_s0, z_g1, z_s1, z_g2, z_s2, z_g3, z_s3, z_g4, z_s4, z_g5, z_s5, z_g6, z_s6, z_g7, z_s7, z_g8, z_s8, z_g9, z_s9, z_g10, z_s10, z_g11, z_s11, z_g12, z_s12, z_g13, z_s13, z_b0, z_b1, z_b0n, z_b1n, z_up_far1, z_up_far2, z_up_far3, z_up_far4, z_up_far5, z_up_far6, Classical.not_not, not_true_eq_false, z_in, z_inL, Int.cast_ofNat_Int, Nat.reduceLeDiff, List.length_cons, List.length_nil, Nat.reduceAdd, Nat.zero_add, Nat.le_refl, true_and, and_true, List.length, Nat.reduceLT, true_or, or_true, false_or, or_false, false_and, and_false, not_true_eq_false, not_false_eq_true, forall_const, false_implies, true_implies, Int.reduceEq, Int.reduceLT, Int.reduceLE, Int.reduceAdd, Int.reduceSub, Int.reduceMul, Int.reduceNeg, Int.reduceToNat, Int.toNat_natCast, ↓reduceIte, reduceIte, Nat.reduceEqDiff, Nat.reduceSub, Nat.reduceMul, ne_eq, Int.zero_add, Int.add_zero, Int.sub_zero, Nat.add_zero, Int.ofNat_eq_natCast, tX9_missing_0, SX7_has, SX5_isRow, SX5_isThere, SX5_hasPlaces, SX9_found, W1, g1, g4]
    repeat' (first | (intro _) | (with_reducible assumption) | (refine And.intro ?_ ?_))
    all_goals first | omega | assumption | (refine z_fin fin ?_ rfl; first | rfl | omega | (split <;> omega) | (split <;> split <;> omega)) | skip
  have ab : ∀ {P : Prop}, False → P := fun f => f.elim
  generalize hC : z_cpy σ 7 (40 * r) 88 0 n = C
  have cn : ∀ c j, c ≠ 88 → C c j = σ c j := fun c j hc => by subst hC; exact z_cpy_ne hc
  have c88 : ∀ k, k < n → C 88 k = σ 92 (40 * r + k) := fun k hk => by
    subst hC
    unfold z_cpy
    rw [if_pos ⟨rfl, by omega, by omega⟩, Nat.sub_zero, ← g5 k (by omega)]
  have WC : q_wd C 8 (σ 93) := W.fr (fun c j h1 h2 => cn c j (by omega))
  have C1 : C 16 3 = σ 93 1 := by rw [cn _ _ (by omega), W1]
  have key : ∀ σ1 : zM, (∀ c j, ¬ (80 ≤ c ∧ c ≤ 83 ∨ c = 88) → σ1 c j = σ c j) → Ret (some (.inl (if x4 < 0 then z_sumf (fun s => q_one (q_msP σ w r n s)) 4096 else q_nthI (q_nth (q_msP σ w r n) x4 4096)))) (z_up σ1 0 12 0) := by
    intro σ1 f
    have e9 : ∀ c, 89 ≤ c → σ1 c = σ c := fun c hc => funext fun j => f c j (by omega)
    have u9 : ∀ c, 89 ≤ c → z_up σ1 0 12 0 c = σ c := fun c hc => by rw [q_up89 (by omega) c hc, e9 c hc]
    have R1 : q_R2 σ1 σ1 := q_R2_id R (fun c j hc => f c j (by unfold q_lastP at hc; omega))
    have fin := h (z_up σ1 0 12 0) u9 (by unfold q_fMissing; rw [u9 93 (by omega), u9 90 (by omega), u9 91 (by omega), if_neg c1, Int.toNat_natCast, if_neg c2, if_neg c3]; exact q_R2_fnd R1 0)
    have em : ∀ s, q_msP (z_up σ1 0 12 0) w r n s = q_msP σ w r n s := fun s => by
      unfold q_msP
      rw [u9 93 (by omega), u9 92 (by omega)]
    unfold q_gMissing at fin
    rw [u9 93 (by omega), u9 90 (by omega), u9 91 (by omega), if_neg c1, Int.toNat_natCast, Int.toNat_natCast, Int.toNat_natCast, if_neg c2, if_neg c3] at fin
    simp only [em, show q_msP (z_up σ1 0 12 0) w r n = q_msP σ w r n from funext em] at fin
    exact fin
  refine h0 _ _ _ ?_
  simp only [z_push, z_lpush, z_iload, z_lload, z_aload, z_istore, z_istoreP, z_lstore, z_astore, z_iinc, z_iincP, z_iadd, z_isub, z_imul, z_iaddW, z_isubW, z_imulW, z_idiv, z_irem, z_iand, z_ior, z_ixor, z_ishl, z_ishr, z_iushr, z_ineg, z_i2l, z_i2b, z_i2s, z_i2c, z_l2i, z_ladd, z_lsub, z_land, z_lor, z_lshl, z_lshr, z_lcmp, z_dup, z_pop, z_dup2, z_goto, z_tsw, z_cases, z_geti, z_getr, z_puti, z_putz, z_ald, z_iast, z_bast, z_zast, z_alen, z_acopy, z_mmax, z_mmin, z_mabs, z_mabsL, z_iret, z_zret, z_nret, z_lret, z_aret, z_vret, z_cat, z_ldcs, z_strv, z_strc, z_gcs, z_gfm, z_sln, z_sald, z_ifeq, z_ifne, z_iflt, z_ifge, z_ifgt, z_ifle, z_iceq, z_icne, z_iclt, z_icge, z_icgt, z_icle, z_cs0, z_cs1, z_cs2, z_cs3, z_cs4, z_cs5, z_cs6, z_cs7, z_cv0, z_cv1, z_cv2, z_cv3, z_cv4, z_cv5, z_cv6, z_cv7, z_g0, z_s0, z_g1, z_s1, z_g2, z_s2, z_g3, z_s3, z_g4, z_s4, z_g5, z_s5, z_g6, z_s6, z_g7, z_s7, z_g8, z_s8, z_g9, z_s9, z_g10, z_s10, z_g11, z_s11, z_g12, z_s12, z_g13, z_s13, z_b0, z_b1, z_b0n, z_b1n, z_up_far1, z_up_far2, z_up_far3, z_up_far4, z_up_far5, z_up_far6, Classical.not_not, not_true_eq_false, z_in, z_inL, Int.cast_ofNat_Int, Nat.reduceLeDiff, List.length_cons, List.length_nil, Nat.reduceAdd, Nat.zero_add, Nat.le_refl, true_and, and_true, List.length, Nat.reduceLT, true_or, or_true, false_or, or_false, false_and, and_false, not_true_eq_false, not_false_eq_true, forall_const, false_implies, true_implies, Int.reduceEq, Int.reduceLT, Int.reduceLE, Int.reduceAdd, Int.reduceSub, Int.reduceMul, Int.reduceNeg, Int.reduceToNat, Int.toNat_natCast, ↓reduceIte, reduceIte, Nat.reduceEqDiff, Nat.reduceSub, Nat.reduceMul, ne_eq, Int.zero_add, Int.add_zero, Int.sub_zero, Nat.add_zero, Int.ofNat_eq_natCast, tX9_missing_0, SX7_has, SX5_isRow, SX5_isThere, SX5_hasPlaces, SX5_read, SX3_listen, SX3_countMissing, SX3_missingSet, SX9_passed, W1, g1, g4, hC]
  refine ⟨fun e => ab (e (by omega)), fun _ => ⟨fun e => ab (e (by omega)), fun _ => ⟨fun e => ab (by omega), fun _ => ⟨fun e => ab (by omega), fun _ => ⟨fun _ => ⟨fun _ => ⟨fun _ => ⟨by omega, ⟨q_wd_wok WC K, by rw [C1]; omega⟩, fun σ1 f1 f2 => ?_⟩, fun e => ab (e (by omega))⟩, fun e => ab (e (by omega))⟩, fun e => ab (by omega)⟩⟩⟩⟩⟩
  have ge := q_ear_D WC (w := w) (by omega) f2
  obtain ⟨l1, l2, l3⟩ := ge
  have f : ∀ c j, ¬ (80 ≤ c ∧ c ≤ 83 ∨ c = 88) → σ1 c j = σ c j := fun c j hc => by rw [f1 c j (by omega), cn c j (by omega)]
  have fin := key σ1 f
  have eP : ∀ s, q_P σ1 80 88 n s = q_msP σ w r n s := by
    intro s
    unfold q_P q_msP
    rw [l1, Int.toNat_natCast]
    exact q_left_cg (fun x hx => by rw [f1 88 x (by omega)]; exact c88 x hx) l2 (fun x hx => by show (σ1 (80 + 2) x).toNat = _; rw [l3 x hx, Int.toNat_natCast])
  have eP2 : q_P σ1 80 88 n = q_msP σ w r n := funext eP
  have eok : q_eok σ1 80 := q_ear_ok K ⟨l1, l2, l3⟩
  rw [eP2]
  refine ⟨fun e => ?_, fun e => ?_⟩
  · rw [if_neg (by omega)] at fin
    exact ⟨⟨eok, by omega, by omega⟩, fin⟩
  · rw [if_pos (by omega)] at fin
    exact ⟨⟨eok, by omega, by omega⟩, fin⟩
theorem dX9_missing_0 : decode cX9_missing 0 = .ok (.aload_n 0, 1) := by decide +kernel
theorem dX9_missing_1 : decode cX9_missing 1 = .ok (.getfield 26, 3) := by decide +kernel
theorem dX9_missing_4 : decode cX9_missing 4 = .ok (.getfield 194, 3) := by decide +kernel
theorem dX9_missing_7 : decode cX9_missing 7 = .ok (.iload_n 1, 1) := by decide +kernel
theorem dX9_missing_8 : decode cX9_missing 8 = .ok (.invokevirtual 198, 3) := by decide +kernel
theorem dX9_missing_11 : decode cX9_missing 11 = .ok (.ifCond .eq 26, 3) := by decide +kernel
theorem dX9_missing_14 : decode cX9_missing 14 = .ok (.iload_n 2, 1) := by decide +kernel
theorem dX9_missing_15 : decode cX9_missing 15 = .ok (.invokestatic 71, 3) := by decide +kernel
theorem dX9_missing_18 : decode cX9_missing 18 = .ok (.ifCond .eq 19, 3) := by decide +kernel
theorem dX9_missing_21 : decode cX9_missing 21 = .ok (.iload_n 3, 1) := by decide +kernel
theorem dX9_missing_22 : decode cX9_missing 22 = .ok (.ifCond .lt 15, 3) := by decide +kernel
theorem dX9_missing_25 : decode cX9_missing 25 = .ok (.iload_n 3, 1) := by decide +kernel
theorem dX9_missing_26 : decode cX9_missing 26 = .ok (.bipush 12, 2) := by decide +kernel
theorem dX9_missing_28 : decode cX9_missing 28 = .ok (.if_icmp .gt 9, 3) := by decide +kernel
theorem dX9_missing_31 : decode cX9_missing 31 = .ok (.iload 4, 2) := by decide +kernel
theorem dX9_missing_33 : decode cX9_missing 33 = .ok (.iconst (-1), 1) := by decide +kernel
theorem dX9_missing_34 : decode cX9_missing 34 = .ok (.if_icmp .ge 6, 3) := by decide +kernel
theorem dX9_missing_37 : decode cX9_missing 37 = .ok (.ldc 75, 2) := by decide +kernel
theorem dX9_missing_39 : decode cX9_missing 39 = .ok (.ireturn, 1) := by decide +kernel
theorem dX9_missing_40 : decode cX9_missing 40 = .ok (.aload_n 0, 1) := by decide +kernel
theorem dX9_missing_41 : decode cX9_missing 41 = .ok (.getfield 19, 3) := by decide +kernel
theorem dX9_missing_44 : decode cX9_missing 44 = .ok (.iload_n 2, 1) := by decide +kernel
theorem dX9_missing_45 : decode cX9_missing 45 = .ok (.invokevirtual 87, 3) := by decide +kernel
theorem dX9_missing_48 : decode cX9_missing 48 = .ok (.ifCond .ne 9, 3) := by decide +kernel
theorem dX9_missing_51 : decode cX9_missing 51 = .ok (.aload_n 0, 1) := by decide +kernel
theorem dX9_missing_52 : decode cX9_missing 52 = .ok (.iconst 1, 1) := by decide +kernel
theorem dX9_missing_53 : decode cX9_missing 53 = .ok (.invokevirtual 76, 3) := by decide +kernel
theorem dX9_missing_56 : decode cX9_missing 56 = .ok (.ireturn, 1) := by decide +kernel
theorem dX9_missing_57 : decode cX9_missing 57 = .ok (.aload_n 0, 1) := by decide +kernel
theorem dX9_missing_58 : decode cX9_missing 58 = .ok (.getfield 19, 3) := by decide +kernel
theorem dX9_missing_61 : decode cX9_missing 61 = .ok (.iload_n 2, 1) := by decide +kernel
theorem dX9_missing_62 : decode cX9_missing 62 = .ok (.iconst 0, 1) := by decide +kernel
theorem dX9_missing_63 : decode cX9_missing 63 = .ok (.iload_n 3, 1) := by decide +kernel
theorem dX9_missing_64 : decode cX9_missing 64 = .ok (.invokevirtual 90, 3) := by decide +kernel
theorem dX9_missing_67 : decode cX9_missing 67 = .ok (.ifCond .ne 9, 3) := by decide +kernel
theorem dX9_missing_70 : decode cX9_missing 70 = .ok (.aload_n 0, 1) := by decide +kernel
theorem dX9_missing_71 : decode cX9_missing 71 = .ok (.iconst 2, 1) := by decide +kernel
theorem dX9_missing_72 : decode cX9_missing 72 = .ok (.invokevirtual 76, 3) := by decide +kernel
theorem dX9_missing_75 : decode cX9_missing 75 = .ok (.ireturn, 1) := by decide +kernel
theorem dX9_missing_76 : decode cX9_missing 76 = .ok (.aload_n 0, 1) := by decide +kernel
theorem dX9_missing_77 : decode cX9_missing 77 = .ok (.getfield 19, 3) := by decide +kernel
theorem dX9_missing_80 : decode cX9_missing 80 = .ok (.iload_n 2, 1) := by decide +kernel
theorem dX9_missing_81 : decode cX9_missing 81 = .ok (.iconst 0, 1) := by decide +kernel
theorem dX9_missing_82 : decode cX9_missing 82 = .ok (.aload_n 0, 1) := by decide +kernel
theorem dX9_missing_83 : decode cX9_missing 83 = .ok (.getfield 67, 3) := by decide +kernel
theorem dX9_missing_86 : decode cX9_missing 86 = .ok (.iload_n 3, 1) := by decide +kernel
theorem dX9_missing_87 : decode cX9_missing 87 = .ok (.invokevirtual 242, 3) := by decide +kernel
theorem dX9_missing_90 : decode cX9_missing 90 = .ok (.aload_n 0, 1) := by decide +kernel
theorem dX9_missing_91 : decode cX9_missing 91 = .ok (.getfield 49, 3) := by decide +kernel
theorem dX9_missing_94 : decode cX9_missing 94 = .ok (.aload_n 0, 1) := by decide +kernel
theorem dX9_missing_95 : decode cX9_missing 95 = .ok (.getfield 26, 3) := by decide +kernel
theorem dX9_missing_98 : decode cX9_missing 98 = .ok (.iload_n 1, 1) := by decide +kernel
theorem dX9_missing_99 : decode cX9_missing 99 = .ok (.invokevirtual 201, 3) := by decide +kernel
theorem dX9_missing_102 : decode cX9_missing 102 = .ok (.aload_n 0, 1) := by decide +kernel
theorem dX9_missing_103 : decode cX9_missing 103 = .ok (.iload 4, 2) := by decide +kernel
theorem dX9_missing_105 : decode cX9_missing 105 = .ok (.ifCond .ge 18, 3) := by decide +kernel
theorem dX9_missing_108 : decode cX9_missing 108 = .ok (.aload_n 0, 1) := by decide +kernel
theorem dX9_missing_109 : decode cX9_missing 109 = .ok (.getfield 49, 3) := by decide +kernel
theorem dX9_missing_112 : decode cX9_missing 112 = .ok (.aload_n 0, 1) := by decide +kernel
theorem dX9_missing_113 : decode cX9_missing 113 = .ok (.getfield 67, 3) := by decide +kernel
theorem dX9_missing_116 : decode cX9_missing 116 = .ok (.iload_n 3, 1) := by decide +kernel
theorem dX9_missing_117 : decode cX9_missing 117 = .ok (.invokevirtual 256, 3) := by decide +kernel
theorem dX9_missing_120 : decode cX9_missing 120 = .ok (.goto 17, 3) := by decide +kernel
theorem dX9_missing_123 : decode cX9_missing 123 = .ok (.aload_n 0, 1) := by decide +kernel
theorem dX9_missing_124 : decode cX9_missing 124 = .ok (.getfield 49, 3) := by decide +kernel
theorem dX9_missing_127 : decode cX9_missing 127 = .ok (.aload_n 0, 1) := by decide +kernel
theorem dX9_missing_128 : decode cX9_missing 128 = .ok (.getfield 67, 3) := by decide +kernel
theorem dX9_missing_131 : decode cX9_missing 131 = .ok (.iload_n 3, 1) := by decide +kernel
theorem dX9_missing_132 : decode cX9_missing 132 = .ok (.iload 4, 2) := by decide +kernel
theorem dX9_missing_134 : decode cX9_missing 134 = .ok (.invokevirtual 260, 3) := by decide +kernel
theorem dX9_missing_137 : decode cX9_missing 137 = .ok (.invokevirtual 84, 3) := by decide +kernel
theorem dX9_missing_140 : decode cX9_missing 140 = .ok (.ireturn, 1) := by decide +kernel
set_option maxRecDepth 100000 in
theorem rX9_missing_0 {p : Program} {l : Launch} {e : Env} {s : State} {m : MethodId} {args : Array Value} {below : List Frame} {meth : Method} {c : Code} {D : va_G} {cA : Nat → ClassId} {ad : Nat → Nat} {Ret : zR} (C : z_Cx p { frames := 4, cells := 0, slots := 0, locals := 88 } s m args c cX9_missing yX9_missing.cls 5 D cA ad) (hr : meth.sig.returnType = (some .int)) (hlocks : meth.locks = false) : ∀ L st σ, tX9_missing_0 (z_X p l e { frames := 4, cells := 0, slots := 0, locals := 88 } s m args below meth c (MQ below (z_Qc D cA ad Ret) args s 0 0 (z_A ad)) 5 D cA ad true) Ret L st σ → z_X p l e { frames := 4, cells := 0, slots := 0, locals := 88 } s m args below meth c (MQ below (z_Qc D cA ad Ret) args s 0 0 (z_A ad)) 5 D cA ad true 0 L st σ := (s_aload_n C dX9_missing_0 rfl (s_getr C dX9_missing_1 (j := 2) cls_X9 (by decide) rfl (by decide) (by decide) (by decide +kernel) wd_359 (s_getr C dX9_missing_4 (j := 1) cls_X8 (by decide) rfl (by decide) (by decide) (by decide +kernel) wd_261 (s_iload_n C dX9_missing_7 rfl (s_cv1 C dX9_missing_8 (okX7_has l) cls_X7 wd_726 wd_727 wd_728 wd_80 wd_729 ⟨by decide, by decide, by decide +kernel⟩ ⟨by decide, by decide⟩ (s_ifeq C dX9_missing_11 (by decide) (s_ldc C dX9_missing_37 (v := -1000001) wd_404 ⟨by decide, by decide⟩ (s_iret C dX9_missing_39 hr hlocks)) (s_iload_n C dX9_missing_14 rfl (s_cs1 C dX9_missing_15 (okX5_isRow l) wd_401 wd_402 wd_77 wd_403 ⟨by decide, by decide, by decide +kernel⟩ ⟨by decide, by decide⟩ (s_ifeq C dX9_missing_18 (by decide) (s_ldc C dX9_missing_37 (v := -1000001) wd_404 ⟨by decide, by decide⟩ (s_iret C dX9_missing_39 hr hlocks)) (s_iload_n C dX9_missing_21 rfl (s_iflt C dX9_missing_22 (by decide) (s_ldc C dX9_missing_37 (v := -1000001) wd_404 ⟨by decide, by decide⟩ (s_iret C dX9_missing_39 hr hlocks)) (s_iload_n C dX9_missing_25 rfl (s_bipush C dX9_missing_26 rfl ⟨by decide, by decide⟩ (s_icgt C dX9_missing_28 (by decide) (s_ldc C dX9_missing_37 (v := -1000001) wd_404 ⟨by decide, by decide⟩ (s_iret C dX9_missing_39 hr hlocks)) (s_iload C dX9_missing_31 (s_iconst C dX9_missing_33 rfl ⟨by decide, by decide⟩ (s_icge C dX9_missing_34 (by decide) (s_aload_n C dX9_missing_40 rfl (s_getr C dX9_missing_41 (j := 1) cls_X9 (by decide) rfl (by decide) (by decide) (by decide +kernel) wd_358 (s_iload_n C dX9_missing_44 rfl (s_cv1 C dX9_missing_45 (okX5_isThere l) cls_X5 wd_423 wd_424 wd_425 wd_77 wd_426 ⟨by decide, by decide, by decide +kernel⟩ ⟨by decide, by decide⟩ (s_ifne C dX9_missing_48 (by decide) (s_aload_n C dX9_missing_57 rfl (s_getr C dX9_missing_58 (j := 1) cls_X9 (by decide) rfl (by decide) (by decide) (by decide +kernel) wd_358 (s_iload_n C dX9_missing_61 rfl (s_iconst C dX9_missing_62 rfl ⟨by decide, by decide⟩ (s_iload_n C dX9_missing_63 rfl (s_cv3 C dX9_missing_64 (okX5_hasPlaces l) cls_X5 wd_427 wd_428 wd_429 wd_77 wd_430 ⟨by decide, by decide, by decide +kernel⟩ ⟨by decide, by decide⟩ (s_ifne C dX9_missing_67 (by decide) (s_aload_n C dX9_missing_76 rfl (s_getr C dX9_missing_77 (j := 1) cls_X9 (by decide) rfl (by decide) (by decide) (by decide +kernel) wd_358 (s_iload_n C dX9_missing_80 rfl (s_iconst C dX9_missing_81 rfl ⟨by decide, by decide⟩ (s_aload_n C dX9_missing_82 rfl (s_getr C dX9_missing_83 (j := 10) cls_X9 (by decide) rfl (by decide) (by decide) (by decide +kernel) wd_367 (s_iload_n C dX9_missing_86 rfl (s_cv4 C dX9_missing_87 (okX5_read l) cls_X5 wd_820 wd_821 wd_822 wd_77 wd_823 ⟨by decide, by decide, by decide +kernel⟩ ⟨by decide, by decide⟩ (s_aload_n C dX9_missing_90 rfl (s_getr C dX9_missing_91 (j := 7) cls_X9 (by decide) rfl (by decide) (by decide) (by decide +kernel) wd_364 (s_aload_n C dX9_missing_94 rfl (s_getr C dX9_missing_95 (j := 2) cls_X9 (by decide) rfl (by decide) (by decide) (by decide +kernel) wd_359 (s_iload_n C dX9_missing_98 rfl (s_cv2 C dX9_missing_99 (okX3_listen l) cls_X3 wd_730 wd_731 wd_732 wd_82 wd_733 ⟨by decide, by decide, by decide +kernel⟩ ⟨by decide, by decide⟩ (s_aload_n C dX9_missing_102 rfl (s_iload C dX9_missing_103 (s_ifge C dX9_missing_105 (by decide) (s_aload_n C dX9_missing_123 rfl (s_getr C dX9_missing_124 (j := 7) cls_X9 (by decide) rfl (by decide) (by decide) (by decide +kernel) wd_364 (s_aload_n C dX9_missing_127 rfl (s_getr C dX9_missing_128 (j := 10) cls_X9 (by decide) rfl (by decide) (by decide) (by decide +kernel) wd_367 (s_iload_n C dX9_missing_131 rfl (s_iload C dX9_missing_132 (s_cv3 C dX9_missing_134 (okX3_missingSet l) cls_X3 wd_853 wd_854 wd_855 wd_82 wd_856 ⟨by decide, by decide, by decide +kernel⟩ ⟨by decide, by decide⟩ (s_cv1 C dX9_missing_137 (okX9_passed l) cls_X9 wd_415 wd_417 wd_1 wd_75 wd_418 ⟨by decide, by decide, by decide +kernel⟩ ⟨by decide, by decide⟩ (s_iret C dX9_missing_140 hr hlocks))))))))) (s_aload_n C dX9_missing_108 rfl (s_getr C dX9_missing_109 (j := 7) cls_X9 (by decide) rfl (by decide) (by decide) (by decide +kernel) wd_364 (s_aload_n C dX9_missing_112 rfl (s_getr C dX9_missing_113 (j := 10) cls_X9 (by decide) rfl (by decide) (by decide) (by decide +kernel) wd_367 (s_iload_n C dX9_missing_116 rfl (s_cv2 C dX9_missing_117 (okX3_countMissing l) cls_X3 wd_839 wd_840 wd_841 wd_82 wd_842 ⟨by decide, by decide, by decide +kernel⟩ ⟨by decide, by decide⟩ (s_goto C dX9_missing_120 (by decide) (s_cv1 C dX9_missing_137 (okX9_passed l) cls_X9 wd_415 wd_417 wd_1 wd_75 wd_418 ⟨by decide, by decide, by decide +kernel⟩ ⟨by decide, by decide⟩ (s_iret C dX9_missing_140 hr hlocks)))))))))))))))))))))))))) (s_aload_n C dX9_missing_70 rfl (s_iconst C dX9_missing_71 rfl ⟨by decide, by decide⟩ (s_cv1 C dX9_missing_72 (okX9_found l) cls_X9 wd_405 wd_407 wd_0 wd_75 wd_408 ⟨by decide, by decide, by decide +kernel⟩ ⟨by decide, by decide⟩ (s_iret C dX9_missing_75 hr hlocks))))))))))) (s_aload_n C dX9_missing_51 rfl (s_iconst C dX9_missing_52 rfl ⟨by decide, by decide⟩ (s_cv1 C dX9_missing_53 (okX9_found l) cls_X9 wd_405 wd_407 wd_0 wd_75 wd_408 ⟨by decide, by decide, by decide +kernel⟩ ⟨by decide, by decide⟩ (s_iret C dX9_missing_56 hr hlocks))))))))) (s_ldc C dX9_missing_37 (v := -1000001) wd_404 ⟨by decide, by decide⟩ (s_iret C dX9_missing_39 hr hlocks)))))))))))))))))))
theorem okX9_missing (l : Launch) : z_OK l yX9_missing cX9_missing 5 (some .int) 4 88 SX9_missing := by
  refine z_ok_of true (by decide +kernel) ?_ ?_
  · intro as σ Ret h
    obtain ⟨k0, x1, x2, x3, x4, rfl⟩ := pX9_missing h
    exact ⟨Nat.le_of_ble_eq_true rfl, by simp⟩
  · intro p e s m args below meth c D cA ad Ret C hr hlocks as σ has hσ h
    obtain ⟨k0, x1, x2, x3, x4, rfl⟩ := pX9_missing h
    exact vX9_missing (rX9_missing_0 C hr hlocks) k0 x1 x2 x3 x4 σ (has _ (List.mem_of_getElem? (i := 0) rfl)) (has _ (List.mem_of_getElem? (i := 1) rfl)) (has _ (List.mem_of_getElem? (i := 2) rfl)) (has _ (List.mem_of_getElem? (i := 3) rfl)) (has _ (List.mem_of_getElem? (i := 4) rfl)) hσ h
