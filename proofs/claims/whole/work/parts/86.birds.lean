/-! birds, asked of both -/
theorem q_lc_cg {s u : Nat → Nat → Bool} : ∀ (n m : Nat), (∀ i j, i < n → j < m → s i j = u i j) → q_lc s n m = q_lc u n m := by
  intro n
  induction n with
  | zero => intro m h; rw [q_lc_0, q_lc_0]
  | succ n ih =>
    intro m
    induction m with
    | zero => intro h; rw [q_lc_i0, q_lc_i0]
    | succ m ih2 =>
      intro h
      rw [q_lc_S, q_lc_S, ih m (fun i j a b => h i j (by omega) (by omega)), ih2 (fun i j a b => h i j a (by omega)), ih (m + 1) (fun i j a b => h i j (by omega) b), h n m (by omega) (by omega)]
theorem q_lc_tr {s : Nat → Nat → Bool} : ∀ (n m : Nat), q_lc s n m = q_lc (fun a b => s b a) m n := by
  intro n
  induction n with
  | zero => intro m; rw [q_lc_0, q_lc_i0]
  | succ n ih =>
    intro m
    induction m with
    | zero => rw [q_lc_0, q_lc_i0]
    | succ m ih2 =>
      rw [q_lc_S, q_lc_S, ih m, ih2, ih (m + 1)]
      generalize q_lc (fun a b => s b a) m n = a
      generalize q_lc (fun a b => s b a) m (n + 1) = b
      generalize q_lc (fun a b => s b a) (m + 1) n = c
      split <;> omega
def q_bdD (τ : zM) (w r i n : Nat) (t : Int) : Int := q_lc (q_s (fun k => τ 92 (40 * r + i + k)) (fun j => q_tnD (τ 93) ((q_lsD (τ 93) w).getD j 0)) t) n (q_lsD (τ 93) w).length
def q_gBirds (w r i n t : Int) (τ : zM) : Int := if ¬ ((0 ≤ w ∧ w < τ 93 1) ∧ (0 ≤ r ∧ r < 8) ∧ (1 ≤ n ∧ n ≤ 20) ∧ 0 ≤ t ∧ t ≤ 99) then -1000001 else if τ 90 r.toNat < 0 then -1000011 else if ¬ (0 ≤ i ∧ i + n ≤ τ 91 r.toNat) then -1000012 else n - q_bdD τ w.toNat r.toNat i.toNat n.toNat t
def q_fBirds (w r i n t : Int) (τ : zM) : zM := if ¬ ((0 ≤ w ∧ w < τ 93 1) ∧ (0 ≤ r ∧ r < 8) ∧ (1 ≤ n ∧ n ≤ 20) ∧ 0 ≤ t ∧ t ≤ 99) then τ else if τ 90 r.toNat < 0 then z_up τ 89 1 1 else if ¬ (0 ≤ i ∧ i + n ≤ τ 91 r.toNat) then z_up τ 89 1 2 else z_up τ 89 1 0
def SX9_birds : zS := fun as σ Ret => match as with
  | [.inr (.inr (9, 0, _)), .inl w, .inl r, .inl i, .inl n, .inl t] => q_S9 (q_gBirds w r i n t) (q_fBirds w r i n t) σ Ret
  | _ => False
def tX9_birds_0 (X : Nat → zB) (Ret : zR) (L : zL) (st : List zV) (σ : zM) : Prop := (z_aload 0 (z_getr 9 8 8 0 (z_getr 8 8 7 0 (z_iload 1 (z_cv1 7 SX7_has (z_ifeq (z_push (-1000001) (z_iret Ret)) (z_iload 2 (z_cs1 SX5_isRow (z_ifeq (z_push (-1000001) (z_iret Ret)) (z_iload 4 (z_push 1 (z_iclt (z_push (-1000001) (z_iret Ret)) (z_iload 4 (z_push 20 (z_icgt (z_push (-1000001) (z_iret Ret)) (z_iload 5 (z_cs1 SX9_isApart (z_ifne (z_aload 0 (z_getr 9 3 5 0 (z_iload 2 (z_cv1 5 SX5_isThere (z_ifne (z_aload 0 (z_getr 9 3 5 0 (z_iload 2 (z_iload 3 (z_iload 4 (z_cv3 5 SX5_hasPlaces (z_ifne (z_aload 0 (z_getr 9 3 5 0 (z_iload 2 (z_iload 3 (z_aload 0 (z_getr 9 88 100 20 (z_iload 4 (z_cv4 5 SX5_read (z_aload 0 (z_getr 9 80 3 0 (z_aload 0 (z_getr 9 8 8 0 (z_iload 1 (z_cv2 3 SX3_listen (z_aload 0 (z_iload 4 (z_aload 0 (z_getr 9 80 3 0 (z_aload 0 (z_getr 9 88 100 20 (z_iload 4 (z_iload 5 (z_cv3 3 SX3_sharedWith (z_isub (z_cv1 9 SX9_passed (z_iret Ret)))))))))))))))))))))))))) (z_aload 0 (z_push 2 (z_cv1 9 SX9_found (z_iret Ret))))))))))) (z_aload 0 (z_push 1 (z_cv1 9 SX9_found (z_iret Ret))))))))) (z_push (-1000001) (z_iret Ret)))))))))))))))))))) L st σ
theorem pX9_birds {as : List zV} {σ : zM} {Ret : zR} (h : SX9_birds as σ Ret) : ∃ (k0 : Nat) (x1 : Int) (x2 : Int) (x3 : Int) (x4 : Int) (x5 : Int), as = [.inr (.inr (9, 0, k0)), .inl x1, .inl x2, .inl x3, .inl x4, .inl x5] := by
  unfold SX9_birds at h
  split at h
  · exact ⟨_, _, _, _, _, _, rfl⟩
  · exact h.elim
set_option maxRecDepth 10000 in
set_option maxHeartbeats 4000000 in
theorem vX9_birds {X : Nat → zB} {Ret : zR} (h0 : ∀ L st σ, tX9_birds_0 X Ret L st σ → X 0 L st σ) (k0 : Nat) (x1 : Int) (x2 : Int) (x3 : Int) (x4 : Int) (x5 : Int) (σ : zM) (hk0 : z_kd k0 = (9, 0)) (hx1 : -2147483648 ≤ x1 ∧ x1 ≤ 2147483647) (hx2 : -2147483648 ≤ x2 ∧ x2 ≤ 2147483647) (hx3 : -2147483648 ≤ x3 ∧ x3 ≤ 2147483647) (hx4 : -2147483648 ≤ x4 ∧ x4 ≤ 2147483647) (hx5 : -2147483648 ≤ x5 ∧ x5 ≤ 2147483647) (hσ : z_okm σ) (h : SX9_birds [.inr (.inr (9, 0, k0)), .inl x1, .inl x2, .inl x3, .inl x4, .inl x5] σ Ret) : X 0 [some (.inr (.inr (9, 0, k0))), some (.inl x1), some (.inl x2), some (.inl x3), some (.inl x4), some (.inl x5)] [] σ := by
  obtain ⟨⟨R, m⟩, h⟩ := h
  obtain rfl := z_kd9 hk0
  have W := R.2.2.2.2.1.1
  have K := m.2.1.1
  have W1 : σ 16 3 = σ 93 1 := W.1.2.1.1
  have K1 := K.1.2.1
  by_cases c1 : ¬ ((0 ≤ x1 ∧ x1 < σ 93 1) ∧ (0 ≤ x2 ∧ x2 < 8) ∧ (1 ≤ x4 ∧ x4 ≤ 20) ∧ 0 ≤ x5 ∧ x5 ≤ 99)
  · have fin := h σ (fun _ _ => rfl) (by unfold q_fBirds; rw [if_pos c1]; exact R)
    simp only [q_gBirds, if_pos c1] at fin
    refine h0 _ _ _ ?_
    simp only [z_push, z_lpush, z_iload, z_lload, z_aload, z_istore, z_istoreP, z_lstore, z_astore, z_iinc, z_iincP, z_iadd, z_isub, z_imul, z_iaddW, z_isubW, z_imulW, z_idiv, z_irem, z_iand, z_ior, z_ixor, z_ishl, z_ishr, z_iushr, z_ineg, z_i2l, z_i2b, z_i2s, z_i2c, z_l2i, z_ladd, z_lsub, z_land, z_lor, z_lshl, z_lshr, z_lcmp, z_dup, z_pop, z_dup2, z_goto, z_tsw, z_cases, z_geti, z_getr, z_puti, z_putz, z_ald, z_iast, z_bast, z_zast, z_alen, z_acopy, z_mmax, z_mmin, z_mabs, z_mabsL, z_iret, z_zret, z_nret, z_lret, z_aret, z_vret, z_cat, z_ldcs, z_strv, z_strc, z_gcs, z_gfm, z_sln, z_sald, z_ifeq, z_ifne, z_iflt, z_ifge, z_ifgt, z_ifle, z_iceq, z_icne, z_iclt, z_icge, z_icgt, z_icle, z_cs0, z_cs1, z_cs2, z_cs3, z_cs4, z_cs5, z_cs6, z_cs7, z_cv0, z_cv1, z_cv2, z_cv3, z_cv4, z_cv5, z_cv6, z_cv7, z_g0, z_s0, z_g1, z_s1, z_g2, z_s2, z_g3, z_s3, z_g4, z_s4, z_g5, z_s5, z_g6, z_s6, z_g7, z_s7, z_g8, z_s8, z_g9, z_s9, z_g10, z_s10, z_g11, z_s11, z_g12, z_s12, z_g13, z_s13, z_b0, z_b1, z_b0n, z_b1n, z_up_far1, z_up_far2, z_up_far3, z_up_far4, z_up_far5, z_up_far6, Classical.not_not, not_true_eq_false, z_in, z_inL, Int.cast_ofNat_Int, Nat.reduceLeDiff, List.length_cons, List.length_nil, Nat.reduceAdd, Nat.zero_add, Nat.le_refl, true_and, and_true, List.length, Nat.reduceLT, true_or, or_true, false_or, or_false, false_and, and_false, not_true_eq_false, not_false_eq_true, forall_const, false_implies, true_implies, Int.reduceEq, Int.reduceLT, Int.reduceLE, Int.reduceAdd, Int.reduceSub, Int.reduceMul, Int.reduceNeg, Int.reduceToNat, Int.toNat_natCast, ↓reduceIte, reduceIte, Nat.reduceEqDiff, Nat.reduceSub, Nat.reduceMul, ne_eq, Int.zero_add, Int.add_zero, Int.sub_zero, Nat.add_zero, Int.ofNat_eq_natCast, tX9_birds_0, SX7_has, SX5_isRow, SX9_isApart, W1]
    repeat' (first | (intro _) | (with_reducible assumption) | (refine And.intro ?_ ?_))
    all_goals first | omega | assumption | (refine z_fin fin ?_ rfl; first | rfl | omega | (split <;> omega) | (split <;> split <;> omega)) | skip
  obtain ⟨r, rfl⟩ := z_nat (show 0 ≤ x2 by omega)
  obtain ⟨w, rfl⟩ := z_nat (show 0 ≤ x1 by omega)
  obtain ⟨n, rfl⟩ := z_nat (show 0 ≤ x4 by omega)
  obtain ⟨g1, g2⟩ := R.1 r (by omega)
  have mr := m.1 r (by omega)
  by_cases c2 : σ 90 r < 0
  · have fin := h (z_up σ 0 12 1) (q_up89 (by omega)) (by unfold q_fBirds; rw [q_up89 (by omega) 93 (by omega), q_up89 (by omega) 90 (by omega), if_neg c1, Int.toNat_natCast, if_pos c2]; exact q_R2_fnd R 1)
    simp only [q_gBirds, q_up89 (show 0 < 89 by omega) 93 (by omega), q_up89 (show 0 < 89 by omega) 90 (by omega), if_neg c1, Int.toNat_natCast, if_pos c2] at fin
    rw [if_pos c2] at g1
    refine h0 _ _ _ ?_
    simp only [z_push, z_lpush, z_iload, z_lload, z_aload, z_istore, z_istoreP, z_lstore, z_astore, z_iinc, z_iincP, z_iadd, z_isub, z_imul, z_iaddW, z_isubW, z_imulW, z_idiv, z_irem, z_iand, z_ior, z_ixor, z_ishl, z_ishr, z_iushr, z_ineg, z_i2l, z_i2b, z_i2s, z_i2c, z_l2i, z_ladd, z_lsub, z_land, z_lor, z_lshl, z_lshr, z_lcmp, z_dup, z_pop, z_dup2, z_goto, z_tsw, z_cases, z_geti, z_getr, z_puti, z_putz, z_ald, z_iast, z_bast, z_zast, z_alen, z_acopy, z_mmax, z_mmin, z_mabs, z_mabsL, z_iret, z_zret, z_nret, z_lret, z_aret, z_vret, z_cat, z_ldcs, z_strv, z_strc, z_gcs, z_gfm, z_sln, z_sald, z_ifeq, z_ifne, z_iflt, z_ifge, z_ifgt, z_ifle, z_iceq, z_icne, z_iclt, z_icge, z_icgt, z_icle, z_cs0, z_cs1, z_cs2, z_cs3, z_cs4, z_cs5, z_cs6, z_cs7, z_cv0, z_cv1, z_cv2, z_cv3, z_cv4, z_cv5, z_cv6, z_cv7, z_g0, z_s0, z_g1, z_s1, z_g2, z_s2, z_g3, z_s3, z_g4, z_s4, z_g5, z_s5, z_g6, z_s6, z_g7, z_s7, z_g8, z_s8, z_g9, z_s9, z_g10, z_s10, z_g11, z_s11, z_g12, z_s12, z_g13, z_s13, z_b0, z_b1, z_b0n, z_b1n, z_up_far1, z_up_far2, z_up_far3, z_up_far4, z_up_far5, z_up_far6, Classical.not_not, not_true_eq_false, z_in, z_inL, Int.cast_ofNat_Int, Nat.reduceLeDiff, List.length_cons, List.length_nil, Nat.reduceAdd, Nat.zero_add, Nat.le_refl, true_and, and_true, List.length, Nat.reduceLT, true_or, or_true, false_or, or_false, false_and, and_false, not_true_eq_false, not_false_eq_true, forall_const, false_implies, true_implies, Int.reduceEq, Int.reduceLT, Int.reduceLE, Int.reduceAdd, Int.reduceSub, Int.reduceMul, Int.reduceNeg, Int.reduceToNat, Int.toNat_natCast, ↓reduceIte, reduceIte, Nat.reduceEqDiff, Nat.reduceSub, Nat.reduceMul, ne_eq, Int.zero_add, Int.add_zero, Int.sub_zero, Nat.add_zero, Int.ofNat_eq_natCast, tX9_birds_0, SX7_has, SX5_isRow, SX9_isApart, SX5_isThere, SX9_found, W1, g1]
    repeat' (first | (intro _) | (with_reducible assumption) | (refine And.intro ?_ ?_))
    all_goals first | omega | assumption | (refine z_fin fin ?_ rfl; first | rfl | omega | (split <;> omega) | (split <;> split <;> omega)) | skip
  rw [if_neg c2] at g1
  obtain ⟨g3, g4, g5⟩ := g2 (by omega)
  by_cases c3 : ¬ (0 ≤ x3 ∧ x3 + n ≤ σ 91 r)
  · have fin := h (z_up σ 0 12 2) (q_up89 (by omega)) (by unfold q_fBirds; rw [q_up89 (by omega) 93 (by omega), q_up89 (by omega) 90 (by omega), q_up89 (by omega) 91 (by omega), if_neg c1, Int.toNat_natCast, if_neg c2, if_pos c3]; exact q_R2_fnd R 2)
    simp only [q_gBirds, q_up89 (show 0 < 89 by omega) 93 (by omega), q_up89 (show 0 < 89 by omega) 90 (by omega), q_up89 (show 0 < 89 by omega) 91 (by omega), if_neg c1, Int.toNat_natCast, if_neg c2, if_pos c3] at fin
    refine h0 _ _ _ ?_
    simp only [z_push, z_lpush, z_iload, z_lload, z_aload, z_istore, z_istoreP, z_lstore, z_astore, z_iinc, z_iincP, z_iadd, z_isub, z_imul, z_iaddW, z_isubW, z_imulW, z_idiv, z_irem, z_iand, z_ior, z_ixor, z_ishl, z_ishr, z_iushr, z_ineg, z_i2l, z_i2b, z_i2s, z_i2c, z_l2i, z_ladd, z_lsub, z_land, z_lor, z_lshl, z_lshr, z_lcmp, z_dup, z_pop, z_dup2, z_goto, z_tsw, z_cases, z_geti, z_getr, z_puti, z_putz, z_ald, z_iast, z_bast, z_zast, z_alen, z_acopy, z_mmax, z_mmin, z_mabs, z_mabsL, z_iret, z_zret, z_nret, z_lret, z_aret, z_vret, z_cat, z_ldcs, z_strv, z_strc, z_gcs, z_gfm, z_sln, z_sald, z_ifeq, z_ifne, z_iflt, z_ifge, z_ifgt, z_ifle, z_iceq, z_icne, z_iclt, z_icge, z_icgt, z_icle, z_cs0, z_cs1, z_cs2, z_cs3, z_cs4, z_cs5, z_cs6, z_cs7, z_cv0, z_cv1, z_cv2, z_cv3, z_cv4, z_cv5, z_cv6, z_cv7, z_g0, z_s0, z_g1, z_s1, z_g2, z_s2, z_g3, z_s3, z_g4, z_s4, z_g5, z_s5, z_g6, z_s6, z_g7, z_s7, z_g8, z_s8, z_g9, z_s9, z_g10, z_s10, z_g11, z_s11, z_g12, z_s12, z_g13, z_s13, z_b0, z_b1, z_b0n, z_b1n, z_up_far1, z_up_far2, z_up_far3, z_up_far4, z_up_far5, z_up_far6, Classical.not_not, not_true_eq_false, z_in, z_inL, Int.cast_ofNat_Int, Nat.reduceLeDiff, List.length_cons, List.length_nil, Nat.reduceAdd, Nat.zero_add, Nat.le_refl, true_and, and_true, List.length, Nat.reduceLT, true_or, or_true, false_or, or_false, false_and, and_false, not_true_eq_false, not_false_eq_true, forall_const, false_implies, true_implies, Int.reduceEq, Int.reduceLT, Int.reduceLE, Int.reduceAdd, Int.reduceSub, Int.reduceMul, Int.reduceNeg, Int.reduceToNat, Int.toNat_natCast, ↓reduceIte, reduceIte, Nat.reduceEqDiff, Nat.reduceSub, Nat.reduceMul, ne_eq, Int.zero_add, Int.add_zero, Int.sub_zero, Nat.add_zero, Int.ofNat_eq_natCast, tX9_birds_0, SX7_has, SX5_isRow, SX9_isApart, SX5_isThere, SX5_hasPlaces, SX9_found, W1, g1, g4]
    repeat' (first | (intro _) | (with_reducible assumption) | (refine And.intro ?_ ?_))
    all_goals first | omega | assumption | (refine z_fin fin ?_ rfl; first | rfl | omega | (split <;> omega) | (split <;> split <;> omega)) | skip
  obtain ⟨i, rfl⟩ := z_nat (show 0 ≤ x3 by omega)
  refine h0 _ _ _ ?_
  simp only [z_push, z_lpush, z_iload, z_lload, z_aload, z_istore, z_istoreP, z_lstore, z_astore, z_iinc, z_iincP, z_iadd, z_isub, z_imul, z_iaddW, z_isubW, z_imulW, z_idiv, z_irem, z_iand, z_ior, z_ixor, z_ishl, z_ishr, z_iushr, z_ineg, z_i2l, z_i2b, z_i2s, z_i2c, z_l2i, z_ladd, z_lsub, z_land, z_lor, z_lshl, z_lshr, z_lcmp, z_dup, z_pop, z_dup2, z_goto, z_tsw, z_cases, z_geti, z_getr, z_puti, z_putz, z_ald, z_iast, z_bast, z_zast, z_alen, z_acopy, z_mmax, z_mmin, z_mabs, z_mabsL, z_iret, z_zret, z_nret, z_lret, z_aret, z_vret, z_cat, z_ldcs, z_strv, z_strc, z_gcs, z_gfm, z_sln, z_sald, z_ifeq, z_ifne, z_iflt, z_ifge, z_ifgt, z_ifle, z_iceq, z_icne, z_iclt, z_icge, z_icgt, z_icle, z_cs0, z_cs1, z_cs2, z_cs3, z_cs4, z_cs5, z_cs6, z_cs7, z_cv0, z_cv1, z_cv2, z_cv3, z_cv4, z_cv5, z_cv6, z_cv7, z_g0, z_s0, z_g1, z_s1, z_g2, z_s2, z_g3, z_s3, z_g4, z_s4, z_g5, z_s5, z_g6, z_s6, z_g7, z_s7, z_g8, z_s8, z_g9, z_s9, z_g10, z_s10, z_g11, z_s11, z_g12, z_s12, z_g13, z_s13, z_b0, z_b1, z_b0n, z_b1n, z_up_far1, z_up_far2, z_up_far3, z_up_far4, z_up_far5, z_up_far6, Classical.not_not, not_true_eq_false, z_in, z_inL, Int.cast_ofNat_Int, Nat.reduceLeDiff, List.length_cons, List.length_nil, Nat.reduceAdd, Nat.zero_add, Nat.le_refl, true_and, and_true, List.length, Nat.reduceLT, true_or, or_true, false_or, or_false, false_and, and_false, not_true_eq_false, not_false_eq_true, forall_const, false_implies, true_implies, Int.reduceEq, Int.reduceLT, Int.reduceLE, Int.reduceAdd, Int.reduceSub, Int.reduceMul, Int.reduceNeg, Int.reduceToNat, Int.toNat_natCast, ↓reduceIte, reduceIte, Nat.reduceEqDiff, Nat.reduceSub, Nat.reduceMul, ne_eq, Int.zero_add, Int.add_zero, Int.sub_zero, Nat.add_zero, Int.ofNat_eq_natCast, tX9_birds_0, SX7_has, SX5_isRow, SX9_isApart, SX5_isThere, SX5_hasPlaces, SX5_read, SX3_listen, SX3_sharedWith, SX9_passed, W1, g1, g4]
  have ab : ∀ {P : Prop}, False → P := fun f => f.elim
  generalize hC : z_cpy σ 7 (40 * r + i) 88 0 n = C
  have cn : ∀ c j, c ≠ 88 → C c j = σ c j := fun c j hc => by subst hC; exact z_cpy_ne hc
  have c88 : ∀ k, k < n → C 88 k = σ 92 (40 * r + i + k) := fun k hk => by
    subst hC
    unfold z_cpy
    rw [if_pos ⟨rfl, by omega, by omega⟩, Nat.sub_zero, Nat.add_assoc, ← g5 (i + k) (by omega)]
  have WC : q_wd C 8 (σ 93) := W.fr (fun c j h1 h2 => cn c j (by omega))
  have C1 : C 16 3 = σ 93 1 := by rw [cn _ _ (by omega), W1]
  refine ⟨fun e => ab (e (by omega)), fun _ => ⟨fun e => ab (e (by omega)), fun _ => ⟨fun e => ab (by omega), fun _ => ⟨fun e => ab (by omega), fun _ => ⟨fun _ => ⟨fun _ => ⟨fun _ => ⟨by omega, ⟨q_wd_wok WC K, by rw [C1]; omega⟩, fun σ1 f1 f2 => ?_⟩, fun e => ab (e (by omega))⟩, fun e => ab (e (by omega))⟩, fun e => ab (e (by omega))⟩⟩⟩⟩⟩
  obtain ⟨l1, l2, l3⟩ := q_ear_D WC (w := w) (by omega) f2
  have ll := q_lsD_len (D := σ 93) (w := w) K
  have lc := q_lc_in (s := q_s (σ1 88) (σ1 81) x5) n (q_lsD (σ 93) w).length
  rw [l1, Int.toNat_natCast]
  refine ⟨by omega, fun σ2 f3 => ⟨by omega, ?_⟩⟩
  have f : ∀ c j, ¬ (80 ≤ c ∧ c ≤ 83 ∨ c = 88) → σ2 c j = σ c j := fun c j hc => by rw [f3 c j (by omega), f1 c j (by omega), cn c j (by omega)]
  have e9 : ∀ c, 89 ≤ c → σ2 c = σ c := fun c hc => funext fun j => f c j (by omega)
  have u9 : ∀ c, 89 ≤ c → z_up σ2 0 12 0 c = σ c := fun c hc => by rw [q_up89 (by omega) c hc, e9 c hc]
  have R1 : q_R2 σ2 σ2 := q_R2_id R (fun c j hc => f c j (by unfold q_lastP at hc; omega))
  have ev : q_lc (q_s (σ1 88) (σ1 81) x5) n (q_lsD (σ 93) w).length = q_bdD σ w r i n x5 := by
    unfold q_bdD
    refine q_lc_cg _ _ (fun a b ha hb => ?_)
    unfold q_s
    rw [l2 b hb, f1 88 a (by omega), c88 a ha]
  have fin := h (z_up σ2 0 12 0) u9 (by unfold q_fBirds; rw [u9 93 (by omega), u9 90 (by omega), u9 91 (by omega), if_neg c1, Int.toNat_natCast, if_neg c2, if_neg c3]; exact q_R2_fnd R1 0)
  unfold q_gBirds at fin
  rw [u9 93 (by omega), u9 90 (by omega), u9 91 (by omega), if_neg c1, Int.toNat_natCast, Int.toNat_natCast, Int.toNat_natCast, Int.toNat_natCast, if_neg c2, if_neg c3] at fin
  have eb : q_bdD (z_up σ2 0 12 0) w r i n x5 = q_bdD σ w r i n x5 := by
    unfold q_bdD
    rw [u9 93 (by omega), u9 92 (by omega)]
  rw [eb, ← ev] at fin
  exact fin
theorem dX9_birds_0 : decode cX9_birds 0 = .ok (.aload_n 0, 1) := by decide +kernel
theorem dX9_birds_1 : decode cX9_birds 1 = .ok (.getfield 26, 3) := by decide +kernel
theorem dX9_birds_4 : decode cX9_birds 4 = .ok (.getfield 194, 3) := by decide +kernel
theorem dX9_birds_7 : decode cX9_birds 7 = .ok (.iload_n 1, 1) := by decide +kernel
theorem dX9_birds_8 : decode cX9_birds 8 = .ok (.invokevirtual 198, 3) := by decide +kernel
theorem dX9_birds_11 : decode cX9_birds 11 = .ok (.ifCond .eq 31, 3) := by decide +kernel
theorem dX9_birds_14 : decode cX9_birds 14 = .ok (.iload_n 2, 1) := by decide +kernel
theorem dX9_birds_15 : decode cX9_birds 15 = .ok (.invokestatic 71, 3) := by decide +kernel
theorem dX9_birds_18 : decode cX9_birds 18 = .ok (.ifCond .eq 24, 3) := by decide +kernel
theorem dX9_birds_21 : decode cX9_birds 21 = .ok (.iload 4, 2) := by decide +kernel
theorem dX9_birds_23 : decode cX9_birds 23 = .ok (.iconst 1, 1) := by decide +kernel
theorem dX9_birds_24 : decode cX9_birds 24 = .ok (.if_icmp .lt 18, 3) := by decide +kernel
theorem dX9_birds_27 : decode cX9_birds 27 = .ok (.iload 4, 2) := by decide +kernel
theorem dX9_birds_29 : decode cX9_birds 29 = .ok (.bipush 20, 2) := by decide +kernel
theorem dX9_birds_31 : decode cX9_birds 31 = .ok (.if_icmp .gt 11, 3) := by decide +kernel
theorem dX9_birds_34 : decode cX9_birds 34 = .ok (.iload 5, 2) := by decide +kernel
theorem dX9_birds_36 : decode cX9_birds 36 = .ok (.invokestatic 210, 3) := by decide +kernel
theorem dX9_birds_39 : decode cX9_birds 39 = .ok (.ifCond .ne 6, 3) := by decide +kernel
theorem dX9_birds_42 : decode cX9_birds 42 = .ok (.ldc 75, 2) := by decide +kernel
theorem dX9_birds_44 : decode cX9_birds 44 = .ok (.ireturn, 1) := by decide +kernel
theorem dX9_birds_45 : decode cX9_birds 45 = .ok (.aload_n 0, 1) := by decide +kernel
theorem dX9_birds_46 : decode cX9_birds 46 = .ok (.getfield 19, 3) := by decide +kernel
theorem dX9_birds_49 : decode cX9_birds 49 = .ok (.iload_n 2, 1) := by decide +kernel
theorem dX9_birds_50 : decode cX9_birds 50 = .ok (.invokevirtual 87, 3) := by decide +kernel
theorem dX9_birds_53 : decode cX9_birds 53 = .ok (.ifCond .ne 9, 3) := by decide +kernel
theorem dX9_birds_56 : decode cX9_birds 56 = .ok (.aload_n 0, 1) := by decide +kernel
theorem dX9_birds_57 : decode cX9_birds 57 = .ok (.iconst 1, 1) := by decide +kernel
theorem dX9_birds_58 : decode cX9_birds 58 = .ok (.invokevirtual 76, 3) := by decide +kernel
theorem dX9_birds_61 : decode cX9_birds 61 = .ok (.ireturn, 1) := by decide +kernel
theorem dX9_birds_62 : decode cX9_birds 62 = .ok (.aload_n 0, 1) := by decide +kernel
theorem dX9_birds_63 : decode cX9_birds 63 = .ok (.getfield 19, 3) := by decide +kernel
theorem dX9_birds_66 : decode cX9_birds 66 = .ok (.iload_n 2, 1) := by decide +kernel
theorem dX9_birds_67 : decode cX9_birds 67 = .ok (.iload_n 3, 1) := by decide +kernel
theorem dX9_birds_68 : decode cX9_birds 68 = .ok (.iload 4, 2) := by decide +kernel
theorem dX9_birds_70 : decode cX9_birds 70 = .ok (.invokevirtual 90, 3) := by decide +kernel
theorem dX9_birds_73 : decode cX9_birds 73 = .ok (.ifCond .ne 9, 3) := by decide +kernel
theorem dX9_birds_76 : decode cX9_birds 76 = .ok (.aload_n 0, 1) := by decide +kernel
theorem dX9_birds_77 : decode cX9_birds 77 = .ok (.iconst 2, 1) := by decide +kernel
theorem dX9_birds_78 : decode cX9_birds 78 = .ok (.invokevirtual 76, 3) := by decide +kernel
theorem dX9_birds_81 : decode cX9_birds 81 = .ok (.ireturn, 1) := by decide +kernel
theorem dX9_birds_82 : decode cX9_birds 82 = .ok (.aload_n 0, 1) := by decide +kernel
theorem dX9_birds_83 : decode cX9_birds 83 = .ok (.getfield 19, 3) := by decide +kernel
theorem dX9_birds_86 : decode cX9_birds 86 = .ok (.iload_n 2, 1) := by decide +kernel
theorem dX9_birds_87 : decode cX9_birds 87 = .ok (.iload_n 3, 1) := by decide +kernel
theorem dX9_birds_88 : decode cX9_birds 88 = .ok (.aload_n 0, 1) := by decide +kernel
theorem dX9_birds_89 : decode cX9_birds 89 = .ok (.getfield 67, 3) := by decide +kernel
theorem dX9_birds_92 : decode cX9_birds 92 = .ok (.iload 4, 2) := by decide +kernel
theorem dX9_birds_94 : decode cX9_birds 94 = .ok (.invokevirtual 242, 3) := by decide +kernel
theorem dX9_birds_97 : decode cX9_birds 97 = .ok (.aload_n 0, 1) := by decide +kernel
theorem dX9_birds_98 : decode cX9_birds 98 = .ok (.getfield 49, 3) := by decide +kernel
theorem dX9_birds_101 : decode cX9_birds 101 = .ok (.aload_n 0, 1) := by decide +kernel
theorem dX9_birds_102 : decode cX9_birds 102 = .ok (.getfield 26, 3) := by decide +kernel
theorem dX9_birds_105 : decode cX9_birds 105 = .ok (.iload_n 1, 1) := by decide +kernel
theorem dX9_birds_106 : decode cX9_birds 106 = .ok (.invokevirtual 201, 3) := by decide +kernel
theorem dX9_birds_109 : decode cX9_birds 109 = .ok (.aload_n 0, 1) := by decide +kernel
theorem dX9_birds_110 : decode cX9_birds 110 = .ok (.iload 4, 2) := by decide +kernel
theorem dX9_birds_112 : decode cX9_birds 112 = .ok (.aload_n 0, 1) := by decide +kernel
theorem dX9_birds_113 : decode cX9_birds 113 = .ok (.getfield 49, 3) := by decide +kernel
theorem dX9_birds_116 : decode cX9_birds 116 = .ok (.aload_n 0, 1) := by decide +kernel
theorem dX9_birds_117 : decode cX9_birds 117 = .ok (.getfield 67, 3) := by decide +kernel
theorem dX9_birds_120 : decode cX9_birds 120 = .ok (.iload 4, 2) := by decide +kernel
theorem dX9_birds_122 : decode cX9_birds 122 = .ok (.iload 5, 2) := by decide +kernel
theorem dX9_birds_124 : decode cX9_birds 124 = .ok (.invokevirtual 246, 3) := by decide +kernel
theorem dX9_birds_127 : decode cX9_birds 127 = .ok (.isub, 1) := by decide +kernel
theorem dX9_birds_128 : decode cX9_birds 128 = .ok (.invokevirtual 84, 3) := by decide +kernel
theorem dX9_birds_131 : decode cX9_birds 131 = .ok (.ireturn, 1) := by decide +kernel
set_option maxRecDepth 100000 in
theorem rX9_birds_0 {p : Program} {l : Launch} {e : Env} {s : State} {m : MethodId} {args : Array Value} {below : List Frame} {meth : Method} {c : Code} {D : va_G} {cA : Nat → ClassId} {ad : Nat → Nat} {Ret : zR} (C : z_Cx p { frames := 4, cells := 0, slots := 0, locals := 88 } s m args c cX9_birds yX9_birds.cls 6 D cA ad) (hr : meth.sig.returnType = (some .int)) (hlocks : meth.locks = false) : ∀ L st σ, tX9_birds_0 (z_X p l e { frames := 4, cells := 0, slots := 0, locals := 88 } s m args below meth c (MQ below (z_Qc D cA ad Ret) args s 0 0 (z_A ad)) 6 D cA ad true) Ret L st σ → z_X p l e { frames := 4, cells := 0, slots := 0, locals := 88 } s m args below meth c (MQ below (z_Qc D cA ad Ret) args s 0 0 (z_A ad)) 6 D cA ad true 0 L st σ := (s_aload_n C dX9_birds_0 rfl (s_getr C dX9_birds_1 (j := 2) cls_X9 (by decide) rfl (by decide) (by decide) (by decide +kernel) wd_359 (s_getr C dX9_birds_4 (j := 1) cls_X8 (by decide) rfl (by decide) (by decide) (by decide +kernel) wd_261 (s_iload_n C dX9_birds_7 rfl (s_cv1 C dX9_birds_8 (okX7_has l) cls_X7 wd_726 wd_727 wd_728 wd_80 wd_729 ⟨by decide, by decide, by decide +kernel⟩ ⟨by decide, by decide⟩ (s_ifeq C dX9_birds_11 (by decide) (s_ldc C dX9_birds_42 (v := -1000001) wd_404 ⟨by decide, by decide⟩ (s_iret C dX9_birds_44 hr hlocks)) (s_iload_n C dX9_birds_14 rfl (s_cs1 C dX9_birds_15 (okX5_isRow l) wd_401 wd_402 wd_77 wd_403 ⟨by decide, by decide, by decide +kernel⟩ ⟨by decide, by decide⟩ (s_ifeq C dX9_birds_18 (by decide) (s_ldc C dX9_birds_42 (v := -1000001) wd_404 ⟨by decide, by decide⟩ (s_iret C dX9_birds_44 hr hlocks)) (s_iload C dX9_birds_21 (s_iconst C dX9_birds_23 rfl ⟨by decide, by decide⟩ (s_iclt C dX9_birds_24 (by decide) (s_ldc C dX9_birds_42 (v := -1000001) wd_404 ⟨by decide, by decide⟩ (s_iret C dX9_birds_44 hr hlocks)) (s_iload C dX9_birds_27 (s_bipush C dX9_birds_29 rfl ⟨by decide, by decide⟩ (s_icgt C dX9_birds_31 (by decide) (s_ldc C dX9_birds_42 (v := -1000001) wd_404 ⟨by decide, by decide⟩ (s_iret C dX9_birds_44 hr hlocks)) (s_iload C dX9_birds_34 (s_cs1 C dX9_birds_36 (okX9_isApart l) wd_748 wd_749 wd_75 wd_750 ⟨by decide, by decide, by decide +kernel⟩ ⟨by decide, by decide⟩ (s_ifne C dX9_birds_39 (by decide) (s_aload_n C dX9_birds_45 rfl (s_getr C dX9_birds_46 (j := 1) cls_X9 (by decide) rfl (by decide) (by decide) (by decide +kernel) wd_358 (s_iload_n C dX9_birds_49 rfl (s_cv1 C dX9_birds_50 (okX5_isThere l) cls_X5 wd_423 wd_424 wd_425 wd_77 wd_426 ⟨by decide, by decide, by decide +kernel⟩ ⟨by decide, by decide⟩ (s_ifne C dX9_birds_53 (by decide) (s_aload_n C dX9_birds_62 rfl (s_getr C dX9_birds_63 (j := 1) cls_X9 (by decide) rfl (by decide) (by decide) (by decide +kernel) wd_358 (s_iload_n C dX9_birds_66 rfl (s_iload_n C dX9_birds_67 rfl (s_iload C dX9_birds_68 (s_cv3 C dX9_birds_70 (okX5_hasPlaces l) cls_X5 wd_427 wd_428 wd_429 wd_77 wd_430 ⟨by decide, by decide, by decide +kernel⟩ ⟨by decide, by decide⟩ (s_ifne C dX9_birds_73 (by decide) (s_aload_n C dX9_birds_82 rfl (s_getr C dX9_birds_83 (j := 1) cls_X9 (by decide) rfl (by decide) (by decide) (by decide +kernel) wd_358 (s_iload_n C dX9_birds_86 rfl (s_iload_n C dX9_birds_87 rfl (s_aload_n C dX9_birds_88 rfl (s_getr C dX9_birds_89 (j := 10) cls_X9 (by decide) rfl (by decide) (by decide) (by decide +kernel) wd_367 (s_iload C dX9_birds_92 (s_cv4 C dX9_birds_94 (okX5_read l) cls_X5 wd_820 wd_821 wd_822 wd_77 wd_823 ⟨by decide, by decide, by decide +kernel⟩ ⟨by decide, by decide⟩ (s_aload_n C dX9_birds_97 rfl (s_getr C dX9_birds_98 (j := 7) cls_X9 (by decide) rfl (by decide) (by decide) (by decide +kernel) wd_364 (s_aload_n C dX9_birds_101 rfl (s_getr C dX9_birds_102 (j := 2) cls_X9 (by decide) rfl (by decide) (by decide) (by decide +kernel) wd_359 (s_iload_n C dX9_birds_105 rfl (s_cv2 C dX9_birds_106 (okX3_listen l) cls_X3 wd_730 wd_731 wd_732 wd_82 wd_733 ⟨by decide, by decide, by decide +kernel⟩ ⟨by decide, by decide⟩ (s_aload_n C dX9_birds_109 rfl (s_iload C dX9_birds_110 (s_aload_n C dX9_birds_112 rfl (s_getr C dX9_birds_113 (j := 7) cls_X9 (by decide) rfl (by decide) (by decide) (by decide +kernel) wd_364 (s_aload_n C dX9_birds_116 rfl (s_getr C dX9_birds_117 (j := 10) cls_X9 (by decide) rfl (by decide) (by decide) (by decide +kernel) wd_367 (s_iload C dX9_birds_120 (s_iload C dX9_birds_122 (s_cv3 C dX9_birds_124 (okX3_sharedWith l) cls_X3 wd_824 wd_825 wd_826 wd_82 wd_827 ⟨by decide, by decide, by decide +kernel⟩ ⟨by decide, by decide⟩ (s_isub C dX9_birds_127 (s_cv1 C dX9_birds_128 (okX9_passed l) cls_X9 wd_415 wd_417 wd_1 wd_75 wd_418 ⟨by decide, by decide, by decide +kernel⟩ ⟨by decide, by decide⟩ (s_iret C dX9_birds_131 hr hlocks)))))))))))))))))))))))))) (s_aload_n C dX9_birds_76 rfl (s_iconst C dX9_birds_77 rfl ⟨by decide, by decide⟩ (s_cv1 C dX9_birds_78 (okX9_found l) cls_X9 wd_405 wd_407 wd_0 wd_75 wd_408 ⟨by decide, by decide, by decide +kernel⟩ ⟨by decide, by decide⟩ (s_iret C dX9_birds_81 hr hlocks))))))))))) (s_aload_n C dX9_birds_56 rfl (s_iconst C dX9_birds_57 rfl ⟨by decide, by decide⟩ (s_cv1 C dX9_birds_58 (okX9_found l) cls_X9 wd_405 wd_407 wd_0 wd_75 wd_408 ⟨by decide, by decide, by decide +kernel⟩ ⟨by decide, by decide⟩ (s_iret C dX9_birds_61 hr hlocks))))))))) (s_ldc C dX9_birds_42 (v := -1000001) wd_404 ⟨by decide, by decide⟩ (s_iret C dX9_birds_44 hr hlocks))))))))))))))))))))
theorem okX9_birds (l : Launch) : z_OK l yX9_birds cX9_birds 6 (some .int) 4 88 SX9_birds := by
  refine z_ok_of true (by decide +kernel) ?_ ?_
  · intro as σ Ret h
    obtain ⟨k0, x1, x2, x3, x4, x5, rfl⟩ := pX9_birds h
    exact ⟨Nat.le_of_ble_eq_true rfl, by simp⟩
  · intro p e s m args below meth c D cA ad Ret C hr hlocks as σ has hσ h
    obtain ⟨k0, x1, x2, x3, x4, x5, rfl⟩ := pX9_birds h
    exact vX9_birds (rX9_birds_0 C hr hlocks) k0 x1 x2 x3 x4 x5 σ (has _ (List.mem_of_getElem? (i := 0) rfl)) (has _ (List.mem_of_getElem? (i := 1) rfl)) (has _ (List.mem_of_getElem? (i := 2) rfl)) (has _ (List.mem_of_getElem? (i := 3) rfl)) (has _ (List.mem_of_getElem? (i := 4) rfl)) (has _ (List.mem_of_getElem? (i := 5) rfl)) hσ h
def SX10_isNearLong : zS := fun as σ Ret => match as with
  | [.inr (.inl a), .inr (.inl b), .inl t] => ((-5000000000 ≤ a ∧ a ≤ 5000000000) ∧ -5000000000 ≤ b ∧ b ≤ 5000000000) ∧ Ret (some (.inl (if a - b ≤ t ∧ b - a ≤ t then 1 else 0))) σ
  | _ => False
def tX10_isNearLong_0 (X : Nat → zB) (Ret : zR) (L : zL) (st : List zV) (σ : zM) : Prop := (z_lload 0 (z_lload 2 (z_lsub (z_iload 4 (z_i2l (z_lcmp (z_ifgt (z_push 0 (z_zret Ret)) (z_lload 2 (z_lload 0 (z_lsub (z_iload 4 (z_i2l (z_lcmp (z_ifgt (z_push 0 (z_zret Ret)) (z_push 1 (z_goto (z_zret Ret))))))))))))))))) L st σ
theorem pX10_isNearLong {as : List zV} {σ : zM} {Ret : zR} (h : SX10_isNearLong as σ Ret) : ∃ (x1 : Int) (x2 : Int) (x3 : Int), as = [.inr (.inl x1), .inr (.inl x2), .inl x3] := by
  unfold SX10_isNearLong at h
  split at h
  · exact ⟨_, _, _, rfl⟩
  · exact h.elim
set_option maxRecDepth 10000 in
set_option maxHeartbeats 4000000 in
theorem vX10_isNearLong {X : Nat → zB} {Ret : zR} (h0 : ∀ L st σ, tX10_isNearLong_0 X Ret L st σ → X 0 L st σ) (x1 : Int) (x2 : Int) (x3 : Int) (σ : zM) (hx1 : -9223372036854775808 ≤ x1 ∧ x1 ≤ 9223372036854775807) (hx2 : -9223372036854775808 ≤ x2 ∧ x2 ≤ 9223372036854775807) (hx3 : -2147483648 ≤ x3 ∧ x3 ≤ 2147483647) (hσ : z_okm σ) (h : SX10_isNearLong [.inr (.inl x1), .inr (.inl x2), .inl x3] σ Ret) : X 0 [some (.inr (.inl x1)), none, some (.inr (.inl x2)), none, some (.inl x3)] [] σ := by
  obtain ⟨hc, h⟩ := h
  refine h0 _ _ _ ?_
  simp only [z_push, z_lpush, z_iload, z_lload, z_aload, z_istore, z_istoreP, z_lstore, z_astore, z_iinc, z_iincP, z_iadd, z_isub, z_imul, z_iaddW, z_isubW, z_imulW, z_idiv, z_irem, z_iand, z_ior, z_ixor, z_ishl, z_ishr, z_iushr, z_ineg, z_i2l, z_i2b, z_i2s, z_i2c, z_l2i, z_ladd, z_lsub, z_land, z_lor, z_lshl, z_lshr, z_lcmp, z_dup, z_pop, z_dup2, z_goto, z_tsw, z_cases, z_geti, z_getr, z_puti, z_putz, z_ald, z_iast, z_bast, z_zast, z_alen, z_acopy, z_mmax, z_mmin, z_mabs, z_mabsL, z_iret, z_zret, z_nret, z_lret, z_aret, z_vret, z_cat, z_ldcs, z_strv, z_strc, z_gcs, z_gfm, z_sln, z_sald, z_ifeq, z_ifne, z_iflt, z_ifge, z_ifgt, z_ifle, z_iceq, z_icne, z_iclt, z_icge, z_icgt, z_icle, z_cs0, z_cs1, z_cs2, z_cs3, z_cs4, z_cs5, z_cs6, z_cs7, z_cv0, z_cv1, z_cv2, z_cv3, z_cv4, z_cv5, z_cv6, z_cv7, z_g0, z_s0, z_g1, z_s1, z_g2, z_s2, z_g3, z_s3, z_g4, z_s4, z_g5, z_s5, z_g6, z_s6, z_g7, z_s7, z_g8, z_s8, z_g9, z_s9, z_g10, z_s10, z_g11, z_s11, z_g12, z_s12, z_g13, z_s13, z_b0, z_b1, z_b0n, z_b1n, z_up_far1, z_up_far2, z_up_far3, z_up_far4, z_up_far5, z_up_far6, Classical.not_not, not_true_eq_false, z_in, z_inL, Int.cast_ofNat_Int, Nat.reduceLeDiff, List.length_cons, List.length_nil, Nat.reduceAdd, Nat.zero_add, Nat.le_refl, true_and, and_true, List.length, Nat.reduceLT, true_or, or_true, false_or, or_false, false_and, and_false, not_true_eq_false, not_false_eq_true, forall_const, false_implies, true_implies, Int.reduceEq, Int.reduceLT, Int.reduceLE, Int.reduceAdd, Int.reduceSub, Int.reduceMul, Int.reduceNeg, Int.reduceToNat, Int.toNat_natCast, ↓reduceIte, reduceIte, Nat.reduceEqDiff, Nat.reduceSub, Nat.reduceMul, ne_eq, Int.zero_add, Int.add_zero, Int.sub_zero, Nat.add_zero, Int.ofNat_eq_natCast, tX10_isNearLong_0]
  by_cases c : x1 - x2 ≤ x3 ∧ x2 - x1 ≤ x3
  · rw [if_pos c] at h
    repeat' (first | (intro _) | (with_reducible assumption) | (refine And.intro ?_ ?_))
    all_goals first | omega | assumption | (refine z_fin h ?_ rfl; first | rfl | omega | (split <;> omega) | (split <;> split <;> omega)) | skip
    all_goals (exfalso; rename_i e; revert e; split <;> (try split) <;> omega)
  · rw [if_neg c] at h
    repeat' (first | (intro _) | (with_reducible assumption) | (refine And.intro ?_ ?_))
    all_goals first | omega | assumption | (refine z_fin h ?_ rfl; first | rfl | omega | (split <;> omega) | (split <;> split <;> omega)) | skip
    all_goals (exfalso; rename_i e1 e2; revert e1 e2; split <;> split <;> (try split) <;> (try split) <;> omega)
theorem dX10_isNearLong_0 : decode cX10_isNearLong 0 = .ok (.lload_n 0, 1) := by decide +kernel
theorem dX10_isNearLong_1 : decode cX10_isNearLong 1 = .ok (.lload_n 2, 1) := by decide +kernel
theorem dX10_isNearLong_2 : decode cX10_isNearLong 2 = .ok (.lsub, 1) := by decide +kernel
theorem dX10_isNearLong_3 : decode cX10_isNearLong 3 = .ok (.iload 4, 2) := by decide +kernel
theorem dX10_isNearLong_5 : decode cX10_isNearLong 5 = .ok (.i2l, 1) := by decide +kernel
theorem dX10_isNearLong_6 : decode cX10_isNearLong 6 = .ok (.lcmp, 1) := by decide +kernel
theorem dX10_isNearLong_7 : decode cX10_isNearLong 7 = .ok (.ifCond .gt 17, 3) := by decide +kernel
theorem dX10_isNearLong_10 : decode cX10_isNearLong 10 = .ok (.lload_n 2, 1) := by decide +kernel
theorem dX10_isNearLong_11 : decode cX10_isNearLong 11 = .ok (.lload_n 0, 1) := by decide +kernel
theorem dX10_isNearLong_12 : decode cX10_isNearLong 12 = .ok (.lsub, 1) := by decide +kernel
theorem dX10_isNearLong_13 : decode cX10_isNearLong 13 = .ok (.iload 4, 2) := by decide +kernel
theorem dX10_isNearLong_15 : decode cX10_isNearLong 15 = .ok (.i2l, 1) := by decide +kernel
theorem dX10_isNearLong_16 : decode cX10_isNearLong 16 = .ok (.lcmp, 1) := by decide +kernel
theorem dX10_isNearLong_17 : decode cX10_isNearLong 17 = .ok (.ifCond .gt 7, 3) := by decide +kernel
theorem dX10_isNearLong_20 : decode cX10_isNearLong 20 = .ok (.iconst 1, 1) := by decide +kernel
theorem dX10_isNearLong_21 : decode cX10_isNearLong 21 = .ok (.goto 4, 3) := by decide +kernel
theorem dX10_isNearLong_24 : decode cX10_isNearLong 24 = .ok (.iconst 0, 1) := by decide +kernel
theorem dX10_isNearLong_25 : decode cX10_isNearLong 25 = .ok (.ireturn, 1) := by decide +kernel
set_option maxRecDepth 100000 in
theorem rX10_isNearLong_0 {p : Program} {l : Launch} {e : Env} {s : State} {m : MethodId} {args : Array Value} {below : List Frame} {meth : Method} {c : Code} {D : va_G} {cA : Nat → ClassId} {ad : Nat → Nat} {Ret : zR} (C : z_Cx p { frames := 0, cells := 0, slots := 0, locals := 0 } s m args c cX10_isNearLong yX10_isNearLong.cls 5 D cA ad) (hr : meth.sig.returnType = (some .boolean)) (hlocks : meth.locks = false) : ∀ L st σ, tX10_isNearLong_0 (z_X p l e { frames := 0, cells := 0, slots := 0, locals := 0 } s m args below meth c (MQ below (z_Qc D cA ad Ret) args s 0 0 (z_A ad)) 5 D cA ad false) Ret L st σ → z_X p l e { frames := 0, cells := 0, slots := 0, locals := 0 } s m args below meth c (MQ below (z_Qc D cA ad Ret) args s 0 0 (z_A ad)) 5 D cA ad false 0 L st σ := (s_lload_n C dX10_isNearLong_0 rfl (s_lload_n C dX10_isNearLong_1 rfl (s_lsub C dX10_isNearLong_2 (s_iload C dX10_isNearLong_3 (s_i2l C dX10_isNearLong_5 (s_lcmp C dX10_isNearLong_6 (s_ifgt C dX10_isNearLong_7 (by decide) (s_iconst C dX10_isNearLong_24 rfl ⟨by decide, by decide⟩ (s_zret C dX10_isNearLong_25 hr ⟨rfl, rfl⟩ hlocks)) (s_lload_n C dX10_isNearLong_10 rfl (s_lload_n C dX10_isNearLong_11 rfl (s_lsub C dX10_isNearLong_12 (s_iload C dX10_isNearLong_13 (s_i2l C dX10_isNearLong_15 (s_lcmp C dX10_isNearLong_16 (s_ifgt C dX10_isNearLong_17 (by decide) (s_iconst C dX10_isNearLong_24 rfl ⟨by decide, by decide⟩ (s_zret C dX10_isNearLong_25 hr ⟨rfl, rfl⟩ hlocks)) (s_iconst C dX10_isNearLong_20 rfl ⟨by decide, by decide⟩ (s_goto C dX10_isNearLong_21 (by decide) (s_zret C dX10_isNearLong_25 hr ⟨rfl, rfl⟩ hlocks)))))))))))))))))
theorem okX10_isNearLong (l : Launch) : z_OK l yX10_isNearLong cX10_isNearLong 5 (some .boolean) 0 0 SX10_isNearLong := by
  refine z_ok_of false (by decide +kernel) ?_ ?_
  · intro as σ Ret h
    obtain ⟨x1, x2, x3, rfl⟩ := pX10_isNearLong h
    exact ⟨Nat.le_of_ble_eq_true rfl, by intro h; cases h⟩
  · intro p e s m args below meth c D cA ad Ret C hr hlocks as σ has hσ h
    obtain ⟨x1, x2, x3, rfl⟩ := pX10_isNearLong h
    exact vX10_isNearLong (rX10_isNearLong_0 C hr hlocks) x1 x2 x3 σ (has _ (List.mem_of_getElem? (i := 0) rfl)) (has _ (List.mem_of_getElem? (i := 1) rfl)) (has _ (List.mem_of_getElem? (i := 2) rfl)) hσ h
