/-! slips in the model -/
def SX10_slipsNow : zS := fun as σ Ret => match as with
  | [.inr (.inr (10, 0, _)), .inl t] => ((0 ≤ σ 93 2 ∧ σ 93 2 ≤ 10) ∧ (0 ≤ σ 89 24 ∧ σ 89 24 ≤ 12) ∧ (∀ i : Nat, (i : Int) < σ 89 24 → 0 ≤ σ 99 i ∧ σ 99 i ≤ 20000) ∧ ∀ j : Nat, (j : Int) < σ 93 2 → 0 ≤ σ 93 (96 + j) ∧ σ 93 (96 + j) ≤ 999) ∧ ∀ σ' : zM, (∀ c j, c ≠ 101 → c ≠ 102 → σ' c j = σ c j) → Ret (some (.inl (q_dp (q_c (σ 99) (fun j => σ 93 (96 + j)) t) (σ 89 24).toNat (σ 93 2).toNat))) σ'
  | _ => False
def tX10_slipsNow_0 (X : Nat → zB) (Ret : zR) (L : zL) (st : List zV) (σ : zM) : Prop := (z_aload 0 (z_getr 10 4 100 106 (z_push 2 (z_ald 0 (z_istore 2 (z_push 0 (z_istore 3 (X 9)))))))) L st σ
def tX10_slipsNow_9 (X : Nat → zB) (Ret : zR) (L : zL) (st : List zV) (σ : zM) : Prop := (z_iload 3 (z_iload 2 (z_icgt (z_push 1 (z_istore 3 (X 29))) (z_aload 0 (z_getr 10 12 100 21 (z_iload 3 (z_iload 3 (z_iast (z_iinc 3 1 (z_goto (X 9))))))))))) L st σ
def tX10_slipsNow_29 (X : Nat → zB) (Ret : zR) (L : zL) (st : List zV) (σ : zM) : Prop := (z_iload 3 (z_aload 0 (z_geti 10 24 (z_icgt (z_aload 0 (z_getr 10 12 100 21 (z_iload 2 (z_ald 0 (z_iret Ret))))) (z_push 0 (z_istore 4 (X 40))))))) L st σ
def tX10_slipsNow_40 (X : Nat → zB) (Ret : zR) (L : zL) (st : List zV) (σ : zM) : Prop := (z_iload 4 (z_iload 2 (z_icgt (z_aload 0 (z_getr 10 12 100 21 (z_push 0 (z_iload 3 (z_iast (z_push 1 (z_istore 4 (X 76)))))))) (z_aload 0 (z_getr 10 13 100 21 (z_iload 4 (z_aload 0 (z_getr 10 12 100 21 (z_iload 4 (z_ald 0 (z_iast (z_iinc 4 1 (z_goto (X 40)))))))))))))) L st σ
def tX10_slipsNow_76 (X : Nat → zB) (Ret : zR) (L : zL) (st : List zV) (σ : zM) : Prop := (z_iload 4 (z_iload 2 (z_icgt (z_iinc 3 1 (z_goto (X 29))) (z_aload 0 (z_getr 10 10 100 12 (z_iload 3 (z_push 1 (z_isub (z_ald 0 (z_aload 0 (z_getr 10 4 100 106 (z_push 96 (z_iload 4 (z_iadd (z_push 1 (z_isub (z_ald 0 (z_iload 1 (z_cs3 SX10_isNear (z_istore 5 (z_aload 0 (z_getr 10 12 100 21 (z_iload 4 (z_aload 0 (z_getr 10 13 100 21 (z_iload 4 (z_push 1 (z_isub (z_ald 0 (z_iload 5 (z_ifeq (z_push 1 (z_iadd (z_push 1 (z_aload 0 (z_getr 10 13 100 21 (z_iload 4 (z_ald 0 (z_aload 0 (z_getr 10 12 100 21 (z_iload 4 (z_push 1 (z_isub (z_ald 0 (z_cs2 SX10_lesser (z_iadd (z_cs2 SX10_lesser (z_iast (z_iinc 4 1 (z_goto (X 76)))))))))))))))))))) (z_push 0 (z_goto (z_iadd (z_push 1 (z_aload 0 (z_getr 10 13 100 21 (z_iload 4 (z_ald 0 (z_aload 0 (z_getr 10 12 100 21 (z_iload 4 (z_push 1 (z_isub (z_ald 0 (z_cs2 SX10_lesser (z_iadd (z_cs2 SX10_lesser (z_iast (z_iinc 4 1 (z_goto (X 76)))))))))))))))))))))))))))))))))))))))))))))))))))) L st σ
theorem pX10_slipsNow {as : List zV} {σ : zM} {Ret : zR} (h : SX10_slipsNow as σ Ret) : ∃ (k0 : Nat) (x1 : Int), as = [.inr (.inr (10, 0, k0)), .inl x1] := by
  unfold SX10_slipsNow at h
  split at h
  · exact ⟨_, _, rfl⟩
  · exact h.elim
set_option maxRecDepth 10000 in
set_option maxHeartbeats 4000000 in
theorem vX10_slipsNow {X : Nat → zB} {Ret : zR} (h0 : ∀ L st σ, tX10_slipsNow_0 X Ret L st σ → X 0 L st σ) (h9 : ∀ L st σ, tX10_slipsNow_9 X Ret L st σ → X 9 L st σ) (h29 : ∀ L st σ, tX10_slipsNow_29 X Ret L st σ → X 29 L st σ) (h40 : ∀ L st σ, tX10_slipsNow_40 X Ret L st σ → X 40 L st σ) (h76 : ∀ L st σ, tX10_slipsNow_76 X Ret L st σ → X 76 L st σ) (k0 : Nat) (x1 : Int) (σ : zM) (hk0 : z_kd k0 = (10, 0)) (hx1 : -2147483648 ≤ x1 ∧ x1 ≤ 2147483647) (hσ : z_okm σ) (h : SX10_slipsNow [.inr (.inr (10, 0, k0)), .inl x1] σ Ret) : X 0 [some (.inr (.inr (10, 0, k0))), some (.inl x1), none, none, none, none] [] σ := by
  obtain ⟨⟨b2, bh, hr, hj⟩, h⟩ := h
  obtain rfl := z_kd10 hk0
  obtain ⟨n, hn⟩ := z_nat b2.1
  obtain ⟨H, hH⟩ := z_nat bh.1
  rw [hn, hH, Int.toNat_natCast, Int.toNat_natCast] at h
  generalize hc : q_c (σ 99) (fun j => σ 93 (96 + j)) x1 = c at h
  have cin : ∀ i j, 0 ≤ c i j ∧ c i j ≤ 1 := by subst hc; exact q_c_in _ _ _
  have din := q_dp_in cin
  have L76 : ∀ (d i j : Nat) (v5 : Option zV) (σ1 : zM), j + d = n + 1 → 1 ≤ j → i + 1 ≤ H → (∀ c j, c ≠ 101 → c ≠ 102 → σ1 c j = σ c j) → (∀ x, x ≤ n → σ1 102 x = q_dp c i x) → (∀ x, x < j → σ1 101 x = q_dp c (i + 1) x) → (∀ σ2 : zM, (∀ c j, c ≠ 101 → c ≠ 102 → σ2 c j = σ c j) → (∀ x, x ≤ n → σ2 101 x = q_dp c (i + 1) x) → ∀ v4 v5, X 29 [some (.inr (.inr (10, 0, 89))), some (.inl x1), some (.inl (n : Int)), some (.inl ((i : Int) + 2)), v4, v5] [] σ2) → X 76 [some (.inr (.inr (10, 0, 89))), some (.inl x1), some (.inl (n : Int)), some (.inl ((i : Int) + 1)), some (.inl (j : Int)), v5] [] σ1 := by
    intro d
    induction d with
    | zero =>
      intro i j v5 σ1 hd h1 hi f1 f2 f3 K
      obtain rfl : j = n + 1 := by omega
      have nx := K σ1 f1 (fun x hx => f3 x (by omega))
      refine h76 _ _ _ ?_
      simp only [z_push, z_lpush, z_iload, z_lload, z_aload, z_istore, z_istoreP, z_lstore, z_astore, z_iinc, z_iincP, z_iadd, z_isub, z_imul, z_iaddW, z_isubW, z_imulW, z_idiv, z_irem, z_iand, z_ior, z_ixor, z_ishl, z_ishr, z_iushr, z_ineg, z_i2l, z_i2b, z_i2s, z_i2c, z_l2i, z_ladd, z_lsub, z_land, z_lor, z_lshl, z_lshr, z_lcmp, z_dup, z_pop, z_dup2, z_goto, z_tsw, z_cases, z_geti, z_getr, z_puti, z_putz, z_ald, z_iast, z_bast, z_zast, z_alen, z_acopy, z_mmax, z_mmin, z_mabs, z_mabsL, z_iret, z_zret, z_nret, z_lret, z_aret, z_vret, z_cat, z_ldcs, z_strv, z_strc, z_gcs, z_gfm, z_sln, z_sald, z_ifeq, z_ifne, z_iflt, z_ifge, z_ifgt, z_ifle, z_iceq, z_icne, z_iclt, z_icge, z_icgt, z_icle, z_cs0, z_cs1, z_cs2, z_cs3, z_cs4, z_cs5, z_cs6, z_cs7, z_cv0, z_cv1, z_cv2, z_cv3, z_cv4, z_cv5, z_cv6, z_cv7, z_g0, z_s0, z_g1, z_s1, z_g2, z_s2, z_g3, z_s3, z_g4, z_s4, z_g5, z_s5, z_g6, z_s6, z_g7, z_s7, z_g8, z_s8, z_g9, z_s9, z_g10, z_s10, z_g11, z_s11, z_g12, z_s12, z_g13, z_s13, z_b0, z_b1, z_b0n, z_b1n, z_up_far1, z_up_far2, z_up_far3, z_up_far4, z_up_far5, z_up_far6, Classical.not_not, not_true_eq_false, z_in, z_inL, Int.cast_ofNat_Int, Nat.reduceLeDiff, List.length_cons, List.length_nil, Nat.reduceAdd, Nat.zero_add, Nat.le_refl, true_and, and_true, List.length, Nat.reduceLT, true_or, or_true, false_or, or_false, false_and, and_false, not_true_eq_false, not_false_eq_true, forall_const, false_implies, true_implies, Int.reduceEq, Int.reduceLT, Int.reduceLE, Int.reduceAdd, Int.reduceSub, Int.reduceMul, Int.reduceNeg, Int.reduceToNat, Int.toNat_natCast, ↓reduceIte, reduceIte, Nat.reduceEqDiff, Nat.reduceSub, Nat.reduceMul, ne_eq, Int.zero_add, Int.add_zero, Int.sub_zero, Nat.add_zero, Int.ofNat_eq_natCast, tX10_slipsNow_76]
      refine ⟨fun _ => ⟨by omega, ?_⟩, fun e => absurd e (by omega)⟩
      rw [show (i : Int) + 1 + 1 = (i : Int) + 2 by omega]
      exact nx _ _
    | succ d ih =>
      intro i j v5 σ1 hd h1 hi f1 f2 f3 K
      obtain ⟨y, rfl⟩ : ∃ y, j = y + 1 := ⟨j - 1, by omega⟩
      have e99 : σ1 99 i = σ 99 i := f1 99 i (by omega) (by omega)
      have e93 : σ1 93 (96 + y) = σ 93 (96 + y) := f1 93 _ (by omega) (by omega)
      have a1 := f2 y (by omega)
      have a2 := f2 (y + 1) (by omega)
      have a3 := f3 y (by omega)
      have d1 := din i y
      have d2 := din i (y + 1)
      have d3 := din (i + 1) y
      have r1 := hr i (by omega)
      have r2 := hj y (by omega)
      have cc : c i y = if σ 99 i - σ 93 (96 + y) ≤ x1 ∧ σ 93 (96 + y) - σ 99 i ≤ x1 then 0 else 1 := by subst hc; rfl
      have ds : q_dp c (i + 1) (y + 1) = min (q_dp c i y + c i y) (1 + min (q_dp c i (y + 1)) (q_dp c (i + 1) y)) := by rw [q_dp_S]; omega
      have nx := fun v => ih i (y + 2) v (z_up σ1 101 (y + 1) (q_dp c (i + 1) (y + 1))) (by omega) (by omega) hi (fun c j g1 g2 => by rw [z_up_ne (by omega)]; exact f1 c j g1 g2) (fun x hx => by rw [z_up_ne (by omega)]; exact f2 x hx) (fun x hx => by
        by_cases e : x = y + 1
        · subst e; rw [z_up_eq]
        · rw [z_up_ne (by omega)]; exact f3 x (by omega)) K
      rw [ds] at nx
      have t1 : ((i : Int) + 1 - 1).toNat = i := by omega
      have t2 : (96 + ((y + 1 : Nat) : Int) - 1).toNat = 96 + y := by omega
      have t3 : (((y + 1 : Nat) : Int) - 1).toNat = y := by omega
      have t4 : (((y + 1 : Nat) : Int) + 1) = ((y + 2 : Nat) : Int) := by omega
      refine h76 _ _ _ ?_
      by_cases cn : σ 99 i - σ 93 (96 + y) ≤ x1 ∧ σ 93 (96 + y) - σ 99 i ≤ x1
      · rw [if_pos cn] at cc
        rw [cc] at nx
        simp only [z_push, z_lpush, z_iload, z_lload, z_aload, z_istore, z_istoreP, z_lstore, z_astore, z_iinc, z_iincP, z_iadd, z_isub, z_imul, z_iaddW, z_isubW, z_imulW, z_idiv, z_irem, z_iand, z_ior, z_ixor, z_ishl, z_ishr, z_iushr, z_ineg, z_i2l, z_i2b, z_i2s, z_i2c, z_l2i, z_ladd, z_lsub, z_land, z_lor, z_lshl, z_lshr, z_lcmp, z_dup, z_pop, z_dup2, z_goto, z_tsw, z_cases, z_geti, z_getr, z_puti, z_putz, z_ald, z_iast, z_bast, z_zast, z_alen, z_acopy, z_mmax, z_mmin, z_mabs, z_mabsL, z_iret, z_zret, z_nret, z_lret, z_aret, z_vret, z_cat, z_ldcs, z_strv, z_strc, z_gcs, z_gfm, z_sln, z_sald, z_ifeq, z_ifne, z_iflt, z_ifge, z_ifgt, z_ifle, z_iceq, z_icne, z_iclt, z_icge, z_icgt, z_icle, z_cs0, z_cs1, z_cs2, z_cs3, z_cs4, z_cs5, z_cs6, z_cs7, z_cv0, z_cv1, z_cv2, z_cv3, z_cv4, z_cv5, z_cv6, z_cv7, z_g0, z_s0, z_g1, z_s1, z_g2, z_s2, z_g3, z_s3, z_g4, z_s4, z_g5, z_s5, z_g6, z_s6, z_g7, z_s7, z_g8, z_s8, z_g9, z_s9, z_g10, z_s10, z_g11, z_s11, z_g12, z_s12, z_g13, z_s13, z_b0, z_b1, z_b0n, z_b1n, z_up_far1, z_up_far2, z_up_far3, z_up_far4, z_up_far5, z_up_far6, Classical.not_not, not_true_eq_false, z_in, z_inL, Int.cast_ofNat_Int, Nat.reduceLeDiff, List.length_cons, List.length_nil, Nat.reduceAdd, Nat.zero_add, Nat.le_refl, true_and, and_true, List.length, Nat.reduceLT, true_or, or_true, false_or, or_false, false_and, and_false, not_true_eq_false, not_false_eq_true, forall_const, false_implies, true_implies, Int.reduceEq, Int.reduceLT, Int.reduceLE, Int.reduceAdd, Int.reduceSub, Int.reduceMul, Int.reduceNeg, Int.reduceToNat, Int.toNat_natCast, ↓reduceIte, reduceIte, Nat.reduceEqDiff, Nat.reduceSub, Nat.reduceMul, ne_eq, Int.zero_add, Int.add_zero, Int.sub_zero, Nat.add_zero, Int.ofNat_eq_natCast, tX10_slipsNow_76, SX10_isNear, SX10_lesser, t1, t2, t3, t4, e99, e93, a1, a2, a3, cn]
        simp only [Int.add_zero] at nx
        repeat' (first | (intro _) | (with_reducible assumption) | (refine And.intro ?_ ?_))
        all_goals first | omega | assumption | (refine z_fin nx ?_ rfl; first | rfl | omega | (split <;> omega) | (split <;> split <;> omega)) | skip
        all_goals exact nx _
      · rw [if_neg cn] at cc
        rw [cc] at nx
        simp only [z_push, z_lpush, z_iload, z_lload, z_aload, z_istore, z_istoreP, z_lstore, z_astore, z_iinc, z_iincP, z_iadd, z_isub, z_imul, z_iaddW, z_isubW, z_imulW, z_idiv, z_irem, z_iand, z_ior, z_ixor, z_ishl, z_ishr, z_iushr, z_ineg, z_i2l, z_i2b, z_i2s, z_i2c, z_l2i, z_ladd, z_lsub, z_land, z_lor, z_lshl, z_lshr, z_lcmp, z_dup, z_pop, z_dup2, z_goto, z_tsw, z_cases, z_geti, z_getr, z_puti, z_putz, z_ald, z_iast, z_bast, z_zast, z_alen, z_acopy, z_mmax, z_mmin, z_mabs, z_mabsL, z_iret, z_zret, z_nret, z_lret, z_aret, z_vret, z_cat, z_ldcs, z_strv, z_strc, z_gcs, z_gfm, z_sln, z_sald, z_ifeq, z_ifne, z_iflt, z_ifge, z_ifgt, z_ifle, z_iceq, z_icne, z_iclt, z_icge, z_icgt, z_icle, z_cs0, z_cs1, z_cs2, z_cs3, z_cs4, z_cs5, z_cs6, z_cs7, z_cv0, z_cv1, z_cv2, z_cv3, z_cv4, z_cv5, z_cv6, z_cv7, z_g0, z_s0, z_g1, z_s1, z_g2, z_s2, z_g3, z_s3, z_g4, z_s4, z_g5, z_s5, z_g6, z_s6, z_g7, z_s7, z_g8, z_s8, z_g9, z_s9, z_g10, z_s10, z_g11, z_s11, z_g12, z_s12, z_g13, z_s13, z_b0, z_b1, z_b0n, z_b1n, z_up_far1, z_up_far2, z_up_far3, z_up_far4, z_up_far5, z_up_far6, Classical.not_not, not_true_eq_false, z_in, z_inL, Int.cast_ofNat_Int, Nat.reduceLeDiff, List.length_cons, List.length_nil, Nat.reduceAdd, Nat.zero_add, Nat.le_refl, true_and, and_true, List.length, Nat.reduceLT, true_or, or_true, false_or, or_false, false_and, and_false, not_true_eq_false, not_false_eq_true, forall_const, false_implies, true_implies, Int.reduceEq, Int.reduceLT, Int.reduceLE, Int.reduceAdd, Int.reduceSub, Int.reduceMul, Int.reduceNeg, Int.reduceToNat, Int.toNat_natCast, ↓reduceIte, reduceIte, Nat.reduceEqDiff, Nat.reduceSub, Nat.reduceMul, ne_eq, Int.zero_add, Int.add_zero, Int.sub_zero, Nat.add_zero, Int.ofNat_eq_natCast, tX10_slipsNow_76, SX10_isNear, SX10_lesser, t1, t2, t3, t4, e99, e93, a1, a2, a3, cn]
        repeat' (first | (intro _) | (with_reducible assumption) | (refine And.intro ?_ ?_))
        all_goals first | omega | assumption | (refine z_fin nx ?_ rfl; first | rfl | omega | (split <;> omega) | (split <;> split <;> omega)) | skip
        all_goals exact nx _
  have L40 : ∀ (d i j : Nat) (v5 : Option zV) (σ1 : zM), j + d = n + 1 → i + 1 ≤ H → (∀ c j, c ≠ 101 → c ≠ 102 → σ1 c j = σ c j) → (∀ x, x ≤ n → σ1 101 x = q_dp c i x) → (∀ x, x < j → σ1 102 x = q_dp c i x) → (∀ σ2 : zM, (∀ c j, c ≠ 101 → c ≠ 102 → σ2 c j = σ c j) → (∀ x, x ≤ n → σ2 101 x = q_dp c (i + 1) x) → ∀ v4 v5, X 29 [some (.inr (.inr (10, 0, 89))), some (.inl x1), some (.inl (n : Int)), some (.inl ((i : Int) + 2)), v4, v5] [] σ2) → X 40 [some (.inr (.inr (10, 0, 89))), some (.inl x1), some (.inl (n : Int)), some (.inl ((i : Int) + 1)), some (.inl (j : Int)), v5] [] σ1 := by
    intro d
    induction d with
    | zero =>
      intro i j v5 σ1 hd hi f1 f2 f3 K
      obtain rfl : j = n + 1 := by omega
      have nx := L76 n i 1 v5 (z_up σ1 101 0 ((i : Int) + 1)) (by omega) (by omega) hi (fun c j g1 g2 => by rw [z_up_ne (by omega)]; exact f1 c j g1 g2) (fun x hx => by rw [z_up_ne (by omega)]; exact f3 x (by omega)) (fun x hx => by
        obtain rfl : x = 0 := by omega
        rw [z_up_eq, q_dp_i0]; rfl) K
      refine h40 _ _ _ ?_
      simp only [z_push, z_lpush, z_iload, z_lload, z_aload, z_istore, z_istoreP, z_lstore, z_astore, z_iinc, z_iincP, z_iadd, z_isub, z_imul, z_iaddW, z_isubW, z_imulW, z_idiv, z_irem, z_iand, z_ior, z_ixor, z_ishl, z_ishr, z_iushr, z_ineg, z_i2l, z_i2b, z_i2s, z_i2c, z_l2i, z_ladd, z_lsub, z_land, z_lor, z_lshl, z_lshr, z_lcmp, z_dup, z_pop, z_dup2, z_goto, z_tsw, z_cases, z_geti, z_getr, z_puti, z_putz, z_ald, z_iast, z_bast, z_zast, z_alen, z_acopy, z_mmax, z_mmin, z_mabs, z_mabsL, z_iret, z_zret, z_nret, z_lret, z_aret, z_vret, z_cat, z_ldcs, z_strv, z_strc, z_gcs, z_gfm, z_sln, z_sald, z_ifeq, z_ifne, z_iflt, z_ifge, z_ifgt, z_ifle, z_iceq, z_icne, z_iclt, z_icge, z_icgt, z_icle, z_cs0, z_cs1, z_cs2, z_cs3, z_cs4, z_cs5, z_cs6, z_cs7, z_cv0, z_cv1, z_cv2, z_cv3, z_cv4, z_cv5, z_cv6, z_cv7, z_g0, z_s0, z_g1, z_s1, z_g2, z_s2, z_g3, z_s3, z_g4, z_s4, z_g5, z_s5, z_g6, z_s6, z_g7, z_s7, z_g8, z_s8, z_g9, z_s9, z_g10, z_s10, z_g11, z_s11, z_g12, z_s12, z_g13, z_s13, z_b0, z_b1, z_b0n, z_b1n, z_up_far1, z_up_far2, z_up_far3, z_up_far4, z_up_far5, z_up_far6, Classical.not_not, not_true_eq_false, z_in, z_inL, Int.cast_ofNat_Int, Nat.reduceLeDiff, List.length_cons, List.length_nil, Nat.reduceAdd, Nat.zero_add, Nat.le_refl, true_and, and_true, List.length, Nat.reduceLT, true_or, or_true, false_or, or_false, false_and, and_false, not_true_eq_false, not_false_eq_true, forall_const, false_implies, true_implies, Int.reduceEq, Int.reduceLT, Int.reduceLE, Int.reduceAdd, Int.reduceSub, Int.reduceMul, Int.reduceNeg, Int.reduceToNat, Int.toNat_natCast, ↓reduceIte, reduceIte, Nat.reduceEqDiff, Nat.reduceSub, Nat.reduceMul, ne_eq, Int.zero_add, Int.add_zero, Int.sub_zero, Nat.add_zero, Int.ofNat_eq_natCast, tX10_slipsNow_40]
      repeat' (first | (intro _) | (with_reducible assumption) | (refine And.intro ?_ ?_))
      all_goals first | omega | assumption | (refine z_fin nx ?_ rfl; first | rfl | omega | (split <;> omega) | (split <;> split <;> omega)) | skip
    | succ d ih =>
      intro i j v5 σ1 hd hi f1 f2 f3 K
      have nx := ih i (j + 1) v5 (z_up σ1 102 j (σ1 101 j)) (by omega) hi (fun c j g1 g2 => by rw [z_up_ne (by omega)]; exact f1 c j g1 g2) (fun x hx => by rw [z_up_ne (by omega)]; exact f2 x (by omega)) (fun x hx => by
        by_cases e : x = j
        · subst e; rw [z_up_eq]; exact f2 x (by omega)
        · rw [z_up_ne (by omega)]; exact f3 x (by omega)) K
      refine h40 _ _ _ ?_
      simp only [z_push, z_lpush, z_iload, z_lload, z_aload, z_istore, z_istoreP, z_lstore, z_astore, z_iinc, z_iincP, z_iadd, z_isub, z_imul, z_iaddW, z_isubW, z_imulW, z_idiv, z_irem, z_iand, z_ior, z_ixor, z_ishl, z_ishr, z_iushr, z_ineg, z_i2l, z_i2b, z_i2s, z_i2c, z_l2i, z_ladd, z_lsub, z_land, z_lor, z_lshl, z_lshr, z_lcmp, z_dup, z_pop, z_dup2, z_goto, z_tsw, z_cases, z_geti, z_getr, z_puti, z_putz, z_ald, z_iast, z_bast, z_zast, z_alen, z_acopy, z_mmax, z_mmin, z_mabs, z_mabsL, z_iret, z_zret, z_nret, z_lret, z_aret, z_vret, z_cat, z_ldcs, z_strv, z_strc, z_gcs, z_gfm, z_sln, z_sald, z_ifeq, z_ifne, z_iflt, z_ifge, z_ifgt, z_ifle, z_iceq, z_icne, z_iclt, z_icge, z_icgt, z_icle, z_cs0, z_cs1, z_cs2, z_cs3, z_cs4, z_cs5, z_cs6, z_cs7, z_cv0, z_cv1, z_cv2, z_cv3, z_cv4, z_cv5, z_cv6, z_cv7, z_g0, z_s0, z_g1, z_s1, z_g2, z_s2, z_g3, z_s3, z_g4, z_s4, z_g5, z_s5, z_g6, z_s6, z_g7, z_s7, z_g8, z_s8, z_g9, z_s9, z_g10, z_s10, z_g11, z_s11, z_g12, z_s12, z_g13, z_s13, z_b0, z_b1, z_b0n, z_b1n, z_up_far1, z_up_far2, z_up_far3, z_up_far4, z_up_far5, z_up_far6, Classical.not_not, not_true_eq_false, z_in, z_inL, Int.cast_ofNat_Int, Nat.reduceLeDiff, List.length_cons, List.length_nil, Nat.reduceAdd, Nat.zero_add, Nat.le_refl, true_and, and_true, List.length, Nat.reduceLT, true_or, or_true, false_or, or_false, false_and, and_false, not_true_eq_false, not_false_eq_true, forall_const, false_implies, true_implies, Int.reduceEq, Int.reduceLT, Int.reduceLE, Int.reduceAdd, Int.reduceSub, Int.reduceMul, Int.reduceNeg, Int.reduceToNat, Int.toNat_natCast, ↓reduceIte, reduceIte, Nat.reduceEqDiff, Nat.reduceSub, Nat.reduceMul, ne_eq, Int.zero_add, Int.add_zero, Int.sub_zero, Nat.add_zero, Int.ofNat_eq_natCast, tX10_slipsNow_40]
      repeat' (first | (intro _) | (with_reducible assumption) | (refine And.intro ?_ ?_))
      all_goals first | omega | assumption | (refine z_fin nx ?_ rfl; first | rfl | omega | (split <;> omega) | (split <;> split <;> omega)) | skip
  have L29 : ∀ (d i : Nat) (v4 v5 : Option zV) (σ1 : zM), i + d = H → (∀ c j, c ≠ 101 → c ≠ 102 → σ1 c j = σ c j) → (∀ x, x ≤ n → σ1 101 x = q_dp c i x) → X 29 [some (.inr (.inr (10, 0, 89))), some (.inl x1), some (.inl (n : Int)), some (.inl ((i : Int) + 1)), v4, v5] [] σ1 := by
    intro d
    induction d with
    | zero =>
      intro i v4 v5 σ1 hd f1 f2
      obtain rfl : i = H := by omega
      have fin := h σ1 f1
      rw [← f2 n (by omega)] at fin
      have eh : σ1 89 24 = i := by rw [f1 _ _ (by omega) (by omega)]; exact hH
      refine h29 _ _ _ ?_
      simp only [z_push, z_lpush, z_iload, z_lload, z_aload, z_istore, z_istoreP, z_lstore, z_astore, z_iinc, z_iincP, z_iadd, z_isub, z_imul, z_iaddW, z_isubW, z_imulW, z_idiv, z_irem, z_iand, z_ior, z_ixor, z_ishl, z_ishr, z_iushr, z_ineg, z_i2l, z_i2b, z_i2s, z_i2c, z_l2i, z_ladd, z_lsub, z_land, z_lor, z_lshl, z_lshr, z_lcmp, z_dup, z_pop, z_dup2, z_goto, z_tsw, z_cases, z_geti, z_getr, z_puti, z_putz, z_ald, z_iast, z_bast, z_zast, z_alen, z_acopy, z_mmax, z_mmin, z_mabs, z_mabsL, z_iret, z_zret, z_nret, z_lret, z_aret, z_vret, z_cat, z_ldcs, z_strv, z_strc, z_gcs, z_gfm, z_sln, z_sald, z_ifeq, z_ifne, z_iflt, z_ifge, z_ifgt, z_ifle, z_iceq, z_icne, z_iclt, z_icge, z_icgt, z_icle, z_cs0, z_cs1, z_cs2, z_cs3, z_cs4, z_cs5, z_cs6, z_cs7, z_cv0, z_cv1, z_cv2, z_cv3, z_cv4, z_cv5, z_cv6, z_cv7, z_g0, z_s0, z_g1, z_s1, z_g2, z_s2, z_g3, z_s3, z_g4, z_s4, z_g5, z_s5, z_g6, z_s6, z_g7, z_s7, z_g8, z_s8, z_g9, z_s9, z_g10, z_s10, z_g11, z_s11, z_g12, z_s12, z_g13, z_s13, z_b0, z_b1, z_b0n, z_b1n, z_up_far1, z_up_far2, z_up_far3, z_up_far4, z_up_far5, z_up_far6, Classical.not_not, not_true_eq_false, z_in, z_inL, Int.cast_ofNat_Int, Nat.reduceLeDiff, List.length_cons, List.length_nil, Nat.reduceAdd, Nat.zero_add, Nat.le_refl, true_and, and_true, List.length, Nat.reduceLT, true_or, or_true, false_or, or_false, false_and, and_false, not_true_eq_false, not_false_eq_true, forall_const, false_implies, true_implies, Int.reduceEq, Int.reduceLT, Int.reduceLE, Int.reduceAdd, Int.reduceSub, Int.reduceMul, Int.reduceNeg, Int.reduceToNat, Int.toNat_natCast, ↓reduceIte, reduceIte, Nat.reduceEqDiff, Nat.reduceSub, Nat.reduceMul, ne_eq, Int.zero_add, Int.add_zero, Int.sub_zero, Nat.add_zero, Int.ofNat_eq_natCast, tX10_slipsNow_29, eh]
      repeat' (first | (intro _) | (with_reducible assumption) | (refine And.intro ?_ ?_))
      all_goals first | omega | assumption | (refine z_fin fin ?_ rfl; first | rfl | omega | (split <;> omega) | (split <;> split <;> omega)) | skip
    | succ d ih =>
      intro i v4 v5 σ1 hd f1 f2
      have eh : σ1 89 24 = H := by rw [f1 _ _ (by omega) (by omega)]; exact hH
      have nx := L40 (n + 1) i 0 v5 σ1 (by omega) (by omega) f1 f2 (fun x hx => absurd hx (by omega)) (fun σ2 g1 g2 w4 w5 => by
        have q := ih (i + 1) w4 w5 σ2 (by omega) g1 g2
        rw [show ((i + 1 : Nat) : Int) + 1 = (i : Int) + 2 by omega] at q
        exact q)
      refine h29 _ _ _ ?_
      simp only [z_push, z_lpush, z_iload, z_lload, z_aload, z_istore, z_istoreP, z_lstore, z_astore, z_iinc, z_iincP, z_iadd, z_isub, z_imul, z_iaddW, z_isubW, z_imulW, z_idiv, z_irem, z_iand, z_ior, z_ixor, z_ishl, z_ishr, z_iushr, z_ineg, z_i2l, z_i2b, z_i2s, z_i2c, z_l2i, z_ladd, z_lsub, z_land, z_lor, z_lshl, z_lshr, z_lcmp, z_dup, z_pop, z_dup2, z_goto, z_tsw, z_cases, z_geti, z_getr, z_puti, z_putz, z_ald, z_iast, z_bast, z_zast, z_alen, z_acopy, z_mmax, z_mmin, z_mabs, z_mabsL, z_iret, z_zret, z_nret, z_lret, z_aret, z_vret, z_cat, z_ldcs, z_strv, z_strc, z_gcs, z_gfm, z_sln, z_sald, z_ifeq, z_ifne, z_iflt, z_ifge, z_ifgt, z_ifle, z_iceq, z_icne, z_iclt, z_icge, z_icgt, z_icle, z_cs0, z_cs1, z_cs2, z_cs3, z_cs4, z_cs5, z_cs6, z_cs7, z_cv0, z_cv1, z_cv2, z_cv3, z_cv4, z_cv5, z_cv6, z_cv7, z_g0, z_s0, z_g1, z_s1, z_g2, z_s2, z_g3, z_s3, z_g4, z_s4, z_g5, z_s5, z_g6, z_s6, z_g7, z_s7, z_g8, z_s8, z_g9, z_s9, z_g10, z_s10, z_g11, z_s11, z_g12, z_s12, z_g13, z_s13, z_b0, z_b1, z_b0n, z_b1n, z_up_far1, z_up_far2, z_up_far3, z_up_far4, z_up_far5, z_up_far6, Classical.not_not, not_true_eq_false, z_in, z_inL, Int.cast_ofNat_Int, Nat.reduceLeDiff, List.length_cons, List.length_nil, Nat.reduceAdd, Nat.zero_add, Nat.le_refl, true_and, and_true, List.length, Nat.reduceLT, true_or, or_true, false_or, or_false, false_and, and_false, not_true_eq_false, not_false_eq_true, forall_const, false_implies, true_implies, Int.reduceEq, Int.reduceLT, Int.reduceLE, Int.reduceAdd, Int.reduceSub, Int.reduceMul, Int.reduceNeg, Int.reduceToNat, Int.toNat_natCast, ↓reduceIte, reduceIte, Nat.reduceEqDiff, Nat.reduceSub, Nat.reduceMul, ne_eq, Int.zero_add, Int.add_zero, Int.sub_zero, Nat.add_zero, Int.ofNat_eq_natCast, tX10_slipsNow_29, eh]
      repeat' (first | (intro _) | (with_reducible assumption) | (refine And.intro ?_ ?_))
      all_goals first | omega | assumption | (refine z_fin nx ?_ rfl; first | rfl | omega | (split <;> omega) | (split <;> split <;> omega)) | skip
  have L9 : ∀ (d i : Nat) (σ1 : zM), i + d = n + 1 → (∀ c j, c ≠ 101 → c ≠ 102 → σ1 c j = σ c j) → (∀ x, x < i → σ1 101 x = (x : Int)) → X 9 [some (.inr (.inr (10, 0, 89))), some (.inl x1), some (.inl (n : Int)), some (.inl (i : Int)), none, none] [] σ1 := by
    intro d
    induction d with
    | zero =>
      intro i σ1 hd f1 f2
      obtain rfl : i = n + 1 := by omega
      have nx := L29 H 0 none none σ1 (by omega) f1 (fun x hx => by rw [f2 x (by omega), q_dp_0])
      refine h9 _ _ _ ?_
      simp only [z_push, z_lpush, z_iload, z_lload, z_aload, z_istore, z_istoreP, z_lstore, z_astore, z_iinc, z_iincP, z_iadd, z_isub, z_imul, z_iaddW, z_isubW, z_imulW, z_idiv, z_irem, z_iand, z_ior, z_ixor, z_ishl, z_ishr, z_iushr, z_ineg, z_i2l, z_i2b, z_i2s, z_i2c, z_l2i, z_ladd, z_lsub, z_land, z_lor, z_lshl, z_lshr, z_lcmp, z_dup, z_pop, z_dup2, z_goto, z_tsw, z_cases, z_geti, z_getr, z_puti, z_putz, z_ald, z_iast, z_bast, z_zast, z_alen, z_acopy, z_mmax, z_mmin, z_mabs, z_mabsL, z_iret, z_zret, z_nret, z_lret, z_aret, z_vret, z_cat, z_ldcs, z_strv, z_strc, z_gcs, z_gfm, z_sln, z_sald, z_ifeq, z_ifne, z_iflt, z_ifge, z_ifgt, z_ifle, z_iceq, z_icne, z_iclt, z_icge, z_icgt, z_icle, z_cs0, z_cs1, z_cs2, z_cs3, z_cs4, z_cs5, z_cs6, z_cs7, z_cv0, z_cv1, z_cv2, z_cv3, z_cv4, z_cv5, z_cv6, z_cv7, z_g0, z_s0, z_g1, z_s1, z_g2, z_s2, z_g3, z_s3, z_g4, z_s4, z_g5, z_s5, z_g6, z_s6, z_g7, z_s7, z_g8, z_s8, z_g9, z_s9, z_g10, z_s10, z_g11, z_s11, z_g12, z_s12, z_g13, z_s13, z_b0, z_b1, z_b0n, z_b1n, z_up_far1, z_up_far2, z_up_far3, z_up_far4, z_up_far5, z_up_far6, Classical.not_not, not_true_eq_false, z_in, z_inL, Int.cast_ofNat_Int, Nat.reduceLeDiff, List.length_cons, List.length_nil, Nat.reduceAdd, Nat.zero_add, Nat.le_refl, true_and, and_true, List.length, Nat.reduceLT, true_or, or_true, false_or, or_false, false_and, and_false, not_true_eq_false, not_false_eq_true, forall_const, false_implies, true_implies, Int.reduceEq, Int.reduceLT, Int.reduceLE, Int.reduceAdd, Int.reduceSub, Int.reduceMul, Int.reduceNeg, Int.reduceToNat, Int.toNat_natCast, ↓reduceIte, reduceIte, Nat.reduceEqDiff, Nat.reduceSub, Nat.reduceMul, ne_eq, Int.zero_add, Int.add_zero, Int.sub_zero, Nat.add_zero, Int.ofNat_eq_natCast, tX10_slipsNow_9]
      repeat' (first | (intro _) | (with_reducible assumption) | (refine And.intro ?_ ?_))
      all_goals first | omega | assumption | (refine z_fin nx ?_ rfl; first | rfl | omega | (split <;> omega) | (split <;> split <;> omega)) | skip
    | succ d ih =>
      intro i σ1 hd f1 f2
      have nx := ih (i + 1) (z_up σ1 101 i (i : Int)) (by omega) (fun c j g1 g2 => by rw [z_up_ne (by omega)]; exact f1 c j g1 g2) (fun x hx => by
        by_cases e : x = i
        · subst e; rw [z_up_eq]
        · rw [z_up_ne (by omega)]; exact f2 x (by omega))
      refine h9 _ _ _ ?_
      simp only [z_push, z_lpush, z_iload, z_lload, z_aload, z_istore, z_istoreP, z_lstore, z_astore, z_iinc, z_iincP, z_iadd, z_isub, z_imul, z_iaddW, z_isubW, z_imulW, z_idiv, z_irem, z_iand, z_ior, z_ixor, z_ishl, z_ishr, z_iushr, z_ineg, z_i2l, z_i2b, z_i2s, z_i2c, z_l2i, z_ladd, z_lsub, z_land, z_lor, z_lshl, z_lshr, z_lcmp, z_dup, z_pop, z_dup2, z_goto, z_tsw, z_cases, z_geti, z_getr, z_puti, z_putz, z_ald, z_iast, z_bast, z_zast, z_alen, z_acopy, z_mmax, z_mmin, z_mabs, z_mabsL, z_iret, z_zret, z_nret, z_lret, z_aret, z_vret, z_cat, z_ldcs, z_strv, z_strc, z_gcs, z_gfm, z_sln, z_sald, z_ifeq, z_ifne, z_iflt, z_ifge, z_ifgt, z_ifle, z_iceq, z_icne, z_iclt, z_icge, z_icgt, z_icle, z_cs0, z_cs1, z_cs2, z_cs3, z_cs4, z_cs5, z_cs6, z_cs7, z_cv0, z_cv1, z_cv2, z_cv3, z_cv4, z_cv5, z_cv6, z_cv7, z_g0, z_s0, z_g1, z_s1, z_g2, z_s2, z_g3, z_s3, z_g4, z_s4, z_g5, z_s5, z_g6, z_s6, z_g7, z_s7, z_g8, z_s8, z_g9, z_s9, z_g10, z_s10, z_g11, z_s11, z_g12, z_s12, z_g13, z_s13, z_b0, z_b1, z_b0n, z_b1n, z_up_far1, z_up_far2, z_up_far3, z_up_far4, z_up_far5, z_up_far6, Classical.not_not, not_true_eq_false, z_in, z_inL, Int.cast_ofNat_Int, Nat.reduceLeDiff, List.length_cons, List.length_nil, Nat.reduceAdd, Nat.zero_add, Nat.le_refl, true_and, and_true, List.length, Nat.reduceLT, true_or, or_true, false_or, or_false, false_and, and_false, not_true_eq_false, not_false_eq_true, forall_const, false_implies, true_implies, Int.reduceEq, Int.reduceLT, Int.reduceLE, Int.reduceAdd, Int.reduceSub, Int.reduceMul, Int.reduceNeg, Int.reduceToNat, Int.toNat_natCast, ↓reduceIte, reduceIte, Nat.reduceEqDiff, Nat.reduceSub, Nat.reduceMul, ne_eq, Int.zero_add, Int.add_zero, Int.sub_zero, Nat.add_zero, Int.ofNat_eq_natCast, tX10_slipsNow_9]
      repeat' (first | (intro _) | (with_reducible assumption) | (refine And.intro ?_ ?_))
      all_goals first | omega | assumption | (refine z_fin nx ?_ rfl; first | rfl | omega | (split <;> omega) | (split <;> split <;> omega)) | skip
  have nx := L9 (n + 1) 0 σ (by omega) (fun _ _ _ _ => rfl) (fun x hx => absurd hx (by omega))
  refine h0 _ _ _ ?_
  simp only [z_push, z_lpush, z_iload, z_lload, z_aload, z_istore, z_istoreP, z_lstore, z_astore, z_iinc, z_iincP, z_iadd, z_isub, z_imul, z_iaddW, z_isubW, z_imulW, z_idiv, z_irem, z_iand, z_ior, z_ixor, z_ishl, z_ishr, z_iushr, z_ineg, z_i2l, z_i2b, z_i2s, z_i2c, z_l2i, z_ladd, z_lsub, z_land, z_lor, z_lshl, z_lshr, z_lcmp, z_dup, z_pop, z_dup2, z_goto, z_tsw, z_cases, z_geti, z_getr, z_puti, z_putz, z_ald, z_iast, z_bast, z_zast, z_alen, z_acopy, z_mmax, z_mmin, z_mabs, z_mabsL, z_iret, z_zret, z_nret, z_lret, z_aret, z_vret, z_cat, z_ldcs, z_strv, z_strc, z_gcs, z_gfm, z_sln, z_sald, z_ifeq, z_ifne, z_iflt, z_ifge, z_ifgt, z_ifle, z_iceq, z_icne, z_iclt, z_icge, z_icgt, z_icle, z_cs0, z_cs1, z_cs2, z_cs3, z_cs4, z_cs5, z_cs6, z_cs7, z_cv0, z_cv1, z_cv2, z_cv3, z_cv4, z_cv5, z_cv6, z_cv7, z_g0, z_s0, z_g1, z_s1, z_g2, z_s2, z_g3, z_s3, z_g4, z_s4, z_g5, z_s5, z_g6, z_s6, z_g7, z_s7, z_g8, z_s8, z_g9, z_s9, z_g10, z_s10, z_g11, z_s11, z_g12, z_s12, z_g13, z_s13, z_b0, z_b1, z_b0n, z_b1n, z_up_far1, z_up_far2, z_up_far3, z_up_far4, z_up_far5, z_up_far6, Classical.not_not, not_true_eq_false, z_in, z_inL, Int.cast_ofNat_Int, Nat.reduceLeDiff, List.length_cons, List.length_nil, Nat.reduceAdd, Nat.zero_add, Nat.le_refl, true_and, and_true, List.length, Nat.reduceLT, true_or, or_true, false_or, or_false, false_and, and_false, not_true_eq_false, not_false_eq_true, forall_const, false_implies, true_implies, Int.reduceEq, Int.reduceLT, Int.reduceLE, Int.reduceAdd, Int.reduceSub, Int.reduceMul, Int.reduceNeg, Int.reduceToNat, Int.toNat_natCast, ↓reduceIte, reduceIte, Nat.reduceEqDiff, Nat.reduceSub, Nat.reduceMul, ne_eq, Int.zero_add, Int.add_zero, Int.sub_zero, Nat.add_zero, Int.ofNat_eq_natCast, tX10_slipsNow_0, hn]
  repeat' (first | (intro _) | (with_reducible assumption) | (refine And.intro ?_ ?_))
  all_goals first | omega | assumption | (refine z_fin nx ?_ rfl; first | rfl | omega | (split <;> omega) | (split <;> split <;> omega)) | skip
theorem dX10_slipsNow_0 : decode cX10_slipsNow 0 = .ok (.aload_n 0, 1) := by decide +kernel
theorem dX10_slipsNow_1 : decode cX10_slipsNow 1 = .ok (.getfield 19, 3) := by decide +kernel
theorem dX10_slipsNow_4 : decode cX10_slipsNow 4 = .ok (.iconst 2, 1) := by decide +kernel
theorem dX10_slipsNow_5 : decode cX10_slipsNow 5 = .ok (.iaload, 1) := by decide +kernel
theorem dX10_slipsNow_6 : decode cX10_slipsNow 6 = .ok (.istore_n 2, 1) := by decide +kernel
theorem dX10_slipsNow_7 : decode cX10_slipsNow 7 = .ok (.iconst 0, 1) := by decide +kernel
theorem dX10_slipsNow_8 : decode cX10_slipsNow 8 = .ok (.istore_n 3, 1) := by decide +kernel
theorem dX10_slipsNow_9 : decode cX10_slipsNow 9 = .ok (.iload_n 3, 1) := by decide +kernel
theorem dX10_slipsNow_10 : decode cX10_slipsNow 10 = .ok (.iload_n 2, 1) := by decide +kernel
theorem dX10_slipsNow_11 : decode cX10_slipsNow 11 = .ok (.if_icmp .gt 16, 3) := by decide +kernel
theorem dX10_slipsNow_14 : decode cX10_slipsNow 14 = .ok (.aload_n 0, 1) := by decide +kernel
theorem dX10_slipsNow_15 : decode cX10_slipsNow 15 = .ok (.getfield 43, 3) := by decide +kernel
theorem dX10_slipsNow_18 : decode cX10_slipsNow 18 = .ok (.iload_n 3, 1) := by decide +kernel
theorem dX10_slipsNow_19 : decode cX10_slipsNow 19 = .ok (.iload_n 3, 1) := by decide +kernel
theorem dX10_slipsNow_20 : decode cX10_slipsNow 20 = .ok (.iastore, 1) := by decide +kernel
theorem dX10_slipsNow_21 : decode cX10_slipsNow 21 = .ok (.iinc 3 1, 3) := by decide +kernel
theorem dX10_slipsNow_24 : decode cX10_slipsNow 24 = .ok (.goto (-15), 3) := by decide +kernel
theorem dX10_slipsNow_27 : decode cX10_slipsNow 27 = .ok (.iconst 1, 1) := by decide +kernel
theorem dX10_slipsNow_28 : decode cX10_slipsNow 28 = .ok (.istore_n 3, 1) := by decide +kernel
theorem dX10_slipsNow_29 : decode cX10_slipsNow 29 = .ok (.iload_n 3, 1) := by decide +kernel
theorem dX10_slipsNow_30 : decode cX10_slipsNow 30 = .ok (.aload_n 0, 1) := by decide +kernel
theorem dX10_slipsNow_31 : decode cX10_slipsNow 31 = .ok (.getfield 246, 3) := by decide +kernel
theorem dX10_slipsNow_34 : decode cX10_slipsNow 34 = .ok (.if_icmp .gt 137, 3) := by decide +kernel
theorem dX10_slipsNow_37 : decode cX10_slipsNow 37 = .ok (.iconst 0, 1) := by decide +kernel
theorem dX10_slipsNow_38 : decode cX10_slipsNow 38 = .ok (.istore 4, 2) := by decide +kernel
theorem dX10_slipsNow_40 : decode cX10_slipsNow 40 = .ok (.iload 4, 2) := by decide +kernel
theorem dX10_slipsNow_42 : decode cX10_slipsNow 42 = .ok (.iload_n 2, 1) := by decide +kernel
theorem dX10_slipsNow_43 : decode cX10_slipsNow 43 = .ok (.if_icmp .gt 23, 3) := by decide +kernel
theorem dX10_slipsNow_46 : decode cX10_slipsNow 46 = .ok (.aload_n 0, 1) := by decide +kernel
theorem dX10_slipsNow_47 : decode cX10_slipsNow 47 = .ok (.getfield 46, 3) := by decide +kernel
theorem dX10_slipsNow_50 : decode cX10_slipsNow 50 = .ok (.iload 4, 2) := by decide +kernel
theorem dX10_slipsNow_52 : decode cX10_slipsNow 52 = .ok (.aload_n 0, 1) := by decide +kernel
theorem dX10_slipsNow_53 : decode cX10_slipsNow 53 = .ok (.getfield 43, 3) := by decide +kernel
theorem dX10_slipsNow_56 : decode cX10_slipsNow 56 = .ok (.iload 4, 2) := by decide +kernel
theorem dX10_slipsNow_58 : decode cX10_slipsNow 58 = .ok (.iaload, 1) := by decide +kernel
theorem dX10_slipsNow_59 : decode cX10_slipsNow 59 = .ok (.iastore, 1) := by decide +kernel
theorem dX10_slipsNow_60 : decode cX10_slipsNow 60 = .ok (.iinc 4 1, 3) := by decide +kernel
theorem dX10_slipsNow_63 : decode cX10_slipsNow 63 = .ok (.goto (-23), 3) := by decide +kernel
theorem dX10_slipsNow_66 : decode cX10_slipsNow 66 = .ok (.aload_n 0, 1) := by decide +kernel
theorem dX10_slipsNow_67 : decode cX10_slipsNow 67 = .ok (.getfield 43, 3) := by decide +kernel
theorem dX10_slipsNow_70 : decode cX10_slipsNow 70 = .ok (.iconst 0, 1) := by decide +kernel
theorem dX10_slipsNow_71 : decode cX10_slipsNow 71 = .ok (.iload_n 3, 1) := by decide +kernel
theorem dX10_slipsNow_72 : decode cX10_slipsNow 72 = .ok (.iastore, 1) := by decide +kernel
theorem dX10_slipsNow_73 : decode cX10_slipsNow 73 = .ok (.iconst 1, 1) := by decide +kernel
theorem dX10_slipsNow_74 : decode cX10_slipsNow 74 = .ok (.istore 4, 2) := by decide +kernel
theorem dX10_slipsNow_76 : decode cX10_slipsNow 76 = .ok (.iload 4, 2) := by decide +kernel
theorem dX10_slipsNow_78 : decode cX10_slipsNow 78 = .ok (.iload_n 2, 1) := by decide +kernel
theorem dX10_slipsNow_79 : decode cX10_slipsNow 79 = .ok (.if_icmp .gt 86, 3) := by decide +kernel
theorem dX10_slipsNow_82 : decode cX10_slipsNow 82 = .ok (.aload_n 0, 1) := by decide +kernel
theorem dX10_slipsNow_83 : decode cX10_slipsNow 83 = .ok (.getfield 37, 3) := by decide +kernel
theorem dX10_slipsNow_86 : decode cX10_slipsNow 86 = .ok (.iload_n 3, 1) := by decide +kernel
theorem dX10_slipsNow_87 : decode cX10_slipsNow 87 = .ok (.iconst 1, 1) := by decide +kernel
theorem dX10_slipsNow_88 : decode cX10_slipsNow 88 = .ok (.isub, 1) := by decide +kernel
theorem dX10_slipsNow_89 : decode cX10_slipsNow 89 = .ok (.iaload, 1) := by decide +kernel
theorem dX10_slipsNow_90 : decode cX10_slipsNow 90 = .ok (.aload_n 0, 1) := by decide +kernel
theorem dX10_slipsNow_91 : decode cX10_slipsNow 91 = .ok (.getfield 19, 3) := by decide +kernel
theorem dX10_slipsNow_94 : decode cX10_slipsNow 94 = .ok (.bipush 96, 2) := by decide +kernel
theorem dX10_slipsNow_96 : decode cX10_slipsNow 96 = .ok (.iload 4, 2) := by decide +kernel
theorem dX10_slipsNow_98 : decode cX10_slipsNow 98 = .ok (.iadd, 1) := by decide +kernel
theorem dX10_slipsNow_99 : decode cX10_slipsNow 99 = .ok (.iconst 1, 1) := by decide +kernel
theorem dX10_slipsNow_100 : decode cX10_slipsNow 100 = .ok (.isub, 1) := by decide +kernel
theorem dX10_slipsNow_101 : decode cX10_slipsNow 101 = .ok (.iaload, 1) := by decide +kernel
theorem dX10_slipsNow_102 : decode cX10_slipsNow 102 = .ok (.iload_n 1, 1) := by decide +kernel
theorem dX10_slipsNow_103 : decode cX10_slipsNow 103 = .ok (.invokestatic 259, 3) := by decide +kernel
theorem dX10_slipsNow_106 : decode cX10_slipsNow 106 = .ok (.istore 5, 2) := by decide +kernel
theorem dX10_slipsNow_108 : decode cX10_slipsNow 108 = .ok (.aload_n 0, 1) := by decide +kernel
theorem dX10_slipsNow_109 : decode cX10_slipsNow 109 = .ok (.getfield 43, 3) := by decide +kernel
theorem dX10_slipsNow_112 : decode cX10_slipsNow 112 = .ok (.iload 4, 2) := by decide +kernel
theorem dX10_slipsNow_114 : decode cX10_slipsNow 114 = .ok (.aload_n 0, 1) := by decide +kernel
theorem dX10_slipsNow_115 : decode cX10_slipsNow 115 = .ok (.getfield 46, 3) := by decide +kernel
theorem dX10_slipsNow_118 : decode cX10_slipsNow 118 = .ok (.iload 4, 2) := by decide +kernel
theorem dX10_slipsNow_120 : decode cX10_slipsNow 120 = .ok (.iconst 1, 1) := by decide +kernel
theorem dX10_slipsNow_121 : decode cX10_slipsNow 121 = .ok (.isub, 1) := by decide +kernel
theorem dX10_slipsNow_122 : decode cX10_slipsNow 122 = .ok (.iaload, 1) := by decide +kernel
theorem dX10_slipsNow_123 : decode cX10_slipsNow 123 = .ok (.iload 5, 2) := by decide +kernel
theorem dX10_slipsNow_125 : decode cX10_slipsNow 125 = .ok (.ifCond .eq 7, 3) := by decide +kernel
theorem dX10_slipsNow_128 : decode cX10_slipsNow 128 = .ok (.iconst 0, 1) := by decide +kernel
theorem dX10_slipsNow_129 : decode cX10_slipsNow 129 = .ok (.goto 4, 3) := by decide +kernel
theorem dX10_slipsNow_132 : decode cX10_slipsNow 132 = .ok (.iconst 1, 1) := by decide +kernel
theorem dX10_slipsNow_133 : decode cX10_slipsNow 133 = .ok (.iadd, 1) := by decide +kernel
theorem dX10_slipsNow_134 : decode cX10_slipsNow 134 = .ok (.iconst 1, 1) := by decide +kernel
theorem dX10_slipsNow_135 : decode cX10_slipsNow 135 = .ok (.aload_n 0, 1) := by decide +kernel
theorem dX10_slipsNow_136 : decode cX10_slipsNow 136 = .ok (.getfield 46, 3) := by decide +kernel
theorem dX10_slipsNow_139 : decode cX10_slipsNow 139 = .ok (.iload 4, 2) := by decide +kernel
theorem dX10_slipsNow_141 : decode cX10_slipsNow 141 = .ok (.iaload, 1) := by decide +kernel
theorem dX10_slipsNow_142 : decode cX10_slipsNow 142 = .ok (.aload_n 0, 1) := by decide +kernel
theorem dX10_slipsNow_143 : decode cX10_slipsNow 143 = .ok (.getfield 43, 3) := by decide +kernel
theorem dX10_slipsNow_146 : decode cX10_slipsNow 146 = .ok (.iload 4, 2) := by decide +kernel
theorem dX10_slipsNow_148 : decode cX10_slipsNow 148 = .ok (.iconst 1, 1) := by decide +kernel
theorem dX10_slipsNow_149 : decode cX10_slipsNow 149 = .ok (.isub, 1) := by decide +kernel
theorem dX10_slipsNow_150 : decode cX10_slipsNow 150 = .ok (.iaload, 1) := by decide +kernel
theorem dX10_slipsNow_151 : decode cX10_slipsNow 151 = .ok (.invokestatic 263, 3) := by decide +kernel
theorem dX10_slipsNow_154 : decode cX10_slipsNow 154 = .ok (.iadd, 1) := by decide +kernel
theorem dX10_slipsNow_155 : decode cX10_slipsNow 155 = .ok (.invokestatic 263, 3) := by decide +kernel
theorem dX10_slipsNow_158 : decode cX10_slipsNow 158 = .ok (.iastore, 1) := by decide +kernel
theorem dX10_slipsNow_159 : decode cX10_slipsNow 159 = .ok (.iinc 4 1, 3) := by decide +kernel
theorem dX10_slipsNow_162 : decode cX10_slipsNow 162 = .ok (.goto (-86), 3) := by decide +kernel
theorem dX10_slipsNow_165 : decode cX10_slipsNow 165 = .ok (.iinc 3 1, 3) := by decide +kernel
theorem dX10_slipsNow_168 : decode cX10_slipsNow 168 = .ok (.goto (-139), 3) := by decide +kernel
theorem dX10_slipsNow_171 : decode cX10_slipsNow 171 = .ok (.aload_n 0, 1) := by decide +kernel
theorem dX10_slipsNow_172 : decode cX10_slipsNow 172 = .ok (.getfield 43, 3) := by decide +kernel
theorem dX10_slipsNow_175 : decode cX10_slipsNow 175 = .ok (.iload_n 2, 1) := by decide +kernel
theorem dX10_slipsNow_176 : decode cX10_slipsNow 176 = .ok (.iaload, 1) := by decide +kernel
theorem dX10_slipsNow_177 : decode cX10_slipsNow 177 = .ok (.ireturn, 1) := by decide +kernel
set_option maxRecDepth 100000 in
theorem rX10_slipsNow_0 {p : Program} {l : Launch} {e : Env} {s : State} {m : MethodId} {args : Array Value} {below : List Frame} {meth : Method} {c : Code} {D : va_G} {cA : Nat → ClassId} {ad : Nat → Nat} {Ret : zR} (C : z_Cx p { frames := 1, cells := 0, slots := 0, locals := 22 } s m args c cX10_slipsNow yX10_slipsNow.cls 6 D cA ad) (hr : meth.sig.returnType = (some .int)) (hlocks : meth.locks = false) : ∀ L st σ, tX10_slipsNow_0 (z_X p l e { frames := 1, cells := 0, slots := 0, locals := 22 } s m args below meth c (MQ below (z_Qc D cA ad Ret) args s 0 0 (z_A ad)) 6 D cA ad true) Ret L st σ → z_X p l e { frames := 1, cells := 0, slots := 0, locals := 22 } s m args below meth c (MQ below (z_Qc D cA ad Ret) args s 0 0 (z_A ad)) 6 D cA ad true 0 L st σ := (s_aload_n C dX10_slipsNow_0 rfl (s_getr C dX10_slipsNow_1 (j := 5) cls_X10 (by decide) rfl (by decide) (by decide) (by decide +kernel) wd_973 (s_iconst C dX10_slipsNow_4 rfl ⟨by decide, by decide⟩ (s_iald C dX10_slipsNow_5 (s_istore_n C dX10_slipsNow_6 (by decide) rfl rfl (s_iconst C dX10_slipsNow_7 rfl ⟨by decide, by decide⟩ (s_istore_n C dX10_slipsNow_8 (by decide) rfl rfl (fun _ _ _ h => h))))))))
set_option maxRecDepth 100000 in
theorem rX10_slipsNow_9 {p : Program} {l : Launch} {e : Env} {s : State} {m : MethodId} {args : Array Value} {below : List Frame} {meth : Method} {c : Code} {D : va_G} {cA : Nat → ClassId} {ad : Nat → Nat} {Ret : zR} (C : z_Cx p { frames := 1, cells := 0, slots := 0, locals := 22 } s m args c cX10_slipsNow yX10_slipsNow.cls 6 D cA ad) (hr : meth.sig.returnType = (some .int)) (hlocks : meth.locks = false) : ∀ L st σ, tX10_slipsNow_9 (z_X p l e { frames := 1, cells := 0, slots := 0, locals := 22 } s m args below meth c (MQ below (z_Qc D cA ad Ret) args s 0 0 (z_A ad)) 6 D cA ad true) Ret L st σ → z_X p l e { frames := 1, cells := 0, slots := 0, locals := 22 } s m args below meth c (MQ below (z_Qc D cA ad Ret) args s 0 0 (z_A ad)) 6 D cA ad true 9 L st σ := (s_iload_n C dX10_slipsNow_9 rfl (s_iload_n C dX10_slipsNow_10 rfl (s_icgt C dX10_slipsNow_11 (by decide) (s_iconst C dX10_slipsNow_27 rfl ⟨by decide, by decide⟩ (s_istore_n C dX10_slipsNow_28 (by decide) rfl rfl (fun _ _ _ h => h))) (s_aload_n C dX10_slipsNow_14 rfl (s_getr C dX10_slipsNow_15 (j := 25) cls_X10 (by decide) rfl (by decide) (by decide) (by decide +kernel) wd_993 (s_iload_n C dX10_slipsNow_18 rfl (s_iload_n C dX10_slipsNow_19 rfl (s_iast C dX10_slipsNow_20 (s_iinc C dX10_slipsNow_21 (by decide) rfl (s_goto C dX10_slipsNow_24 (by decide) (fun _ _ _ h => h)))))))))))
set_option maxRecDepth 100000 in
theorem rX10_slipsNow_29 {p : Program} {l : Launch} {e : Env} {s : State} {m : MethodId} {args : Array Value} {below : List Frame} {meth : Method} {c : Code} {D : va_G} {cA : Nat → ClassId} {ad : Nat → Nat} {Ret : zR} (C : z_Cx p { frames := 1, cells := 0, slots := 0, locals := 22 } s m args c cX10_slipsNow yX10_slipsNow.cls 6 D cA ad) (hr : meth.sig.returnType = (some .int)) (hlocks : meth.locks = false) : ∀ L st σ, tX10_slipsNow_29 (z_X p l e { frames := 1, cells := 0, slots := 0, locals := 22 } s m args below meth c (MQ below (z_Qc D cA ad Ret) args s 0 0 (z_A ad)) 6 D cA ad true) Ret L st σ → z_X p l e { frames := 1, cells := 0, slots := 0, locals := 22 } s m args below meth c (MQ below (z_Qc D cA ad Ret) args s 0 0 (z_A ad)) 6 D cA ad true 29 L st σ := (s_iload_n C dX10_slipsNow_29 rfl (s_aload_n C dX10_slipsNow_30 rfl (s_geti C dX10_slipsNow_31 cls_X10 (by decide) rfl wd_992 (s_icgt C dX10_slipsNow_34 (by decide) (s_aload_n C dX10_slipsNow_171 rfl (s_getr C dX10_slipsNow_172 (j := 25) cls_X10 (by decide) rfl (by decide) (by decide) (by decide +kernel) wd_993 (s_iload_n C dX10_slipsNow_175 rfl (s_iald C dX10_slipsNow_176 (s_iret C dX10_slipsNow_177 hr hlocks))))) (s_iconst C dX10_slipsNow_37 rfl ⟨by decide, by decide⟩ (s_istore C dX10_slipsNow_38 (by decide) rfl (fun _ _ _ h => h)))))))
set_option maxRecDepth 100000 in
theorem rX10_slipsNow_40 {p : Program} {l : Launch} {e : Env} {s : State} {m : MethodId} {args : Array Value} {below : List Frame} {meth : Method} {c : Code} {D : va_G} {cA : Nat → ClassId} {ad : Nat → Nat} {Ret : zR} (C : z_Cx p { frames := 1, cells := 0, slots := 0, locals := 22 } s m args c cX10_slipsNow yX10_slipsNow.cls 6 D cA ad) (hr : meth.sig.returnType = (some .int)) (hlocks : meth.locks = false) : ∀ L st σ, tX10_slipsNow_40 (z_X p l e { frames := 1, cells := 0, slots := 0, locals := 22 } s m args below meth c (MQ below (z_Qc D cA ad Ret) args s 0 0 (z_A ad)) 6 D cA ad true) Ret L st σ → z_X p l e { frames := 1, cells := 0, slots := 0, locals := 22 } s m args below meth c (MQ below (z_Qc D cA ad Ret) args s 0 0 (z_A ad)) 6 D cA ad true 40 L st σ := (s_iload C dX10_slipsNow_40 (s_iload_n C dX10_slipsNow_42 rfl (s_icgt C dX10_slipsNow_43 (by decide) (s_aload_n C dX10_slipsNow_66 rfl (s_getr C dX10_slipsNow_67 (j := 25) cls_X10 (by decide) rfl (by decide) (by decide) (by decide +kernel) wd_993 (s_iconst C dX10_slipsNow_70 rfl ⟨by decide, by decide⟩ (s_iload_n C dX10_slipsNow_71 rfl (s_iast C dX10_slipsNow_72 (s_iconst C dX10_slipsNow_73 rfl ⟨by decide, by decide⟩ (s_istore C dX10_slipsNow_74 (by decide) rfl (fun _ _ _ h => h)))))))) (s_aload_n C dX10_slipsNow_46 rfl (s_getr C dX10_slipsNow_47 (j := 26) cls_X10 (by decide) rfl (by decide) (by decide) (by decide +kernel) wd_994 (s_iload C dX10_slipsNow_50 (s_aload_n C dX10_slipsNow_52 rfl (s_getr C dX10_slipsNow_53 (j := 25) cls_X10 (by decide) rfl (by decide) (by decide) (by decide +kernel) wd_993 (s_iload C dX10_slipsNow_56 (s_iald C dX10_slipsNow_58 (s_iast C dX10_slipsNow_59 (s_iinc C dX10_slipsNow_60 (by decide) rfl (s_goto C dX10_slipsNow_63 (by decide) (fun _ _ _ h => h))))))))))))))
set_option maxRecDepth 100000 in
theorem rX10_slipsNow_76 {p : Program} {l : Launch} {e : Env} {s : State} {m : MethodId} {args : Array Value} {below : List Frame} {meth : Method} {c : Code} {D : va_G} {cA : Nat → ClassId} {ad : Nat → Nat} {Ret : zR} (C : z_Cx p { frames := 1, cells := 0, slots := 0, locals := 22 } s m args c cX10_slipsNow yX10_slipsNow.cls 6 D cA ad) (hr : meth.sig.returnType = (some .int)) (hlocks : meth.locks = false) : ∀ L st σ, tX10_slipsNow_76 (z_X p l e { frames := 1, cells := 0, slots := 0, locals := 22 } s m args below meth c (MQ below (z_Qc D cA ad Ret) args s 0 0 (z_A ad)) 6 D cA ad true) Ret L st σ → z_X p l e { frames := 1, cells := 0, slots := 0, locals := 22 } s m args below meth c (MQ below (z_Qc D cA ad Ret) args s 0 0 (z_A ad)) 6 D cA ad true 76 L st σ := (s_iload C dX10_slipsNow_76 (s_iload_n C dX10_slipsNow_78 rfl (s_icgt C dX10_slipsNow_79 (by decide) (s_iinc C dX10_slipsNow_165 (by decide) rfl (s_goto C dX10_slipsNow_168 (by decide) (fun _ _ _ h => h))) (s_aload_n C dX10_slipsNow_82 rfl (s_getr C dX10_slipsNow_83 (j := 22) cls_X10 (by decide) rfl (by decide) (by decide) (by decide +kernel) wd_990 (s_iload_n C dX10_slipsNow_86 rfl (s_iconst C dX10_slipsNow_87 rfl ⟨by decide, by decide⟩ (s_isub C dX10_slipsNow_88 (s_iald C dX10_slipsNow_89 (s_aload_n C dX10_slipsNow_90 rfl (s_getr C dX10_slipsNow_91 (j := 5) cls_X10 (by decide) rfl (by decide) (by decide) (by decide +kernel) wd_973 (s_bipush C dX10_slipsNow_94 rfl ⟨by decide, by decide⟩ (s_iload C dX10_slipsNow_96 (s_iadd C dX10_slipsNow_98 (s_iconst C dX10_slipsNow_99 rfl ⟨by decide, by decide⟩ (s_isub C dX10_slipsNow_100 (s_iald C dX10_slipsNow_101 (s_iload_n C dX10_slipsNow_102 rfl (s_cs3 C dX10_slipsNow_103 (okX10_isNear l) wd_1285 wd_1286 wd_85 wd_1287 ⟨by decide, by decide, by decide +kernel⟩ ⟨by decide, by decide⟩ (s_istore C dX10_slipsNow_106 (by decide) rfl (s_aload_n C dX10_slipsNow_108 rfl (s_getr C dX10_slipsNow_109 (j := 25) cls_X10 (by decide) rfl (by decide) (by decide) (by decide +kernel) wd_993 (s_iload C dX10_slipsNow_112 (s_aload_n C dX10_slipsNow_114 rfl (s_getr C dX10_slipsNow_115 (j := 26) cls_X10 (by decide) rfl (by decide) (by decide) (by decide +kernel) wd_994 (s_iload C dX10_slipsNow_118 (s_iconst C dX10_slipsNow_120 rfl ⟨by decide, by decide⟩ (s_isub C dX10_slipsNow_121 (s_iald C dX10_slipsNow_122 (s_iload C dX10_slipsNow_123 (s_ifeq C dX10_slipsNow_125 (by decide) (s_iconst C dX10_slipsNow_132 rfl ⟨by decide, by decide⟩ (s_iadd C dX10_slipsNow_133 (s_iconst C dX10_slipsNow_134 rfl ⟨by decide, by decide⟩ (s_aload_n C dX10_slipsNow_135 rfl (s_getr C dX10_slipsNow_136 (j := 26) cls_X10 (by decide) rfl (by decide) (by decide) (by decide +kernel) wd_994 (s_iload C dX10_slipsNow_139 (s_iald C dX10_slipsNow_141 (s_aload_n C dX10_slipsNow_142 rfl (s_getr C dX10_slipsNow_143 (j := 25) cls_X10 (by decide) rfl (by decide) (by decide) (by decide +kernel) wd_993 (s_iload C dX10_slipsNow_146 (s_iconst C dX10_slipsNow_148 rfl ⟨by decide, by decide⟩ (s_isub C dX10_slipsNow_149 (s_iald C dX10_slipsNow_150 (s_cs2 C dX10_slipsNow_151 (okX10_lesser l) wd_1288 wd_1289 wd_85 wd_1290 ⟨by decide, by decide, by decide +kernel⟩ ⟨by decide, by decide⟩ (s_iadd C dX10_slipsNow_154 (s_cs2 C dX10_slipsNow_155 (okX10_lesser l) wd_1288 wd_1289 wd_85 wd_1290 ⟨by decide, by decide, by decide +kernel⟩ ⟨by decide, by decide⟩ (s_iast C dX10_slipsNow_158 (s_iinc C dX10_slipsNow_159 (by decide) rfl (s_goto C dX10_slipsNow_162 (by decide) (fun _ _ _ h => h)))))))))))))))))))) (s_iconst C dX10_slipsNow_128 rfl ⟨by decide, by decide⟩ (s_goto C dX10_slipsNow_129 (by decide) (s_iadd C dX10_slipsNow_133 (s_iconst C dX10_slipsNow_134 rfl ⟨by decide, by decide⟩ (s_aload_n C dX10_slipsNow_135 rfl (s_getr C dX10_slipsNow_136 (j := 26) cls_X10 (by decide) rfl (by decide) (by decide) (by decide +kernel) wd_994 (s_iload C dX10_slipsNow_139 (s_iald C dX10_slipsNow_141 (s_aload_n C dX10_slipsNow_142 rfl (s_getr C dX10_slipsNow_143 (j := 25) cls_X10 (by decide) rfl (by decide) (by decide) (by decide +kernel) wd_993 (s_iload C dX10_slipsNow_146 (s_iconst C dX10_slipsNow_148 rfl ⟨by decide, by decide⟩ (s_isub C dX10_slipsNow_149 (s_iald C dX10_slipsNow_150 (s_cs2 C dX10_slipsNow_151 (okX10_lesser l) wd_1288 wd_1289 wd_85 wd_1290 ⟨by decide, by decide, by decide +kernel⟩ ⟨by decide, by decide⟩ (s_iadd C dX10_slipsNow_154 (s_cs2 C dX10_slipsNow_155 (okX10_lesser l) wd_1288 wd_1289 wd_85 wd_1290 ⟨by decide, by decide, by decide +kernel⟩ ⟨by decide, by decide⟩ (s_iast C dX10_slipsNow_158 (s_iinc C dX10_slipsNow_159 (by decide) rfl (s_goto C dX10_slipsNow_162 (by decide) (fun _ _ _ h => h))))))))))))))))))))))))))))))))))))))))))))))))))))
theorem okX10_slipsNow (l : Launch) : z_OK l yX10_slipsNow cX10_slipsNow 6 (some .int) 1 22 SX10_slipsNow := by
  refine z_ok_of true (by decide +kernel) ?_ ?_
  · intro as σ Ret h
    obtain ⟨k0, x1, rfl⟩ := pX10_slipsNow h
    exact ⟨Nat.le_of_ble_eq_true rfl, by simp⟩
  · intro p e s m args below meth c D cA ad Ret C hr hlocks as σ has hσ h
    obtain ⟨k0, x1, rfl⟩ := pX10_slipsNow h
    exact vX10_slipsNow (rX10_slipsNow_0 C hr hlocks) (rX10_slipsNow_9 C hr hlocks) (rX10_slipsNow_29 C hr hlocks) (rX10_slipsNow_40 C hr hlocks) (rX10_slipsNow_76 C hr hlocks) k0 x1 σ (has _ (List.mem_of_getElem? (i := 0) rfl)) (has _ (List.mem_of_getElem? (i := 1) rfl)) hσ h
