/-! which trees were cut, asked of the model -/
def q_lfb (s : Nat) (a h : Nat → Int) (tr : Nat → Nat) (n c : Nat) : Bool := decide (q_lf s a h tr n c = some n)
def SX10_isLeft : zS := fun as σ Ret => match as with
  | [.inr (.inr (10, 0, _)), .inl s, .inl g, .inl n] => (((0 ≤ σ 89 24 ∧ σ 89 24 ≤ 12) ∧ ∀ i : Nat, (i : Int) < σ 89 24 → 0 ≤ σ 100 i ∧ σ 100 i < 12) ∧ (0 ≤ s ∧ s < 4096) ∧ (0 ≤ g ∧ g + n ≤ 320) ∧ 0 ≤ n ∧ n ≤ 12) ∧ Ret (some (.inl (if q_lfb s.toNat (σ 99) (fun y => σ 92 (g.toNat + y)) (fun k => (σ 100 k).toNat) n.toNat (σ 89 24).toNat = true then 1 else 0))) σ
  | _ => False
def tX10_isLeft_0 (X : Nat → zB) (Ret : zR) (L : zL) (st : List zV) (σ : zM) : Prop := (z_push 0 (z_istore 4 (z_push 0 (z_istore 5 (X 6))))) L st σ
def tX10_isLeft_6 (X : Nat → zB) (Ret : zR) (L : zL) (st : List zV) (σ : zM) : Prop := (z_iload 5 (z_aload 0 (z_geti 10 24 (z_icge (z_iload 4 (z_iload 3 (z_icne (z_push 0 (z_zret Ret)) (z_push 1 (z_goto (z_zret Ret)))))) (z_iload 1 (z_aload 0 (z_getr 10 11 100 12 (z_iload 5 (z_ald 0 (z_ishr (z_push 1 (z_iand (z_ifne (z_iinc 5 1 (z_goto (X 6))) (z_iload 4 (z_iload 3 (z_iceq (z_push 0 (z_zret Ret)) (z_aload 0 (z_getr 10 3 100 320 (z_iload 2 (z_iload 4 (z_iadd (z_ald 0 (z_aload 0 (z_getr 10 10 100 12 (z_iload 5 (z_ald 0 (z_iceq (z_iinc 4 1 (z_iinc 5 1 (z_goto (X 6)))) (z_push 0 (z_zret Ret))))))))))))))))))))))))))))) L st σ
theorem pX10_isLeft {as : List zV} {σ : zM} {Ret : zR} (h : SX10_isLeft as σ Ret) : ∃ (k0 : Nat) (x1 : Int) (x2 : Int) (x3 : Int), as = [.inr (.inr (10, 0, k0)), .inl x1, .inl x2, .inl x3] := by
  unfold SX10_isLeft at h
  split at h
  · exact ⟨_, _, _, _, rfl⟩
  · exact h.elim
set_option maxRecDepth 10000 in
set_option maxHeartbeats 4000000 in
theorem vX10_isLeft {X : Nat → zB} {Ret : zR} (h0 : ∀ L st σ, tX10_isLeft_0 X Ret L st σ → X 0 L st σ) (h6 : ∀ L st σ, tX10_isLeft_6 X Ret L st σ → X 6 L st σ) (k0 : Nat) (x1 : Int) (x2 : Int) (x3 : Int) (σ : zM) (hk0 : z_kd k0 = (10, 0)) (hx1 : -2147483648 ≤ x1 ∧ x1 ≤ 2147483647) (hx2 : -2147483648 ≤ x2 ∧ x2 ≤ 2147483647) (hx3 : -2147483648 ≤ x3 ∧ x3 ≤ 2147483647) (hσ : z_okm σ) (h : SX10_isLeft [.inr (.inr (10, 0, k0)), .inl x1, .inl x2, .inl x3] σ Ret) : X 0 [some (.inr (.inr (10, 0, k0))), some (.inl x1), some (.inl x2), some (.inl x3), none, none] [] σ := by
  obtain ⟨⟨⟨hh, htr⟩, ⟨s0, s1⟩, ⟨g0, g1⟩, n0, n1⟩, h⟩ := h
  obtain rfl := z_kd10 hk0
  obtain ⟨s, rfl⟩ := z_nat s0
  obtain ⟨g, rfl⟩ := z_nat g0
  obtain ⟨n, rfl⟩ := z_nat n0
  obtain ⟨cnt, hcnt⟩ := z_nat hh.1
  have hy : q_lfb s (σ 99) (fun y => σ 92 (g + y)) (fun k => (σ 100 k).toNat) n cnt = true → Ret (some (.inl 1)) σ := by
    intro e
    simp only [Int.toNat_natCast, hcnt] at h
    rw [if_pos e] at h
    exact h
  have hn : ¬ q_lfb s (σ 99) (fun y => σ 92 (g + y)) (fun k => (σ 100 k).toNat) n cnt = true → Ret (some (.inl 0)) σ := by
    intro e
    simp only [Int.toNat_natCast, hcnt] at h
    rw [if_neg e] at h
    exact h
  clear h
  generalize htt : (fun k => (σ 100 k).toNat) = tr at hy hn
  generalize hit : (fun y => σ 92 (g + y)) = it at hy hn
  have ht : ∀ i, i < cnt → tr i < 12 ∧ σ 100 i = (tr i : Int) := fun i hi => by
    have := htr i (by omega)
    rw [← htt]
    simp only
    omega
  have hi : ∀ y, σ 92 (g + y) = it y := fun y => by rw [← hit]
  have L6 : ∀ (d i k : Nat), i + d = cnt → q_lf s (σ 99) it tr n i = some k → X 6 [some (.inr (.inr (10, 0, 89))), some (.inl (s : Int)), some (.inl (g : Int)), some (.inl (n : Int)), some (.inl (k : Int)), some (.inl (i : Int))] [] σ := by
    intro d
    induction d with
    | zero =>
      intro i k hi2 hk
      obtain rfl : i = cnt := by omega
      have hb : q_lfb s (σ 99) it tr n i = true ↔ k = n := by unfold q_lfb; rw [hk, decide_eq_true_eq, Option.some.injEq]
      refine h6 _ _ _ ?_
      simp only [z_push, z_lpush, z_iload, z_lload, z_aload, z_istore, z_istoreP, z_lstore, z_astore, z_iinc, z_iincP, z_iadd, z_isub, z_imul, z_iaddW, z_isubW, z_imulW, z_idiv, z_irem, z_iand, z_ior, z_ixor, z_ishl, z_ishr, z_iushr, z_ineg, z_i2l, z_i2b, z_i2s, z_i2c, z_l2i, z_ladd, z_lsub, z_land, z_lor, z_lshl, z_lshr, z_lcmp, z_dup, z_pop, z_dup2, z_goto, z_tsw, z_cases, z_geti, z_getr, z_puti, z_putz, z_ald, z_iast, z_bast, z_zast, z_alen, z_acopy, z_mmax, z_mmin, z_mabs, z_mabsL, z_iret, z_zret, z_nret, z_lret, z_aret, z_vret, z_cat, z_ldcs, z_strv, z_strc, z_gcs, z_gfm, z_sln, z_sald, z_ifeq, z_ifne, z_iflt, z_ifge, z_ifgt, z_ifle, z_iceq, z_icne, z_iclt, z_icge, z_icgt, z_icle, z_cs0, z_cs1, z_cs2, z_cs3, z_cs4, z_cs5, z_cs6, z_cs7, z_cv0, z_cv1, z_cv2, z_cv3, z_cv4, z_cv5, z_cv6, z_cv7, z_g0, z_s0, z_g1, z_s1, z_g2, z_s2, z_g3, z_s3, z_g4, z_s4, z_g5, z_s5, z_g6, z_s6, z_g7, z_s7, z_g8, z_s8, z_g9, z_s9, z_g10, z_s10, z_g11, z_s11, z_g12, z_s12, z_g13, z_s13, z_b0, z_b1, z_b0n, z_b1n, z_up_far1, z_up_far2, z_up_far3, z_up_far4, z_up_far5, z_up_far6, Classical.not_not, not_true_eq_false, z_in, z_inL, Int.cast_ofNat_Int, Nat.reduceLeDiff, List.length_cons, List.length_nil, Nat.reduceAdd, Nat.zero_add, Nat.le_refl, true_and, and_true, List.length, Nat.reduceLT, true_or, or_true, false_or, or_false, false_and, and_false, not_true_eq_false, not_false_eq_true, forall_const, false_implies, true_implies, Int.reduceEq, Int.reduceLT, Int.reduceLE, Int.reduceAdd, Int.reduceSub, Int.reduceMul, Int.reduceNeg, Int.reduceToNat, Int.toNat_natCast, ↓reduceIte, reduceIte, Nat.reduceEqDiff, Nat.reduceSub, Nat.reduceMul, ne_eq, Int.zero_add, Int.add_zero, Int.sub_zero, Nat.add_zero, Int.ofNat_eq_natCast, tX10_isLeft_6, hcnt]
      by_cases c : k = n
      · have h := hy (hb.mpr c)
        repeat' (first | (intro _) | (with_reducible assumption) | (refine And.intro ?_ ?_))
        all_goals first | omega | assumption | (refine z_fin h ?_ rfl; first | rfl | omega | (split <;> omega) | (split <;> split <;> omega)) | skip
      · have h := hn (fun e => c (hb.mp e))
        repeat' (first | (intro _) | (with_reducible assumption) | (refine And.intro ?_ ?_))
        all_goals first | omega | assumption | (refine z_fin h ?_ rfl; first | rfl | omega | (split <;> omega) | (split <;> split <;> omega)) | skip
    | succ d ih =>
      intro i k hi2 hk
      have kn := q_lf_le i k hk
      obtain ⟨ti, te⟩ := ht i (by omega)
      have st : q_lf s (σ 99) it tr n (i + 1) = if s.testBit (tr i) then some k else if k < n ∧ it k = σ 99 i then some (k + 1) else none := by rw [q_lf, hk]
      have out : q_lf s (σ 99) it tr n (i + 1) = none → Ret (some (.inl 0)) σ := by
        intro e
        have e2 := q_lf_none e (cnt - (i + 1))
        rw [show i + 1 + (cnt - (i + 1)) = cnt by omega] at e2
        exact hn (by unfold q_lfb; rw [e2, decide_eq_true_eq]; intro e; cases e)
      have tg : ((g : Int) + (k : Int)).toNat = g + k := by omega
      refine h6 _ _ _ ?_
      by_cases c : s.testBit (tr i) = true
      · rw [if_pos c] at st
        have nx := ih (i + 1) k (by omega) st
        have zb := z_bit1 s (by omega) (tr i) ti
        rw [if_pos c] at zb
        simp only [z_push, z_lpush, z_iload, z_lload, z_aload, z_istore, z_istoreP, z_lstore, z_astore, z_iinc, z_iincP, z_iadd, z_isub, z_imul, z_iaddW, z_isubW, z_imulW, z_idiv, z_irem, z_iand, z_ior, z_ixor, z_ishl, z_ishr, z_iushr, z_ineg, z_i2l, z_i2b, z_i2s, z_i2c, z_l2i, z_ladd, z_lsub, z_land, z_lor, z_lshl, z_lshr, z_lcmp, z_dup, z_pop, z_dup2, z_goto, z_tsw, z_cases, z_geti, z_getr, z_puti, z_putz, z_ald, z_iast, z_bast, z_zast, z_alen, z_acopy, z_mmax, z_mmin, z_mabs, z_mabsL, z_iret, z_zret, z_nret, z_lret, z_aret, z_vret, z_cat, z_ldcs, z_strv, z_strc, z_gcs, z_gfm, z_sln, z_sald, z_ifeq, z_ifne, z_iflt, z_ifge, z_ifgt, z_ifle, z_iceq, z_icne, z_iclt, z_icge, z_icgt, z_icle, z_cs0, z_cs1, z_cs2, z_cs3, z_cs4, z_cs5, z_cs6, z_cs7, z_cv0, z_cv1, z_cv2, z_cv3, z_cv4, z_cv5, z_cv6, z_cv7, z_g0, z_s0, z_g1, z_s1, z_g2, z_s2, z_g3, z_s3, z_g4, z_s4, z_g5, z_s5, z_g6, z_s6, z_g7, z_s7, z_g8, z_s8, z_g9, z_s9, z_g10, z_s10, z_g11, z_s11, z_g12, z_s12, z_g13, z_s13, z_b0, z_b1, z_b0n, z_b1n, z_up_far1, z_up_far2, z_up_far3, z_up_far4, z_up_far5, z_up_far6, Classical.not_not, not_true_eq_false, z_in, z_inL, Int.cast_ofNat_Int, Nat.reduceLeDiff, List.length_cons, List.length_nil, Nat.reduceAdd, Nat.zero_add, Nat.le_refl, true_and, and_true, List.length, Nat.reduceLT, true_or, or_true, false_or, or_false, false_and, and_false, not_true_eq_false, not_false_eq_true, forall_const, false_implies, true_implies, Int.reduceEq, Int.reduceLT, Int.reduceLE, Int.reduceAdd, Int.reduceSub, Int.reduceMul, Int.reduceNeg, Int.reduceToNat, Int.toNat_natCast, ↓reduceIte, reduceIte, Nat.reduceEqDiff, Nat.reduceSub, Nat.reduceMul, ne_eq, Int.zero_add, Int.add_zero, Int.sub_zero, Nat.add_zero, Int.ofNat_eq_natCast, tX10_isLeft_6, hcnt, te, zb, tg, hi]
        repeat' (first | (intro _) | (with_reducible assumption) | (refine And.intro ?_ ?_))
        all_goals first | omega | assumption | (refine z_fin nx ?_ rfl; first | rfl | omega | (split <;> omega) | (split <;> split <;> omega)) | skip
      · rw [if_neg c] at st
        have zb := z_bit1 s (by omega) (tr i) ti
        rw [if_neg c] at zb
        by_cases c2 : k < n ∧ it k = σ 99 i
        · rw [if_pos c2] at st
          have nx := ih (i + 1) (k + 1) (by omega) st
          have c3 := c2.2
          simp only [z_push, z_lpush, z_iload, z_lload, z_aload, z_istore, z_istoreP, z_lstore, z_astore, z_iinc, z_iincP, z_iadd, z_isub, z_imul, z_iaddW, z_isubW, z_imulW, z_idiv, z_irem, z_iand, z_ior, z_ixor, z_ishl, z_ishr, z_iushr, z_ineg, z_i2l, z_i2b, z_i2s, z_i2c, z_l2i, z_ladd, z_lsub, z_land, z_lor, z_lshl, z_lshr, z_lcmp, z_dup, z_pop, z_dup2, z_goto, z_tsw, z_cases, z_geti, z_getr, z_puti, z_putz, z_ald, z_iast, z_bast, z_zast, z_alen, z_acopy, z_mmax, z_mmin, z_mabs, z_mabsL, z_iret, z_zret, z_nret, z_lret, z_aret, z_vret, z_cat, z_ldcs, z_strv, z_strc, z_gcs, z_gfm, z_sln, z_sald, z_ifeq, z_ifne, z_iflt, z_ifge, z_ifgt, z_ifle, z_iceq, z_icne, z_iclt, z_icge, z_icgt, z_icle, z_cs0, z_cs1, z_cs2, z_cs3, z_cs4, z_cs5, z_cs6, z_cs7, z_cv0, z_cv1, z_cv2, z_cv3, z_cv4, z_cv5, z_cv6, z_cv7, z_g0, z_s0, z_g1, z_s1, z_g2, z_s2, z_g3, z_s3, z_g4, z_s4, z_g5, z_s5, z_g6, z_s6, z_g7, z_s7, z_g8, z_s8, z_g9, z_s9, z_g10, z_s10, z_g11, z_s11, z_g12, z_s12, z_g13, z_s13, z_b0, z_b1, z_b0n, z_b1n, z_up_far1, z_up_far2, z_up_far3, z_up_far4, z_up_far5, z_up_far6, Classical.not_not, not_true_eq_false, z_in, z_inL, Int.cast_ofNat_Int, Nat.reduceLeDiff, List.length_cons, List.length_nil, Nat.reduceAdd, Nat.zero_add, Nat.le_refl, true_and, and_true, List.length, Nat.reduceLT, true_or, or_true, false_or, or_false, false_and, and_false, not_true_eq_false, not_false_eq_true, forall_const, false_implies, true_implies, Int.reduceEq, Int.reduceLT, Int.reduceLE, Int.reduceAdd, Int.reduceSub, Int.reduceMul, Int.reduceNeg, Int.reduceToNat, Int.toNat_natCast, ↓reduceIte, reduceIte, Nat.reduceEqDiff, Nat.reduceSub, Nat.reduceMul, ne_eq, Int.zero_add, Int.add_zero, Int.sub_zero, Nat.add_zero, Int.ofNat_eq_natCast, tX10_isLeft_6, hcnt, te, zb, tg, hi]
          repeat' (first | (intro _) | (with_reducible assumption) | (refine And.intro ?_ ?_))
          all_goals first | omega | assumption | (refine z_fin nx ?_ rfl; first | rfl | omega | (split <;> omega) | (split <;> split <;> omega)) | skip
        · rw [if_neg c2] at st
          have o := out st
          simp only [z_push, z_lpush, z_iload, z_lload, z_aload, z_istore, z_istoreP, z_lstore, z_astore, z_iinc, z_iincP, z_iadd, z_isub, z_imul, z_iaddW, z_isubW, z_imulW, z_idiv, z_irem, z_iand, z_ior, z_ixor, z_ishl, z_ishr, z_iushr, z_ineg, z_i2l, z_i2b, z_i2s, z_i2c, z_l2i, z_ladd, z_lsub, z_land, z_lor, z_lshl, z_lshr, z_lcmp, z_dup, z_pop, z_dup2, z_goto, z_tsw, z_cases, z_geti, z_getr, z_puti, z_putz, z_ald, z_iast, z_bast, z_zast, z_alen, z_acopy, z_mmax, z_mmin, z_mabs, z_mabsL, z_iret, z_zret, z_nret, z_lret, z_aret, z_vret, z_cat, z_ldcs, z_strv, z_strc, z_gcs, z_gfm, z_sln, z_sald, z_ifeq, z_ifne, z_iflt, z_ifge, z_ifgt, z_ifle, z_iceq, z_icne, z_iclt, z_icge, z_icgt, z_icle, z_cs0, z_cs1, z_cs2, z_cs3, z_cs4, z_cs5, z_cs6, z_cs7, z_cv0, z_cv1, z_cv2, z_cv3, z_cv4, z_cv5, z_cv6, z_cv7, z_g0, z_s0, z_g1, z_s1, z_g2, z_s2, z_g3, z_s3, z_g4, z_s4, z_g5, z_s5, z_g6, z_s6, z_g7, z_s7, z_g8, z_s8, z_g9, z_s9, z_g10, z_s10, z_g11, z_s11, z_g12, z_s12, z_g13, z_s13, z_b0, z_b1, z_b0n, z_b1n, z_up_far1, z_up_far2, z_up_far3, z_up_far4, z_up_far5, z_up_far6, Classical.not_not, not_true_eq_false, z_in, z_inL, Int.cast_ofNat_Int, Nat.reduceLeDiff, List.length_cons, List.length_nil, Nat.reduceAdd, Nat.zero_add, Nat.le_refl, true_and, and_true, List.length, Nat.reduceLT, true_or, or_true, false_or, or_false, false_and, and_false, not_true_eq_false, not_false_eq_true, forall_const, false_implies, true_implies, Int.reduceEq, Int.reduceLT, Int.reduceLE, Int.reduceAdd, Int.reduceSub, Int.reduceMul, Int.reduceNeg, Int.reduceToNat, Int.toNat_natCast, ↓reduceIte, reduceIte, Nat.reduceEqDiff, Nat.reduceSub, Nat.reduceMul, ne_eq, Int.zero_add, Int.add_zero, Int.sub_zero, Nat.add_zero, Int.ofNat_eq_natCast, tX10_isLeft_6, hcnt, te, zb, tg, hi]
          repeat' (first | (intro _) | (with_reducible assumption) | (refine And.intro ?_ ?_))
          all_goals first | omega | assumption | (refine z_fin o ?_ rfl; first | rfl | omega | (split <;> omega) | (split <;> split <;> omega)) | skip
          all_goals (exfalso; exact c2 ⟨by omega, by assumption⟩)
  refine h0 _ _ _ ?_
  simp only [z_push, z_lpush, z_iload, z_lload, z_aload, z_istore, z_istoreP, z_lstore, z_astore, z_iinc, z_iincP, z_iadd, z_isub, z_imul, z_iaddW, z_isubW, z_imulW, z_idiv, z_irem, z_iand, z_ior, z_ixor, z_ishl, z_ishr, z_iushr, z_ineg, z_i2l, z_i2b, z_i2s, z_i2c, z_l2i, z_ladd, z_lsub, z_land, z_lor, z_lshl, z_lshr, z_lcmp, z_dup, z_pop, z_dup2, z_goto, z_tsw, z_cases, z_geti, z_getr, z_puti, z_putz, z_ald, z_iast, z_bast, z_zast, z_alen, z_acopy, z_mmax, z_mmin, z_mabs, z_mabsL, z_iret, z_zret, z_nret, z_lret, z_aret, z_vret, z_cat, z_ldcs, z_strv, z_strc, z_gcs, z_gfm, z_sln, z_sald, z_ifeq, z_ifne, z_iflt, z_ifge, z_ifgt, z_ifle, z_iceq, z_icne, z_iclt, z_icge, z_icgt, z_icle, z_cs0, z_cs1, z_cs2, z_cs3, z_cs4, z_cs5, z_cs6, z_cs7, z_cv0, z_cv1, z_cv2, z_cv3, z_cv4, z_cv5, z_cv6, z_cv7, z_g0, z_s0, z_g1, z_s1, z_g2, z_s2, z_g3, z_s3, z_g4, z_s4, z_g5, z_s5, z_g6, z_s6, z_g7, z_s7, z_g8, z_s8, z_g9, z_s9, z_g10, z_s10, z_g11, z_s11, z_g12, z_s12, z_g13, z_s13, z_b0, z_b1, z_b0n, z_b1n, z_up_far1, z_up_far2, z_up_far3, z_up_far4, z_up_far5, z_up_far6, Classical.not_not, not_true_eq_false, z_in, z_inL, Int.cast_ofNat_Int, Nat.reduceLeDiff, List.length_cons, List.length_nil, Nat.reduceAdd, Nat.zero_add, Nat.le_refl, true_and, and_true, List.length, Nat.reduceLT, true_or, or_true, false_or, or_false, false_and, and_false, not_true_eq_false, not_false_eq_true, forall_const, false_implies, true_implies, Int.reduceEq, Int.reduceLT, Int.reduceLE, Int.reduceAdd, Int.reduceSub, Int.reduceMul, Int.reduceNeg, Int.reduceToNat, Int.toNat_natCast, ↓reduceIte, reduceIte, Nat.reduceEqDiff, Nat.reduceSub, Nat.reduceMul, ne_eq, Int.zero_add, Int.add_zero, Int.sub_zero, Nat.add_zero, Int.ofNat_eq_natCast, tX10_isLeft_0]
  exact L6 cnt 0 0 (by omega) rfl
theorem dX10_isLeft_0 : decode cX10_isLeft 0 = .ok (.iconst 0, 1) := by decide +kernel
theorem dX10_isLeft_1 : decode cX10_isLeft 1 = .ok (.istore 4, 2) := by decide +kernel
theorem dX10_isLeft_3 : decode cX10_isLeft 3 = .ok (.iconst 0, 1) := by decide +kernel
theorem dX10_isLeft_4 : decode cX10_isLeft 4 = .ok (.istore 5, 2) := by decide +kernel
theorem dX10_isLeft_6 : decode cX10_isLeft 6 = .ok (.iload 5, 2) := by decide +kernel
theorem dX10_isLeft_8 : decode cX10_isLeft 8 = .ok (.aload_n 0, 1) := by decide +kernel
theorem dX10_isLeft_9 : decode cX10_isLeft 9 = .ok (.getfield 246, 3) := by decide +kernel
theorem dX10_isLeft_12 : decode cX10_isLeft 12 = .ok (.if_icmp .ge 53, 3) := by decide +kernel
theorem dX10_isLeft_15 : decode cX10_isLeft 15 = .ok (.iload_n 1, 1) := by decide +kernel
theorem dX10_isLeft_16 : decode cX10_isLeft 16 = .ok (.aload_n 0, 1) := by decide +kernel
theorem dX10_isLeft_17 : decode cX10_isLeft 17 = .ok (.getfield 40, 3) := by decide +kernel
theorem dX10_isLeft_20 : decode cX10_isLeft 20 = .ok (.iload 5, 2) := by decide +kernel
theorem dX10_isLeft_22 : decode cX10_isLeft 22 = .ok (.iaload, 1) := by decide +kernel
theorem dX10_isLeft_23 : decode cX10_isLeft 23 = .ok (.ishr, 1) := by decide +kernel
theorem dX10_isLeft_24 : decode cX10_isLeft 24 = .ok (.iconst 1, 1) := by decide +kernel
theorem dX10_isLeft_25 : decode cX10_isLeft 25 = .ok (.iand, 1) := by decide +kernel
theorem dX10_isLeft_26 : decode cX10_isLeft 26 = .ok (.ifCond .ne 33, 3) := by decide +kernel
theorem dX10_isLeft_29 : decode cX10_isLeft 29 = .ok (.iload 4, 2) := by decide +kernel
theorem dX10_isLeft_31 : decode cX10_isLeft 31 = .ok (.iload_n 3, 1) := by decide +kernel
theorem dX10_isLeft_32 : decode cX10_isLeft 32 = .ok (.if_icmp .eq 22, 3) := by decide +kernel
theorem dX10_isLeft_35 : decode cX10_isLeft 35 = .ok (.aload_n 0, 1) := by decide +kernel
theorem dX10_isLeft_36 : decode cX10_isLeft 36 = .ok (.getfield 16, 3) := by decide +kernel
theorem dX10_isLeft_39 : decode cX10_isLeft 39 = .ok (.iload_n 2, 1) := by decide +kernel
theorem dX10_isLeft_40 : decode cX10_isLeft 40 = .ok (.iload 4, 2) := by decide +kernel
theorem dX10_isLeft_42 : decode cX10_isLeft 42 = .ok (.iadd, 1) := by decide +kernel
theorem dX10_isLeft_43 : decode cX10_isLeft 43 = .ok (.iaload, 1) := by decide +kernel
theorem dX10_isLeft_44 : decode cX10_isLeft 44 = .ok (.aload_n 0, 1) := by decide +kernel
theorem dX10_isLeft_45 : decode cX10_isLeft 45 = .ok (.getfield 37, 3) := by decide +kernel
theorem dX10_isLeft_48 : decode cX10_isLeft 48 = .ok (.iload 5, 2) := by decide +kernel
theorem dX10_isLeft_50 : decode cX10_isLeft 50 = .ok (.iaload, 1) := by decide +kernel
theorem dX10_isLeft_51 : decode cX10_isLeft 51 = .ok (.if_icmp .eq 5, 3) := by decide +kernel
theorem dX10_isLeft_54 : decode cX10_isLeft 54 = .ok (.iconst 0, 1) := by decide +kernel
theorem dX10_isLeft_55 : decode cX10_isLeft 55 = .ok (.ireturn, 1) := by decide +kernel
theorem dX10_isLeft_56 : decode cX10_isLeft 56 = .ok (.iinc 4 1, 3) := by decide +kernel
theorem dX10_isLeft_59 : decode cX10_isLeft 59 = .ok (.iinc 5 1, 3) := by decide +kernel
theorem dX10_isLeft_62 : decode cX10_isLeft 62 = .ok (.goto (-56), 3) := by decide +kernel
theorem dX10_isLeft_65 : decode cX10_isLeft 65 = .ok (.iload 4, 2) := by decide +kernel
theorem dX10_isLeft_67 : decode cX10_isLeft 67 = .ok (.iload_n 3, 1) := by decide +kernel
theorem dX10_isLeft_68 : decode cX10_isLeft 68 = .ok (.if_icmp .ne 7, 3) := by decide +kernel
theorem dX10_isLeft_71 : decode cX10_isLeft 71 = .ok (.iconst 1, 1) := by decide +kernel
theorem dX10_isLeft_72 : decode cX10_isLeft 72 = .ok (.goto 4, 3) := by decide +kernel
theorem dX10_isLeft_75 : decode cX10_isLeft 75 = .ok (.iconst 0, 1) := by decide +kernel
theorem dX10_isLeft_76 : decode cX10_isLeft 76 = .ok (.ireturn, 1) := by decide +kernel
set_option maxRecDepth 100000 in
theorem rX10_isLeft_0 {p : Program} {l : Launch} {e : Env} {s : State} {m : MethodId} {args : Array Value} {below : List Frame} {meth : Method} {c : Code} {D : va_G} {cA : Nat → ClassId} {ad : Nat → Nat} {Ret : zR} (C : z_Cx p { frames := 0, cells := 0, slots := 0, locals := 0 } s m args c cX10_isLeft yX10_isLeft.cls 6 D cA ad) (hr : meth.sig.returnType = (some .boolean)) (hlocks : meth.locks = false) : ∀ L st σ, tX10_isLeft_0 (z_X p l e { frames := 0, cells := 0, slots := 0, locals := 0 } s m args below meth c (MQ below (z_Qc D cA ad Ret) args s 0 0 (z_A ad)) 6 D cA ad true) Ret L st σ → z_X p l e { frames := 0, cells := 0, slots := 0, locals := 0 } s m args below meth c (MQ below (z_Qc D cA ad Ret) args s 0 0 (z_A ad)) 6 D cA ad true 0 L st σ := (s_iconst C dX10_isLeft_0 rfl ⟨by decide, by decide⟩ (s_istore C dX10_isLeft_1 (by decide) rfl (s_iconst C dX10_isLeft_3 rfl ⟨by decide, by decide⟩ (s_istore C dX10_isLeft_4 (by decide) rfl (fun _ _ _ h => h)))))
set_option maxRecDepth 100000 in
theorem rX10_isLeft_6 {p : Program} {l : Launch} {e : Env} {s : State} {m : MethodId} {args : Array Value} {below : List Frame} {meth : Method} {c : Code} {D : va_G} {cA : Nat → ClassId} {ad : Nat → Nat} {Ret : zR} (C : z_Cx p { frames := 0, cells := 0, slots := 0, locals := 0 } s m args c cX10_isLeft yX10_isLeft.cls 6 D cA ad) (hr : meth.sig.returnType = (some .boolean)) (hlocks : meth.locks = false) : ∀ L st σ, tX10_isLeft_6 (z_X p l e { frames := 0, cells := 0, slots := 0, locals := 0 } s m args below meth c (MQ below (z_Qc D cA ad Ret) args s 0 0 (z_A ad)) 6 D cA ad true) Ret L st σ → z_X p l e { frames := 0, cells := 0, slots := 0, locals := 0 } s m args below meth c (MQ below (z_Qc D cA ad Ret) args s 0 0 (z_A ad)) 6 D cA ad true 6 L st σ := (s_iload C dX10_isLeft_6 (s_aload_n C dX10_isLeft_8 rfl (s_geti C dX10_isLeft_9 cls_X10 (by decide) rfl wd_992 (s_icge C dX10_isLeft_12 (by decide) (s_iload C dX10_isLeft_65 (s_iload_n C dX10_isLeft_67 rfl (s_icne C dX10_isLeft_68 (by decide) (s_iconst C dX10_isLeft_75 rfl ⟨by decide, by decide⟩ (s_zret C dX10_isLeft_76 hr ⟨rfl, rfl⟩ hlocks)) (s_iconst C dX10_isLeft_71 rfl ⟨by decide, by decide⟩ (s_goto C dX10_isLeft_72 (by decide) (s_zret C dX10_isLeft_76 hr ⟨rfl, rfl⟩ hlocks)))))) (s_iload_n C dX10_isLeft_15 rfl (s_aload_n C dX10_isLeft_16 rfl (s_getr C dX10_isLeft_17 (j := 23) cls_X10 (by decide) rfl (by decide) (by decide) (by decide +kernel) wd_991 (s_iload C dX10_isLeft_20 (s_iald C dX10_isLeft_22 (s_ishr C dX10_isLeft_23 (s_iconst C dX10_isLeft_24 rfl ⟨by decide, by decide⟩ (s_iand C dX10_isLeft_25 (s_ifne C dX10_isLeft_26 (by decide) (s_iinc C dX10_isLeft_59 (by decide) rfl (s_goto C dX10_isLeft_62 (by decide) (fun _ _ _ h => h))) (s_iload C dX10_isLeft_29 (s_iload_n C dX10_isLeft_31 rfl (s_iceq C dX10_isLeft_32 (by decide) (s_iconst C dX10_isLeft_54 rfl ⟨by decide, by decide⟩ (s_zret C dX10_isLeft_55 hr ⟨rfl, rfl⟩ hlocks)) (s_aload_n C dX10_isLeft_35 rfl (s_getr C dX10_isLeft_36 (j := 4) cls_X10 (by decide) rfl (by decide) (by decide) (by decide +kernel) wd_972 (s_iload_n C dX10_isLeft_39 rfl (s_iload C dX10_isLeft_40 (s_iadd C dX10_isLeft_42 (s_iald C dX10_isLeft_43 (s_aload_n C dX10_isLeft_44 rfl (s_getr C dX10_isLeft_45 (j := 22) cls_X10 (by decide) rfl (by decide) (by decide) (by decide +kernel) wd_990 (s_iload C dX10_isLeft_48 (s_iald C dX10_isLeft_50 (s_iceq C dX10_isLeft_51 (by decide) (s_iinc C dX10_isLeft_56 (by decide) rfl (s_iinc C dX10_isLeft_59 (by decide) rfl (s_goto C dX10_isLeft_62 (by decide) (fun _ _ _ h => h)))) (s_iconst C dX10_isLeft_54 rfl ⟨by decide, by decide⟩ (s_zret C dX10_isLeft_55 hr ⟨rfl, rfl⟩ hlocks)))))))))))))))))))))))))))))
theorem okX10_isLeft (l : Launch) : z_OK l yX10_isLeft cX10_isLeft 6 (some .boolean) 0 0 SX10_isLeft := by
  refine z_ok_of true (by decide +kernel) ?_ ?_
  · intro as σ Ret h
    obtain ⟨k0, x1, x2, x3, rfl⟩ := pX10_isLeft h
    exact ⟨Nat.le_of_ble_eq_true rfl, by simp⟩
  · intro p e s m args below meth c D cA ad Ret C hr hlocks as σ has hσ h
    obtain ⟨k0, x1, x2, x3, rfl⟩ := pX10_isLeft h
    exact vX10_isLeft (rX10_isLeft_0 C hr hlocks) (rX10_isLeft_6 C hr hlocks) k0 x1 x2 x3 σ (has _ (List.mem_of_getElem? (i := 0) rfl)) (has _ (List.mem_of_getElem? (i := 1) rfl)) (has _ (List.mem_of_getElem? (i := 2) rfl)) (has _ (List.mem_of_getElem? (i := 3) rfl)) hσ h
def SX10_heardSet : zS := fun as σ Ret => match as with
  | [.inr (.inr (10, 0, _))] => ((0 ≤ σ 89 24 ∧ σ 89 24 ≤ 12) ∧ ∀ i : Nat, (i : Int) < σ 89 24 → 0 ≤ σ 100 i ∧ σ 100 i < 12) ∧ Ret (some (.inl (q_hsN (fun k => (σ 100 k).toNat) (σ 89 24).toNat : Int))) σ
  | _ => False
def tX10_heardSet_0 (X : Nat → zB) (Ret : zR) (L : zL) (st : List zV) (σ : zM) : Prop := (z_push 0 (z_istore 1 (z_push 0 (z_istore 2 (X 4))))) L st σ
def tX10_heardSet_4 (X : Nat → zB) (Ret : zR) (L : zL) (st : List zV) (σ : zM) : Prop := (z_iload 2 (z_aload 0 (z_geti 10 24 (z_icge (z_iload 1 (z_iret Ret)) (z_iload 1 (z_push 1 (z_aload 0 (z_getr 10 11 100 12 (z_iload 2 (z_ald 0 (z_ishl (z_ior (z_istore 1 (z_iinc 2 1 (z_goto (X 4)))))))))))))))) L st σ
theorem pX10_heardSet {as : List zV} {σ : zM} {Ret : zR} (h : SX10_heardSet as σ Ret) : ∃ (k0 : Nat), as = [.inr (.inr (10, 0, k0))] := by
  unfold SX10_heardSet at h
  split at h
  · exact ⟨_, rfl⟩
  · exact h.elim
set_option maxRecDepth 10000 in
set_option maxHeartbeats 4000000 in
theorem vX10_heardSet {X : Nat → zB} {Ret : zR} (h0 : ∀ L st σ, tX10_heardSet_0 X Ret L st σ → X 0 L st σ) (h4 : ∀ L st σ, tX10_heardSet_4 X Ret L st σ → X 4 L st σ) (k0 : Nat) (σ : zM) (hk0 : z_kd k0 = (10, 0)) (hσ : z_okm σ) (h : SX10_heardSet [.inr (.inr (10, 0, k0))] σ Ret) : X 0 [some (.inr (.inr (10, 0, k0))), none, none] [] σ := by
  obtain ⟨⟨hh, htr⟩, h⟩ := h
  obtain rfl := z_kd10 hk0
  obtain ⟨cnt, hcnt⟩ := z_nat hh.1
  rw [hcnt] at h
  simp only [Int.toNat_natCast] at h
  generalize htt : (fun k => (σ 100 k).toNat) = tr at h
  have ht : ∀ i, i < cnt → tr i < 12 ∧ σ 100 i = (tr i : Int) := fun i hi => by
    have := htr i (by omega)
    rw [← htt]
    simp only
    omega
  have L4 : ∀ (d i : Nat), i + d = cnt → X 4 [some (.inr (.inr (10, 0, 89))), some (.inl (q_hsN tr i : Int)), some (.inl (i : Int))] [] σ := by
    intro d
    induction d with
    | zero =>
      intro i hi
      obtain rfl : i = cnt := by omega
      refine h4 _ _ _ ?_
      simp only [z_push, z_lpush, z_iload, z_lload, z_aload, z_istore, z_istoreP, z_lstore, z_astore, z_iinc, z_iincP, z_iadd, z_isub, z_imul, z_iaddW, z_isubW, z_imulW, z_idiv, z_irem, z_iand, z_ior, z_ixor, z_ishl, z_ishr, z_iushr, z_ineg, z_i2l, z_i2b, z_i2s, z_i2c, z_l2i, z_ladd, z_lsub, z_land, z_lor, z_lshl, z_lshr, z_lcmp, z_dup, z_pop, z_dup2, z_goto, z_tsw, z_cases, z_geti, z_getr, z_puti, z_putz, z_ald, z_iast, z_bast, z_zast, z_alen, z_acopy, z_mmax, z_mmin, z_mabs, z_mabsL, z_iret, z_zret, z_nret, z_lret, z_aret, z_vret, z_cat, z_ldcs, z_strv, z_strc, z_gcs, z_gfm, z_sln, z_sald, z_ifeq, z_ifne, z_iflt, z_ifge, z_ifgt, z_ifle, z_iceq, z_icne, z_iclt, z_icge, z_icgt, z_icle, z_cs0, z_cs1, z_cs2, z_cs3, z_cs4, z_cs5, z_cs6, z_cs7, z_cv0, z_cv1, z_cv2, z_cv3, z_cv4, z_cv5, z_cv6, z_cv7, z_g0, z_s0, z_g1, z_s1, z_g2, z_s2, z_g3, z_s3, z_g4, z_s4, z_g5, z_s5, z_g6, z_s6, z_g7, z_s7, z_g8, z_s8, z_g9, z_s9, z_g10, z_s10, z_g11, z_s11, z_g12, z_s12, z_g13, z_s13, z_b0, z_b1, z_b0n, z_b1n, z_up_far1, z_up_far2, z_up_far3, z_up_far4, z_up_far5, z_up_far6, Classical.not_not, not_true_eq_false, z_in, z_inL, Int.cast_ofNat_Int, Nat.reduceLeDiff, List.length_cons, List.length_nil, Nat.reduceAdd, Nat.zero_add, Nat.le_refl, true_and, and_true, List.length, Nat.reduceLT, true_or, or_true, false_or, or_false, false_and, and_false, not_true_eq_false, not_false_eq_true, forall_const, false_implies, true_implies, Int.reduceEq, Int.reduceLT, Int.reduceLE, Int.reduceAdd, Int.reduceSub, Int.reduceMul, Int.reduceNeg, Int.reduceToNat, Int.toNat_natCast, ↓reduceIte, reduceIte, Nat.reduceEqDiff, Nat.reduceSub, Nat.reduceMul, ne_eq, Int.zero_add, Int.add_zero, Int.sub_zero, Nat.add_zero, Int.ofNat_eq_natCast, tX10_heardSet_4, hcnt]
      repeat' (first | (intro _) | (with_reducible assumption) | (refine And.intro ?_ ?_))
      all_goals first | omega | assumption | (refine z_fin h ?_ rfl; first | rfl | omega | (split <;> omega) | (split <;> split <;> omega)) | skip
    | succ d ih =>
      intro i hi
      obtain ⟨ti, te⟩ := ht i (by omega)
      have nx := ih (i + 1) (by omega)
      have l1 := q_hsN_lt (tr := tr) (c := cnt) (fun k hk => (ht k hk).1) i (by omega)
      have pi : 2 ^ tr i < 4096 := Nat.pow_lt_pow_right (by decide) (show tr i < 12 from ti)
      rw [q_hsN, ← z_bor (by omega) (by omega)] at nx
      refine h4 _ _ _ ?_
      simp only [z_push, z_lpush, z_iload, z_lload, z_aload, z_istore, z_istoreP, z_lstore, z_astore, z_iinc, z_iincP, z_iadd, z_isub, z_imul, z_iaddW, z_isubW, z_imulW, z_idiv, z_irem, z_iand, z_ior, z_ixor, z_ishl, z_ishr, z_iushr, z_ineg, z_i2l, z_i2b, z_i2s, z_i2c, z_l2i, z_ladd, z_lsub, z_land, z_lor, z_lshl, z_lshr, z_lcmp, z_dup, z_pop, z_dup2, z_goto, z_tsw, z_cases, z_geti, z_getr, z_puti, z_putz, z_ald, z_iast, z_bast, z_zast, z_alen, z_acopy, z_mmax, z_mmin, z_mabs, z_mabsL, z_iret, z_zret, z_nret, z_lret, z_aret, z_vret, z_cat, z_ldcs, z_strv, z_strc, z_gcs, z_gfm, z_sln, z_sald, z_ifeq, z_ifne, z_iflt, z_ifge, z_ifgt, z_ifle, z_iceq, z_icne, z_iclt, z_icge, z_icgt, z_icle, z_cs0, z_cs1, z_cs2, z_cs3, z_cs4, z_cs5, z_cs6, z_cs7, z_cv0, z_cv1, z_cv2, z_cv3, z_cv4, z_cv5, z_cv6, z_cv7, z_g0, z_s0, z_g1, z_s1, z_g2, z_s2, z_g3, z_s3, z_g4, z_s4, z_g5, z_s5, z_g6, z_s6, z_g7, z_s7, z_g8, z_s8, z_g9, z_s9, z_g10, z_s10, z_g11, z_s11, z_g12, z_s12, z_g13, z_s13, z_b0, z_b1, z_b0n, z_b1n, z_up_far1, z_up_far2, z_up_far3, z_up_far4, z_up_far5, z_up_far6, Classical.not_not, not_true_eq_false, z_in, z_inL, Int.cast_ofNat_Int, Nat.reduceLeDiff, List.length_cons, List.length_nil, Nat.reduceAdd, Nat.zero_add, Nat.le_refl, true_and, and_true, List.length, Nat.reduceLT, true_or, or_true, false_or, or_false, false_and, and_false, not_true_eq_false, not_false_eq_true, forall_const, false_implies, true_implies, Int.reduceEq, Int.reduceLT, Int.reduceLE, Int.reduceAdd, Int.reduceSub, Int.reduceMul, Int.reduceNeg, Int.reduceToNat, Int.toNat_natCast, ↓reduceIte, reduceIte, Nat.reduceEqDiff, Nat.reduceSub, Nat.reduceMul, ne_eq, Int.zero_add, Int.add_zero, Int.sub_zero, Nat.add_zero, Int.ofNat_eq_natCast, tX10_heardSet_4, hcnt, te, z_shl1 (tr i) ti]
      repeat' (first | (intro _) | (with_reducible assumption) | (refine And.intro ?_ ?_))
      all_goals first | omega | assumption | (refine z_fin nx ?_ rfl; first | rfl | omega | (split <;> omega) | (split <;> split <;> omega)) | skip
  refine h0 _ _ _ ?_
  simp only [z_push, z_lpush, z_iload, z_lload, z_aload, z_istore, z_istoreP, z_lstore, z_astore, z_iinc, z_iincP, z_iadd, z_isub, z_imul, z_iaddW, z_isubW, z_imulW, z_idiv, z_irem, z_iand, z_ior, z_ixor, z_ishl, z_ishr, z_iushr, z_ineg, z_i2l, z_i2b, z_i2s, z_i2c, z_l2i, z_ladd, z_lsub, z_land, z_lor, z_lshl, z_lshr, z_lcmp, z_dup, z_pop, z_dup2, z_goto, z_tsw, z_cases, z_geti, z_getr, z_puti, z_putz, z_ald, z_iast, z_bast, z_zast, z_alen, z_acopy, z_mmax, z_mmin, z_mabs, z_mabsL, z_iret, z_zret, z_nret, z_lret, z_aret, z_vret, z_cat, z_ldcs, z_strv, z_strc, z_gcs, z_gfm, z_sln, z_sald, z_ifeq, z_ifne, z_iflt, z_ifge, z_ifgt, z_ifle, z_iceq, z_icne, z_iclt, z_icge, z_icgt, z_icle, z_cs0, z_cs1, z_cs2, z_cs3, z_cs4, z_cs5, z_cs6, z_cs7, z_cv0, z_cv1, z_cv2, z_cv3, z_cv4, z_cv5, z_cv6, z_cv7, z_g0, z_s0, z_g1, z_s1, z_g2, z_s2, z_g3, z_s3, z_g4, z_s4, z_g5, z_s5, z_g6, z_s6, z_g7, z_s7, z_g8, z_s8, z_g9, z_s9, z_g10, z_s10, z_g11, z_s11, z_g12, z_s12, z_g13, z_s13, z_b0, z_b1, z_b0n, z_b1n, z_up_far1, z_up_far2, z_up_far3, z_up_far4, z_up_far5, z_up_far6, Classical.not_not, not_true_eq_false, z_in, z_inL, Int.cast_ofNat_Int, Nat.reduceLeDiff, List.length_cons, List.length_nil, Nat.reduceAdd, Nat.zero_add, Nat.le_refl, true_and, and_true, List.length, Nat.reduceLT, true_or, or_true, false_or, or_false, false_and, and_false, not_true_eq_false, not_false_eq_true, forall_const, false_implies, true_implies, Int.reduceEq, Int.reduceLT, Int.reduceLE, Int.reduceAdd, Int.reduceSub, Int.reduceMul, Int.reduceNeg, Int.reduceToNat, Int.toNat_natCast, ↓reduceIte, reduceIte, Nat.reduceEqDiff, Nat.reduceSub, Nat.reduceMul, ne_eq, Int.zero_add, Int.add_zero, Int.sub_zero, Nat.add_zero, Int.ofNat_eq_natCast, tX10_heardSet_0]
  exact L4 cnt 0 (by omega)
theorem dX10_heardSet_0 : decode cX10_heardSet 0 = .ok (.iconst 0, 1) := by decide +kernel
theorem dX10_heardSet_1 : decode cX10_heardSet 1 = .ok (.istore_n 1, 1) := by decide +kernel
theorem dX10_heardSet_2 : decode cX10_heardSet 2 = .ok (.iconst 0, 1) := by decide +kernel
theorem dX10_heardSet_3 : decode cX10_heardSet 3 = .ok (.istore_n 2, 1) := by decide +kernel
theorem dX10_heardSet_4 : decode cX10_heardSet 4 = .ok (.iload_n 2, 1) := by decide +kernel
theorem dX10_heardSet_5 : decode cX10_heardSet 5 = .ok (.aload_n 0, 1) := by decide +kernel
theorem dX10_heardSet_6 : decode cX10_heardSet 6 = .ok (.getfield 246, 3) := by decide +kernel
theorem dX10_heardSet_9 : decode cX10_heardSet 9 = .ok (.if_icmp .ge 20, 3) := by decide +kernel
theorem dX10_heardSet_12 : decode cX10_heardSet 12 = .ok (.iload_n 1, 1) := by decide +kernel
theorem dX10_heardSet_13 : decode cX10_heardSet 13 = .ok (.iconst 1, 1) := by decide +kernel
theorem dX10_heardSet_14 : decode cX10_heardSet 14 = .ok (.aload_n 0, 1) := by decide +kernel
theorem dX10_heardSet_15 : decode cX10_heardSet 15 = .ok (.getfield 40, 3) := by decide +kernel
theorem dX10_heardSet_18 : decode cX10_heardSet 18 = .ok (.iload_n 2, 1) := by decide +kernel
theorem dX10_heardSet_19 : decode cX10_heardSet 19 = .ok (.iaload, 1) := by decide +kernel
theorem dX10_heardSet_20 : decode cX10_heardSet 20 = .ok (.ishl, 1) := by decide +kernel
theorem dX10_heardSet_21 : decode cX10_heardSet 21 = .ok (.ior, 1) := by decide +kernel
theorem dX10_heardSet_22 : decode cX10_heardSet 22 = .ok (.istore_n 1, 1) := by decide +kernel
theorem dX10_heardSet_23 : decode cX10_heardSet 23 = .ok (.iinc 2 1, 3) := by decide +kernel
theorem dX10_heardSet_26 : decode cX10_heardSet 26 = .ok (.goto (-22), 3) := by decide +kernel
theorem dX10_heardSet_29 : decode cX10_heardSet 29 = .ok (.iload_n 1, 1) := by decide +kernel
theorem dX10_heardSet_30 : decode cX10_heardSet 30 = .ok (.ireturn, 1) := by decide +kernel
set_option maxRecDepth 100000 in
theorem rX10_heardSet_0 {p : Program} {l : Launch} {e : Env} {s : State} {m : MethodId} {args : Array Value} {below : List Frame} {meth : Method} {c : Code} {D : va_G} {cA : Nat → ClassId} {ad : Nat → Nat} {Ret : zR} (C : z_Cx p { frames := 0, cells := 0, slots := 0, locals := 0 } s m args c cX10_heardSet yX10_heardSet.cls 3 D cA ad) (hr : meth.sig.returnType = (some .int)) (hlocks : meth.locks = false) : ∀ L st σ, tX10_heardSet_0 (z_X p l e { frames := 0, cells := 0, slots := 0, locals := 0 } s m args below meth c (MQ below (z_Qc D cA ad Ret) args s 0 0 (z_A ad)) 3 D cA ad true) Ret L st σ → z_X p l e { frames := 0, cells := 0, slots := 0, locals := 0 } s m args below meth c (MQ below (z_Qc D cA ad Ret) args s 0 0 (z_A ad)) 3 D cA ad true 0 L st σ := (s_iconst C dX10_heardSet_0 rfl ⟨by decide, by decide⟩ (s_istore_n C dX10_heardSet_1 (by decide) rfl rfl (s_iconst C dX10_heardSet_2 rfl ⟨by decide, by decide⟩ (s_istore_n C dX10_heardSet_3 (by decide) rfl rfl (fun _ _ _ h => h)))))
set_option maxRecDepth 100000 in
theorem rX10_heardSet_4 {p : Program} {l : Launch} {e : Env} {s : State} {m : MethodId} {args : Array Value} {below : List Frame} {meth : Method} {c : Code} {D : va_G} {cA : Nat → ClassId} {ad : Nat → Nat} {Ret : zR} (C : z_Cx p { frames := 0, cells := 0, slots := 0, locals := 0 } s m args c cX10_heardSet yX10_heardSet.cls 3 D cA ad) (hr : meth.sig.returnType = (some .int)) (hlocks : meth.locks = false) : ∀ L st σ, tX10_heardSet_4 (z_X p l e { frames := 0, cells := 0, slots := 0, locals := 0 } s m args below meth c (MQ below (z_Qc D cA ad Ret) args s 0 0 (z_A ad)) 3 D cA ad true) Ret L st σ → z_X p l e { frames := 0, cells := 0, slots := 0, locals := 0 } s m args below meth c (MQ below (z_Qc D cA ad Ret) args s 0 0 (z_A ad)) 3 D cA ad true 4 L st σ := (s_iload_n C dX10_heardSet_4 rfl (s_aload_n C dX10_heardSet_5 rfl (s_geti C dX10_heardSet_6 cls_X10 (by decide) rfl wd_992 (s_icge C dX10_heardSet_9 (by decide) (s_iload_n C dX10_heardSet_29 rfl (s_iret C dX10_heardSet_30 hr hlocks)) (s_iload_n C dX10_heardSet_12 rfl (s_iconst C dX10_heardSet_13 rfl ⟨by decide, by decide⟩ (s_aload_n C dX10_heardSet_14 rfl (s_getr C dX10_heardSet_15 (j := 23) cls_X10 (by decide) rfl (by decide) (by decide) (by decide +kernel) wd_991 (s_iload_n C dX10_heardSet_18 rfl (s_iald C dX10_heardSet_19 (s_ishl C dX10_heardSet_20 (s_ior C dX10_heardSet_21 (s_istore_n C dX10_heardSet_22 (by decide) rfl rfl (s_iinc C dX10_heardSet_23 (by decide) rfl (s_goto C dX10_heardSet_26 (by decide) (fun _ _ _ h => h))))))))))))))))
theorem okX10_heardSet (l : Launch) : z_OK l yX10_heardSet cX10_heardSet 3 (some .int) 0 0 SX10_heardSet := by
  refine z_ok_of true (by decide +kernel) ?_ ?_
  · intro as σ Ret h
    obtain ⟨k0, rfl⟩ := pX10_heardSet h
    exact ⟨Nat.le_of_ble_eq_true rfl, by simp⟩
  · intro p e s m args below meth c D cA ad Ret C hr hlocks as σ has hσ h
    obtain ⟨k0, rfl⟩ := pX10_heardSet h
    exact vX10_heardSet (rX10_heardSet_0 C hr hlocks) (rX10_heardSet_4 C hr hlocks) k0 σ (has _ (List.mem_of_getElem? (i := 0) rfl)) hσ h
def SX10_missing : zS := fun as σ Ret => match as with
  | [.inr (.inr (10, 0, _)), .inl w, .inl r, .inl n, .inl i] => q_S10 (q_gMissing w r n i) (q_fMissing w r n i) σ Ret
  | _ => False
def tX10_missing_0 (X : Nat → zB) (Ret : zR) (L : zL) (st : List zV) (σ : zM) : Prop := (z_aload 0 (z_push 0 (z_puti 10 0 (z_aload 0 (z_iload 1 (z_cv1 10 SX10_isWind (z_ifeq (z_push (-1000001) (z_iret Ret)) (z_iload 2 (z_cs1 SX10_isRow (z_ifeq (z_push (-1000001) (z_iret Ret)) (z_iload 3 (z_i2l (z_lpush 0 (z_lpush 12 (z_cs3 SX10_in (z_ifeq (z_push (-1000001) (z_iret Ret)) (z_iload 4 (z_push (-1) (z_icge (z_aload 0 (z_push 0 (z_puti 10 1 (z_aload 0 (z_getr 10 1 100 8 (z_iload 2 (z_ald 0 (z_ifge (z_iload 3 (z_aload 0 (z_getr 10 2 100 8 (z_iload 2 (z_ald 0 (z_icle (z_aload 0 (z_cv0 10 SX10_layLengths (z_aload 0 (z_iload 1 (z_cv1 10 SX10_listen (z_aload 0 (z_cv0 10 SX10_heardSet (z_istore 5 (z_push 0 (z_istore 6 (z_push 0 (z_istore 7 (X 98))))))))))))) (z_aload 0 (z_push 2 (z_cv1 10 SX10_finding (z_iret Ret)))))))))) (z_aload 0 (z_push 1 (z_cv1 10 SX10_finding (z_iret Ret)))))))))))) (z_push (-1000001) (z_iret Ret))))))))))))))))))))) L st σ
def tX10_missing_98 (X : Nat → zB) (Ret : zR) (L : zL) (st : List zV) (σ : zM) : Prop := (z_iload 7 (z_push 1 (z_aload 0 (z_getr 10 4 100 106 (z_push 0 (z_ald 0 (z_ishl (z_icge (z_iload 4 (z_ifge (z_push (-1000000) (z_iret Ret)) (z_iload 6 (z_goto (z_iret Ret))))) (z_iload 7 (z_iload 5 (z_push (-1) (z_ixor (z_iand (z_ifne (z_iinc 7 1 (z_goto (X 98))) (z_aload 0 (z_iload 7 (z_push 40 (z_iload 2 (z_imul (z_iload 3 (z_cv3 10 SX10_isLeft (z_ifeq (z_iinc 7 1 (z_goto (X 98))) (z_iload 6 (z_iload 4 (z_icne (z_iinc 6 1 (z_iinc 7 1 (z_goto (X 98)))) (z_iload 7 (z_iret Ret))))))))))))))))))))))))))) L st σ
theorem pX10_missing {as : List zV} {σ : zM} {Ret : zR} (h : SX10_missing as σ Ret) : ∃ (k0 : Nat) (x1 : Int) (x2 : Int) (x3 : Int) (x4 : Int), as = [.inr (.inr (10, 0, k0)), .inl x1, .inl x2, .inl x3, .inl x4] := by
  unfold SX10_missing at h
  split at h
  · exact ⟨_, _, _, _, _, rfl⟩
  · exact h.elim
set_option maxRecDepth 10000 in
set_option maxHeartbeats 4000000 in
theorem vX10_missing {X : Nat → zB} {Ret : zR} (h0 : ∀ L st σ, tX10_missing_0 X Ret L st σ → X 0 L st σ) (h98 : ∀ L st σ, tX10_missing_98 X Ret L st σ → X 98 L st σ) (k0 : Nat) (x1 : Int) (x2 : Int) (x3 : Int) (x4 : Int) (σ : zM) (hk0 : z_kd k0 = (10, 0)) (hx1 : -2147483648 ≤ x1 ∧ x1 ≤ 2147483647) (hx2 : -2147483648 ≤ x2 ∧ x2 ≤ 2147483647) (hx3 : -2147483648 ≤ x3 ∧ x3 ≤ 2147483647) (hx4 : -2147483648 ≤ x4 ∧ x4 ≤ 2147483647) (hσ : z_okm σ) (h : SX10_missing [.inr (.inr (10, 0, k0)), .inl x1, .inl x2, .inl x3, .inl x4] σ Ret) : X 0 [some (.inr (.inr (10, 0, k0))), some (.inl x1), some (.inl x2), some (.inl x3), some (.inl x4), none, none, none] [] σ := by
  obtain ⟨m, h⟩ := h
  obtain rfl := z_kd10 hk0
  have K := m.2.1.1
  have K0 := K.1.1
  have K1 := K.1.2.1
  have e1 : z_up σ 89 0 0 93 1 = σ 93 1 := z_up_ne (by omega)
  by_cases c1 : ¬ ((0 ≤ x1 ∧ x1 < σ 93 1) ∧ (0 ≤ x2 ∧ x2 < 8) ∧ (0 ≤ x3 ∧ x3 ≤ 12) ∧ -1 ≤ x4)
  · have fin := h (z_up σ 89 0 0) q_th.1 (by unfold q_fMissing; rw [if_pos c1]; exact q_th.2)
    simp only [q_gMissing, if_pos c1] at fin
    refine h0 _ _ _ ?_
    simp only [z_push, z_lpush, z_iload, z_lload, z_aload, z_istore, z_istoreP, z_lstore, z_astore, z_iinc, z_iincP, z_iadd, z_isub, z_imul, z_iaddW, z_isubW, z_imulW, z_idiv, z_irem, z_iand, z_ior, z_ixor, z_ishl, z_ishr, z_iushr, z_ineg, z_i2l, z_i2b, z_i2s, z_i2c, z_l2i, z_ladd, z_lsub, z_land, z_lor, z_lshl, z_lshr, z_lcmp, z_dup, z_pop, z_dup2, z_goto, z_tsw, z_cases, z_geti, z_getr, z_puti, z_putz, z_ald, z_iast, z_bast, z_zast, z_alen, z_acopy, z_mmax, z_mmin, z_mabs, z_mabsL, z_iret, z_zret, z_nret, z_lret, z_aret, z_vret, z_cat, z_ldcs, z_strv, z_strc, z_gcs, z_gfm, z_sln, z_sald, z_ifeq, z_ifne, z_iflt, z_ifge, z_ifgt, z_ifle, z_iceq, z_icne, z_iclt, z_icge, z_icgt, z_icle, z_cs0, z_cs1, z_cs2, z_cs3, z_cs4, z_cs5, z_cs6, z_cs7, z_cv0, z_cv1, z_cv2, z_cv3, z_cv4, z_cv5, z_cv6, z_cv7, z_g0, z_s0, z_g1, z_s1, z_g2, z_s2, z_g3, z_s3, z_g4, z_s4, z_g5, z_s5, z_g6, z_s6, z_g7, z_s7, z_g8, z_s8, z_g9, z_s9, z_g10, z_s10, z_g11, z_s11, z_g12, z_s12, z_g13, z_s13, z_b0, z_b1, z_b0n, z_b1n, z_up_far1, z_up_far2, z_up_far3, z_up_far4, z_up_far5, z_up_far6, Classical.not_not, not_true_eq_false, z_in, z_inL, Int.cast_ofNat_Int, Nat.reduceLeDiff, List.length_cons, List.length_nil, Nat.reduceAdd, Nat.zero_add, Nat.le_refl, true_and, and_true, List.length, Nat.reduceLT, true_or, or_true, false_or, or_false, false_and, and_false, not_true_eq_false, not_false_eq_true, forall_const, false_implies, true_implies, Int.reduceEq, Int.reduceLT, Int.reduceLE, Int.reduceAdd, Int.reduceSub, Int.reduceMul, Int.reduceNeg, Int.reduceToNat, Int.toNat_natCast, ↓reduceIte, reduceIte, Nat.reduceEqDiff, Nat.reduceSub, Nat.reduceMul, ne_eq, Int.zero_add, Int.add_zero, Int.sub_zero, Nat.add_zero, Int.ofNat_eq_natCast, tX10_missing_0, SX10_isWind, SX10_isRow, SX10_in, e1]
    repeat' (first | (intro _) | (with_reducible assumption) | (refine And.intro ?_ ?_))
    all_goals first | omega | assumption | (refine z_fin fin ?_ rfl; first | rfl | omega | (split <;> omega) | (split <;> split <;> omega)) | skip
  obtain ⟨r, rfl⟩ := z_nat (show 0 ≤ x2 by omega)
  obtain ⟨w, rfl⟩ := z_nat (show 0 ≤ x1 by omega)
  obtain ⟨n, rfl⟩ := z_nat (show 0 ≤ x3 by omega)
  have mr := m.1 r (by omega)
  have e90 : z_up (z_up σ 89 0 0) 89 1 0 90 r = σ 90 r := by rw [z_up_ne (by omega), z_up_ne (by omega)]
  have e91 : z_up (z_up σ 89 0 0) 89 1 0 91 r = σ 91 r := by rw [z_up_ne (by omega), z_up_ne (by omega)]
  by_cases c2 : σ 90 r < 0
  · have fin := h (z_up (z_up (z_up σ 89 0 0) 89 1 0) 89 1 1) q_th2.1 (by unfold q_fMissing; rw [if_neg c1, Int.toNat_natCast, if_pos c2]; exact q_th2.2)
    simp only [q_gMissing, if_neg c1, Int.toNat_natCast, if_pos c2] at fin
    refine h0 _ _ _ ?_
    simp only [z_push, z_lpush, z_iload, z_lload, z_aload, z_istore, z_istoreP, z_lstore, z_astore, z_iinc, z_iincP, z_iadd, z_isub, z_imul, z_iaddW, z_isubW, z_imulW, z_idiv, z_irem, z_iand, z_ior, z_ixor, z_ishl, z_ishr, z_iushr, z_ineg, z_i2l, z_i2b, z_i2s, z_i2c, z_l2i, z_ladd, z_lsub, z_land, z_lor, z_lshl, z_lshr, z_lcmp, z_dup, z_pop, z_dup2, z_goto, z_tsw, z_cases, z_geti, z_getr, z_puti, z_putz, z_ald, z_iast, z_bast, z_zast, z_alen, z_acopy, z_mmax, z_mmin, z_mabs, z_mabsL, z_iret, z_zret, z_nret, z_lret, z_aret, z_vret, z_cat, z_ldcs, z_strv, z_strc, z_gcs, z_gfm, z_sln, z_sald, z_ifeq, z_ifne, z_iflt, z_ifge, z_ifgt, z_ifle, z_iceq, z_icne, z_iclt, z_icge, z_icgt, z_icle, z_cs0, z_cs1, z_cs2, z_cs3, z_cs4, z_cs5, z_cs6, z_cs7, z_cv0, z_cv1, z_cv2, z_cv3, z_cv4, z_cv5, z_cv6, z_cv7, z_g0, z_s0, z_g1, z_s1, z_g2, z_s2, z_g3, z_s3, z_g4, z_s4, z_g5, z_s5, z_g6, z_s6, z_g7, z_s7, z_g8, z_s8, z_g9, z_s9, z_g10, z_s10, z_g11, z_s11, z_g12, z_s12, z_g13, z_s13, z_b0, z_b1, z_b0n, z_b1n, z_up_far1, z_up_far2, z_up_far3, z_up_far4, z_up_far5, z_up_far6, Classical.not_not, not_true_eq_false, z_in, z_inL, Int.cast_ofNat_Int, Nat.reduceLeDiff, List.length_cons, List.length_nil, Nat.reduceAdd, Nat.zero_add, Nat.le_refl, true_and, and_true, List.length, Nat.reduceLT, true_or, or_true, false_or, or_false, false_and, and_false, not_true_eq_false, not_false_eq_true, forall_const, false_implies, true_implies, Int.reduceEq, Int.reduceLT, Int.reduceLE, Int.reduceAdd, Int.reduceSub, Int.reduceMul, Int.reduceNeg, Int.reduceToNat, Int.toNat_natCast, ↓reduceIte, reduceIte, Nat.reduceEqDiff, Nat.reduceSub, Nat.reduceMul, ne_eq, Int.zero_add, Int.add_zero, Int.sub_zero, Nat.add_zero, Int.ofNat_eq_natCast, tX10_missing_0, SX10_isWind, SX10_isRow, SX10_in, SX10_finding, e1, e90]
    repeat' (first | (intro _) | (with_reducible assumption) | (refine And.intro ?_ ?_))
    all_goals first | omega | assumption | (refine z_fin fin ?_ rfl; first | rfl | omega | (split <;> omega) | (split <;> split <;> omega)) | skip
  by_cases c3 : ¬ (n : Int) ≤ σ 91 r
  · have fin := h (z_up (z_up (z_up σ 89 0 0) 89 1 0) 89 1 2) q_th2.1 (by unfold q_fMissing; rw [if_neg c1, Int.toNat_natCast, if_neg c2, if_pos c3]; exact q_th2.2)
    simp only [q_gMissing, if_neg c1, Int.toNat_natCast, if_neg c2, if_pos c3] at fin
    refine h0 _ _ _ ?_
    simp only [z_push, z_lpush, z_iload, z_lload, z_aload, z_istore, z_istoreP, z_lstore, z_astore, z_iinc, z_iincP, z_iadd, z_isub, z_imul, z_iaddW, z_isubW, z_imulW, z_idiv, z_irem, z_iand, z_ior, z_ixor, z_ishl, z_ishr, z_iushr, z_ineg, z_i2l, z_i2b, z_i2s, z_i2c, z_l2i, z_ladd, z_lsub, z_land, z_lor, z_lshl, z_lshr, z_lcmp, z_dup, z_pop, z_dup2, z_goto, z_tsw, z_cases, z_geti, z_getr, z_puti, z_putz, z_ald, z_iast, z_bast, z_zast, z_alen, z_acopy, z_mmax, z_mmin, z_mabs, z_mabsL, z_iret, z_zret, z_nret, z_lret, z_aret, z_vret, z_cat, z_ldcs, z_strv, z_strc, z_gcs, z_gfm, z_sln, z_sald, z_ifeq, z_ifne, z_iflt, z_ifge, z_ifgt, z_ifle, z_iceq, z_icne, z_iclt, z_icge, z_icgt, z_icle, z_cs0, z_cs1, z_cs2, z_cs3, z_cs4, z_cs5, z_cs6, z_cs7, z_cv0, z_cv1, z_cv2, z_cv3, z_cv4, z_cv5, z_cv6, z_cv7, z_g0, z_s0, z_g1, z_s1, z_g2, z_s2, z_g3, z_s3, z_g4, z_s4, z_g5, z_s5, z_g6, z_s6, z_g7, z_s7, z_g8, z_s8, z_g9, z_s9, z_g10, z_s10, z_g11, z_s11, z_g12, z_s12, z_g13, z_s13, z_b0, z_b1, z_b0n, z_b1n, z_up_far1, z_up_far2, z_up_far3, z_up_far4, z_up_far5, z_up_far6, Classical.not_not, not_true_eq_false, z_in, z_inL, Int.cast_ofNat_Int, Nat.reduceLeDiff, List.length_cons, List.length_nil, Nat.reduceAdd, Nat.zero_add, Nat.le_refl, true_and, and_true, List.length, Nat.reduceLT, true_or, or_true, false_or, or_false, false_and, and_false, not_true_eq_false, not_false_eq_true, forall_const, false_implies, true_implies, Int.reduceEq, Int.reduceLT, Int.reduceLE, Int.reduceAdd, Int.reduceSub, Int.reduceMul, Int.reduceNeg, Int.reduceToNat, Int.toNat_natCast, ↓reduceIte, reduceIte, Nat.reduceEqDiff, Nat.reduceSub, Nat.reduceMul, ne_eq, Int.zero_add, Int.add_zero, Int.sub_zero, Nat.add_zero, Int.ofNat_eq_natCast, tX10_missing_0, SX10_isWind, SX10_isRow, SX10_in, SX10_finding, e1, e90, e91]
    repeat' (first | (intro _) | (with_reducible assumption) | (refine And.intro ?_ ?_))
    all_goals first | omega | assumption | (refine z_fin fin ?_ rfl; first | rfl | omega | (split <;> omega) | (split <;> split <;> omega)) | skip
  have key : ∀ (σ1 : zM), (∀ c j, ¬ (c = 89 ∧ (j = 24 ∨ j = 0 ∨ j = 1) ∨ 98 ≤ c ∧ c ≤ 102) → σ1 c j = σ c j) → σ1 89 1 = 0 → Ret (some (.inl (if x4 < 0 then z_sumf (fun s => q_one (q_msP σ w r n s)) 4096 else q_nthI (q_nth (q_msP σ w r n) x4 4096)))) σ1 := by
    intro σ1 f1 f0
    have fin := h σ1 (fun c hc => funext fun j => f1 c j (by omega)) (fun a j hc => by
      unfold q_last at hc
      unfold q_fMissing
      rw [if_neg c1, Int.toNat_natCast, if_neg c2, if_neg c3]
      by_cases e : a = 89 ∧ j = 1
      · obtain ⟨rfl, rfl⟩ := e
        rw [f0, z_up_eq]
      · rw [f1 a j (by omega), z_up_ne (by omega)])
    simp only [q_gMissing, if_neg c1, Int.toNat_natCast, if_neg c2, if_neg c3] at fin
    exact fin
  obtain ⟨N, hN⟩ := z_nat K0.1
  have hN12 : N ≤ 12 := by omega
  -- behind the listening
  have M : ∀ σ0 : zM, (∀ c j, ¬ (c = 89 ∧ (j = 24 ∨ j = 0 ∨ j = 1) ∨ 98 ≤ c ∧ c ≤ 102) → σ0 c j = σ c j) → σ0 89 1 = 0 → q_me σ0 (q_lsD (σ 93) w) (q_tnD (σ 93)) → ((0 ≤ σ0 89 24 ∧ σ0 89 24 ≤ 12) ∧ ∀ i : Nat, (i : Int) < σ0 89 24 → 0 ≤ σ0 100 i ∧ σ0 100 i < 12) ∧ X 98 [some (.inr (.inr (10, 0, 89))), some (.inl (w : Int)), some (.inl (r : Int)), some (.inl (n : Int)), some (.inl x4), some (.inl (q_hsN (fun k => (σ0 100 k).toNat) (σ0 89 24).toNat : Int)), some (.inl 0), some (.inl 0)] [] σ0 := by
    intro σ0 f0 s0 g
    have mi := q_me_in K g
    refine ⟨⟨mi.1, mi.2.2⟩, ?_⟩
    obtain ⟨H, hH⟩ := z_nat mi.1.1
    have gl : (q_lsD (σ 93) w).length = H := by have := g.1; omega
    have tr : ∀ k, k < H → (σ0 100 k).toNat = (q_lsD (σ 93) w).getD k 0 := fun k hk => by rw [g.2.2 k (by omega), Int.toNat_natCast]
    have hlt := q_hsN_lt (tr := fun k => (σ0 100 k).toNat) (c := H) (fun k hk => by have := mi.2.2 k (by omega); show (σ0 100 k).toNat < 12; omega) H (Nat.le_refl _)
    have hbit : ∀ b, (q_hsN (fun k => (σ0 100 k).toNat) H).testBit b = true ↔ b < N ∧ q_sdD (σ 93) w b = true := by
      intro b
      rw [q_hsN_bit]
      constructor
      · rintro ⟨k, hk, e⟩
        rw [tr k hk] at e
        have q := q_ls_mem (f := q_sdD (σ 93) w) (σ 93 0).toNat _ (q_getD_mem (l := q_lsD (σ 93) w) (i := k) (by omega))
        rw [e] at q
        exact ⟨by omega, q.2⟩
      · rintro ⟨b1, b2⟩
        obtain ⟨k, hk, e⟩ := q_mem_getD (q_ls_in (f := q_sdD (σ 93) w) (σ 93 0).toNat b (by omega) b2)
        exact ⟨k, by show k < H; rw [← gl]; exact hk, by rw [tr k (by rw [← gl]; exact hk)]; exact e⟩
    rw [hH, Int.toNat_natCast]
    have e93 : σ0 93 0 = N := by rw [f0 _ _ (by omega), hN]
    -- the predicate
    have P1 : ∀ s, s < 4096 → (q_msP σ w r n s = true ↔ (∀ b, s.testBit b = true → (q_hsN (fun k => (σ0 100 k).toNat) H).testBit b = true) ∧ q_lf s (σ0 99) (fun y => σ0 92 (40 * r + y)) (fun k => (σ0 100 k).toNat) n H = some n) := by
      intro s hs
      have el : q_lf s (fun k => q_tnD (σ 93) ((q_lsD (σ 93) w).getD k 0)) (fun y => σ 92 (40 * r + y)) (fun k => (q_lsD (σ 93) w).getD k 0) n H = q_lf s (σ0 99) (fun y => σ0 92 (40 * r + y)) (fun k => (σ0 100 k).toNat) n H := q_lf_cg (fun x hx => by rw [f0 92 _ (by omega)]) H (fun x hx => (g.2.1 x (by omega)).symm) (fun x hx => (tr x hx).symm)
      unfold q_msP q_left
      rw [gl, el, Bool.and_eq_true, decide_eq_true_eq, decide_eq_true_eq, And.comm]
      have gi := q_gn_iff (s := s) (n := (σ 93 0).toNat) (f := q_sdD (σ 93) w) (by omega)
      have gl2 : (q_ls (q_sdD (σ 93) w) (σ 93 0).toNat).length = H := gl
      rw [gl2] at gi
      have eg : q_gn s (fun k => (q_lsD (σ 93) w).getD k 0) H = q_pop s 12 ↔ ∀ b, s.testBit b = true → (q_hsN (fun k => (σ0 100 k).toNat) H).testBit b = true := by
        refine Iff.trans gi ⟨fun q b hb => (hbit b).mpr ?_, fun q b b1 hb => ?_⟩
        · have b12 : b < 12 := by
            rcases Nat.lt_or_ge b 12 with e | e
            · exact e
            · rw [Nat.testBit_lt_two_pow (Nat.lt_of_lt_of_le (show s < 2 ^ 12 from hs) (Nat.pow_le_pow_right (by decide) e))] at hb
              cases hb
          have := q b b12 hb
          exact ⟨by omega, this.2⟩
        · have := (hbit b).mp (q b hb)
          exact ⟨by omega, this.2⟩
      rw [eg]
    have big : ∀ s, 2 ^ N ≤ s → s < 4096 → ¬ q_msP σ w r n s = true := by
      intro s h1 h2 e
      have q := ((P1 s h2).mp e).1
      have : s < 2 ^ N := Nat.lt_pow_two_of_testBit s (fun b hb => by
        cases hx : s.testBit b with
        | false => rfl
        | true => have := ((hbit b).mp (q b hx)).1; omega)
      omega
    have pN : 2 ^ N ≤ 4096 := Nat.pow_le_pow_right (n := 2) (by decide) hN12
    have tot : z_sumf (fun s => q_one (q_msP σ w r n s)) 4096 = z_sumf (fun s => q_one (q_msP σ w r n s)) (2 ^ N) := by
      obtain ⟨d, hd⟩ : ∃ d, 4096 = 2 ^ N + d := ⟨4096 - 2 ^ N, by omega⟩
      rw [hd]
      refine z_sumf_ext d (fun x a b => ?_)
      have := big x a (by omega)
      cases hx : q_msP σ w r n x with
      | false => rfl
      | true => exact absurd hx this
    have non : q_nth (q_msP σ w r n) x4 (2 ^ N) = none → q_nth (q_msP σ w r n) x4 4096 = none := by
      intro e
      obtain ⟨d, hd⟩ : ∃ d, 4096 = 2 ^ N + d := ⟨4096 - 2 ^ N, by omega⟩
      rw [hd]
      exact q_nth_ext d (fun x a b => big x a (by omega)) e
    have s01 := z_sumf_01 (fun s => q_one (q_msP σ w r n s)) (fun i => q_one_01 _)
    generalize hA : q_hsN (fun k => (σ0 100 k).toNat) H = A at hlt P1 ⊢
    have shl := z_shl12 N (by omega)
    generalize hB : 2 ^ N = B at pN tot non shl big
    have fin := key σ0 f0 s0
    generalize hQ : q_msP σ w r n = Q at P1 tot non s01 fin
    have t40 : (40 * (r : Int)).toNat = 40 * r := by omega
    have L98 : ∀ (d s : Nat), s + d = B → q_nth Q x4 s = none → X 98 [some (.inr (.inr (10, 0, 89))), some (.inl (w : Int)), some (.inl (r : Int)), some (.inl (n : Int)), some (.inl x4), some (.inl (A : Int)), some (.inl (z_sumf (fun s => q_one (Q s)) s)), some (.inl (s : Int))] [] σ0 := by
      intro d
      induction d with
      | zero =>
        intro s hs hn
        obtain rfl : s = B := by omega
        rw [tot, non hn] at fin
        have b1 := s01 s
        refine h98 _ _ _ ?_
        simp only [z_push, z_lpush, z_iload, z_lload, z_aload, z_istore, z_istoreP, z_lstore, z_astore, z_iinc, z_iincP, z_iadd, z_isub, z_imul, z_iaddW, z_isubW, z_imulW, z_idiv, z_irem, z_iand, z_ior, z_ixor, z_ishl, z_ishr, z_iushr, z_ineg, z_i2l, z_i2b, z_i2s, z_i2c, z_l2i, z_ladd, z_lsub, z_land, z_lor, z_lshl, z_lshr, z_lcmp, z_dup, z_pop, z_dup2, z_goto, z_tsw, z_cases, z_geti, z_getr, z_puti, z_putz, z_ald, z_iast, z_bast, z_zast, z_alen, z_acopy, z_mmax, z_mmin, z_mabs, z_mabsL, z_iret, z_zret, z_nret, z_lret, z_aret, z_vret, z_cat, z_ldcs, z_strv, z_strc, z_gcs, z_gfm, z_sln, z_sald, z_ifeq, z_ifne, z_iflt, z_ifge, z_ifgt, z_ifle, z_iceq, z_icne, z_iclt, z_icge, z_icgt, z_icle, z_cs0, z_cs1, z_cs2, z_cs3, z_cs4, z_cs5, z_cs6, z_cs7, z_cv0, z_cv1, z_cv2, z_cv3, z_cv4, z_cv5, z_cv6, z_cv7, z_g0, z_s0, z_g1, z_s1, z_g2, z_s2, z_g3, z_s3, z_g4, z_s4, z_g5, z_s5, z_g6, z_s6, z_g7, z_s7, z_g8, z_s8, z_g9, z_s9, z_g10, z_s10, z_g11, z_s11, z_g12, z_s12, z_g13, z_s13, z_b0, z_b1, z_b0n, z_b1n, z_up_far1, z_up_far2, z_up_far3, z_up_far4, z_up_far5, z_up_far6, Classical.not_not, not_true_eq_false, z_in, z_inL, Int.cast_ofNat_Int, Nat.reduceLeDiff, List.length_cons, List.length_nil, Nat.reduceAdd, Nat.zero_add, Nat.le_refl, true_and, and_true, List.length, Nat.reduceLT, true_or, or_true, false_or, or_false, false_and, and_false, not_true_eq_false, not_false_eq_true, forall_const, false_implies, true_implies, Int.reduceEq, Int.reduceLT, Int.reduceLE, Int.reduceAdd, Int.reduceSub, Int.reduceMul, Int.reduceNeg, Int.reduceToNat, Int.toNat_natCast, ↓reduceIte, reduceIte, Nat.reduceEqDiff, Nat.reduceSub, Nat.reduceMul, ne_eq, Int.zero_add, Int.add_zero, Int.sub_zero, Nat.add_zero, Int.ofNat_eq_natCast, tX10_missing_98, e93, shl]
        by_cases e : x4 < 0
        · rw [if_pos e] at fin
          repeat' (first | (intro _) | (with_reducible assumption) | (refine And.intro ?_ ?_))
          all_goals first | omega | assumption | (refine z_fin fin ?_ rfl; first | rfl | omega | (split <;> omega) | (split <;> split <;> omega)) | skip
        · rw [if_neg e] at fin
          repeat' (first | (intro _) | (with_reducible assumption) | (refine And.intro ?_ ?_))
          all_goals first | omega | assumption | (refine z_fin fin ?_ rfl; first | rfl | omega | (split <;> omega) | (split <;> split <;> omega)) | skip
      | succ d ih =>
        intro s hs hn
        have b1 := s01 s
        have p1 := P1 s (by omega)
        have za := z_andn (x := s) (y := A) (by omega) hlt
        have nx := ih (s + 1) (by omega)
        rw [z_sumf, q_nth, hn] at nx
        refine h98 _ _ _ ?_
        simp only [z_push, z_lpush, z_iload, z_lload, z_aload, z_istore, z_istoreP, z_lstore, z_astore, z_iinc, z_iincP, z_iadd, z_isub, z_imul, z_iaddW, z_isubW, z_imulW, z_idiv, z_irem, z_iand, z_ior, z_ixor, z_ishl, z_ishr, z_iushr, z_ineg, z_i2l, z_i2b, z_i2s, z_i2c, z_l2i, z_ladd, z_lsub, z_land, z_lor, z_lshl, z_lshr, z_lcmp, z_dup, z_pop, z_dup2, z_goto, z_tsw, z_cases, z_geti, z_getr, z_puti, z_putz, z_ald, z_iast, z_bast, z_zast, z_alen, z_acopy, z_mmax, z_mmin, z_mabs, z_mabsL, z_iret, z_zret, z_nret, z_lret, z_aret, z_vret, z_cat, z_ldcs, z_strv, z_strc, z_gcs, z_gfm, z_sln, z_sald, z_ifeq, z_ifne, z_iflt, z_ifge, z_ifgt, z_ifle, z_iceq, z_icne, z_iclt, z_icge, z_icgt, z_icle, z_cs0, z_cs1, z_cs2, z_cs3, z_cs4, z_cs5, z_cs6, z_cs7, z_cv0, z_cv1, z_cv2, z_cv3, z_cv4, z_cv5, z_cv6, z_cv7, z_g0, z_s0, z_g1, z_s1, z_g2, z_s2, z_g3, z_s3, z_g4, z_s4, z_g5, z_s5, z_g6, z_s6, z_g7, z_s7, z_g8, z_s8, z_g9, z_s9, z_g10, z_s10, z_g11, z_s11, z_g12, z_s12, z_g13, z_s13, z_b0, z_b1, z_b0n, z_b1n, z_up_far1, z_up_far2, z_up_far3, z_up_far4, z_up_far5, z_up_far6, Classical.not_not, not_true_eq_false, z_in, z_inL, Int.cast_ofNat_Int, Nat.reduceLeDiff, List.length_cons, List.length_nil, Nat.reduceAdd, Nat.zero_add, Nat.le_refl, true_and, and_true, List.length, Nat.reduceLT, true_or, or_true, false_or, or_false, false_and, and_false, not_true_eq_false, not_false_eq_true, forall_const, false_implies, true_implies, Int.reduceEq, Int.reduceLT, Int.reduceLE, Int.reduceAdd, Int.reduceSub, Int.reduceMul, Int.reduceNeg, Int.reduceToNat, Int.toNat_natCast, ↓reduceIte, reduceIte, Nat.reduceEqDiff, Nat.reduceSub, Nat.reduceMul, ne_eq, Int.zero_add, Int.add_zero, Int.sub_zero, Nat.add_zero, Int.ofNat_eq_natCast, tX10_missing_98, SX10_isLeft, e93, shl, t40, hH, za]
        refine fun _ => ⟨fun e => absurd e (by omega), fun _ => ⟨fun e => ⟨by omega, ?_⟩, fun e => ⟨by omega, ⟨⟨by omega, fun i hi => mi.2.2 i (by omega)⟩, by omega, by omega, by omega⟩, fun e2 => ⟨by omega, ?_⟩, fun e2 => ⟨fun e3 => ⟨by omega, by omega, ?_⟩, fun e3 => ?_⟩⟩⟩⟩
        · have hq : ¬ Q s = true := fun q => e (p1.mp q).1
          have q0 : q_one (Q s) = 0 := by unfold q_one; rw [if_neg hq]
          rw [q0, Int.add_zero] at nx
          exact nx (if_neg (fun q => hq q.1))
        · have hq : ¬ Q s = true := fun q => e2 (by unfold q_lfb; rw [decide_eq_true_eq]; exact (p1.mp q).2)
          have q0 : q_one (Q s) = 0 := by unfold q_one; rw [if_neg hq]
          rw [q0, Int.add_zero] at nx
          exact nx (if_neg (fun q => hq q.1))
        · have hq : Q s = true := p1.mpr ⟨e, by unfold q_lfb at e2; exact of_decide_eq_true e2⟩
          have q0 : q_one (Q s) = 1 := by unfold q_one; rw [if_pos hq]
          rw [q0] at nx
          exact nx (if_neg (fun q => e3 q.2))
        · have hq : Q s = true := p1.mpr ⟨e, by unfold q_lfb at e2; exact of_decide_eq_true e2⟩
          have h1 : q_nth Q x4 (s + 1) = some s := by
            rw [q_nth, hn]
            exact if_pos ⟨hq, e3⟩
          obtain ⟨d2, hd2⟩ : ∃ d2, 4096 = s + 1 + d2 := ⟨4096 - (s + 1), by omega⟩
          have h2 := q_nth_some h1 d2
          rw [← hd2] at h2
          rw [if_neg (by omega), h2] at fin
          exact fin
    exact L98 B 0 (by omega) rfl
  refine h0 _ _ _ ?_
  simp only [z_push, z_lpush, z_iload, z_lload, z_aload, z_istore, z_istoreP, z_lstore, z_astore, z_iinc, z_iincP, z_iadd, z_isub, z_imul, z_iaddW, z_isubW, z_imulW, z_idiv, z_irem, z_iand, z_ior, z_ixor, z_ishl, z_ishr, z_iushr, z_ineg, z_i2l, z_i2b, z_i2s, z_i2c, z_l2i, z_ladd, z_lsub, z_land, z_lor, z_lshl, z_lshr, z_lcmp, z_dup, z_pop, z_dup2, z_goto, z_tsw, z_cases, z_geti, z_getr, z_puti, z_putz, z_ald, z_iast, z_bast, z_zast, z_alen, z_acopy, z_mmax, z_mmin, z_mabs, z_mabsL, z_iret, z_zret, z_nret, z_lret, z_aret, z_vret, z_cat, z_ldcs, z_strv, z_strc, z_gcs, z_gfm, z_sln, z_sald, z_ifeq, z_ifne, z_iflt, z_ifge, z_ifgt, z_ifle, z_iceq, z_icne, z_iclt, z_icge, z_icgt, z_icle, z_cs0, z_cs1, z_cs2, z_cs3, z_cs4, z_cs5, z_cs6, z_cs7, z_cv0, z_cv1, z_cv2, z_cv3, z_cv4, z_cv5, z_cv6, z_cv7, z_g0, z_s0, z_g1, z_s1, z_g2, z_s2, z_g3, z_s3, z_g4, z_s4, z_g5, z_s5, z_g6, z_s6, z_g7, z_s7, z_g8, z_s8, z_g9, z_s9, z_g10, z_s10, z_g11, z_s11, z_g12, z_s12, z_g13, z_s13, z_b0, z_b1, z_b0n, z_b1n, z_up_far1, z_up_far2, z_up_far3, z_up_far4, z_up_far5, z_up_far6, Classical.not_not, not_true_eq_false, z_in, z_inL, Int.cast_ofNat_Int, Nat.reduceLeDiff, List.length_cons, List.length_nil, Nat.reduceAdd, Nat.zero_add, Nat.le_refl, true_and, and_true, List.length, Nat.reduceLT, true_or, or_true, false_or, or_false, false_and, and_false, not_true_eq_false, not_false_eq_true, forall_const, false_implies, true_implies, Int.reduceEq, Int.reduceLT, Int.reduceLE, Int.reduceAdd, Int.reduceSub, Int.reduceMul, Int.reduceNeg, Int.reduceToNat, Int.toNat_natCast, ↓reduceIte, reduceIte, Nat.reduceEqDiff, Nat.reduceSub, Nat.reduceMul, ne_eq, Int.zero_add, Int.add_zero, Int.sub_zero, Nat.add_zero, Int.ofNat_eq_natCast, tX10_missing_0, SX10_isWind, SX10_isRow, SX10_in, SX10_finding, SX10_layLengths, SX10_listen, SX10_heardSet, e1, e90, e91]
  have ab : ∀ {P : Prop}, False → P := fun f => f.elim
  refine ⟨by omega, fun e => ab (e (by omega)), fun _ => ⟨fun e => ab (e (by omega)), fun _ => ⟨fun e => ab (e (by omega)), fun _ => ⟨fun _ => ⟨by omega, fun _ => ⟨fun _ => ⟨by omega, fun _ => ⟨fun _ σ1 f1 f2 => ?_, fun e => ab (by omega)⟩⟩, fun e => ab (by omega)⟩⟩, fun e => ab (e (by omega))⟩⟩⟩⟩
  have e93 : σ1 93 = σ 93 := funext fun j => by rw [f1 93 j (by omega), z_up_ne (by omega), z_up_ne (by omega)]
  have ly : q_ly σ1 (σ 93) := q_ly_id K (fun j => by rw [e93]) (fun j hj => by rw [f2 j hj, z_up_ne (by omega), z_up_ne (by omega), Nat.add_zero])
  refine ⟨⟨by rw [e93]; exact K, by rw [e93]; omega, fun t ht h2 => ?_⟩, fun σ2 f3 g => ?_⟩
  · rw [e93] at h2
    rw [← ly.2 t h2]
    have := K.2.1 t h2
    omega
  exact M σ2 (fun c j hc => by rw [f3 c j (by omega), f1 c j (by omega), z_up_ne (by omega), z_up_ne (by omega)]) (by rw [f3 _ _ (by omega), f1 _ _ (by omega), z_up_eq]) (g.D ly K (by omega))
theorem dX10_missing_0 : decode cX10_missing 0 = .ok (.aload_n 0, 1) := by decide +kernel
theorem dX10_missing_1 : decode cX10_missing 1 = .ok (.iconst 0, 1) := by decide +kernel
theorem dX10_missing_2 : decode cX10_missing 2 = .ok (.putfield 65, 3) := by decide +kernel
theorem dX10_missing_5 : decode cX10_missing 5 = .ok (.aload_n 0, 1) := by decide +kernel
theorem dX10_missing_6 : decode cX10_missing 6 = .ok (.iload_n 1, 1) := by decide +kernel
theorem dX10_missing_7 : decode cX10_missing 7 = .ok (.invokevirtual 253, 3) := by decide +kernel
theorem dX10_missing_10 : decode cX10_missing 10 = .ok (.ifCond .eq 28, 3) := by decide +kernel
theorem dX10_missing_13 : decode cX10_missing 13 = .ok (.iload_n 2, 1) := by decide +kernel
theorem dX10_missing_14 : decode cX10_missing 14 = .ok (.invokestatic 79, 3) := by decide +kernel
theorem dX10_missing_17 : decode cX10_missing 17 = .ok (.ifCond .eq 21, 3) := by decide +kernel
theorem dX10_missing_20 : decode cX10_missing 20 = .ok (.iload_n 3, 1) := by decide +kernel
theorem dX10_missing_21 : decode cX10_missing 21 = .ok (.i2l, 1) := by decide +kernel
theorem dX10_missing_22 : decode cX10_missing 22 = .ok (.lconst 0, 1) := by decide +kernel
theorem dX10_missing_23 : decode cX10_missing 23 = .ok (.ldc2_w 302, 3) := by decide +kernel
theorem dX10_missing_26 : decode cX10_missing 26 = .ok (.invokestatic 75, 3) := by decide +kernel
theorem dX10_missing_29 : decode cX10_missing 29 = .ok (.ifCond .eq 9, 3) := by decide +kernel
theorem dX10_missing_32 : decode cX10_missing 32 = .ok (.iload 4, 2) := by decide +kernel
theorem dX10_missing_34 : decode cX10_missing 34 = .ok (.iconst (-1), 1) := by decide +kernel
theorem dX10_missing_35 : decode cX10_missing 35 = .ok (.if_icmp .ge 6, 3) := by decide +kernel
theorem dX10_missing_38 : decode cX10_missing 38 = .ok (.ldc 85, 2) := by decide +kernel
theorem dX10_missing_40 : decode cX10_missing 40 = .ok (.ireturn, 1) := by decide +kernel
theorem dX10_missing_41 : decode cX10_missing 41 = .ok (.aload_n 0, 1) := by decide +kernel
theorem dX10_missing_42 : decode cX10_missing 42 = .ok (.iconst 0, 1) := by decide +kernel
theorem dX10_missing_43 : decode cX10_missing 43 = .ok (.putfield 69, 3) := by decide +kernel
theorem dX10_missing_46 : decode cX10_missing 46 = .ok (.aload_n 0, 1) := by decide +kernel
theorem dX10_missing_47 : decode cX10_missing 47 = .ok (.getfield 7, 3) := by decide +kernel
theorem dX10_missing_50 : decode cX10_missing 50 = .ok (.iload_n 2, 1) := by decide +kernel
theorem dX10_missing_51 : decode cX10_missing 51 = .ok (.iaload, 1) := by decide +kernel
theorem dX10_missing_52 : decode cX10_missing 52 = .ok (.ifCond .ge 9, 3) := by decide +kernel
theorem dX10_missing_55 : decode cX10_missing 55 = .ok (.aload_n 0, 1) := by decide +kernel
theorem dX10_missing_56 : decode cX10_missing 56 = .ok (.iconst 1, 1) := by decide +kernel
theorem dX10_missing_57 : decode cX10_missing 57 = .ok (.invokevirtual 86, 3) := by decide +kernel
theorem dX10_missing_60 : decode cX10_missing 60 = .ok (.ireturn, 1) := by decide +kernel
theorem dX10_missing_61 : decode cX10_missing 61 = .ok (.iload_n 3, 1) := by decide +kernel
theorem dX10_missing_62 : decode cX10_missing 62 = .ok (.aload_n 0, 1) := by decide +kernel
theorem dX10_missing_63 : decode cX10_missing 63 = .ok (.getfield 13, 3) := by decide +kernel
theorem dX10_missing_66 : decode cX10_missing 66 = .ok (.iload_n 2, 1) := by decide +kernel
theorem dX10_missing_67 : decode cX10_missing 67 = .ok (.iaload, 1) := by decide +kernel
theorem dX10_missing_68 : decode cX10_missing 68 = .ok (.if_icmp .le 9, 3) := by decide +kernel
theorem dX10_missing_71 : decode cX10_missing 71 = .ok (.aload_n 0, 1) := by decide +kernel
theorem dX10_missing_72 : decode cX10_missing 72 = .ok (.iconst 2, 1) := by decide +kernel
theorem dX10_missing_73 : decode cX10_missing 73 = .ok (.invokevirtual 86, 3) := by decide +kernel
theorem dX10_missing_76 : decode cX10_missing 76 = .ok (.ireturn, 1) := by decide +kernel
theorem dX10_missing_77 : decode cX10_missing 77 = .ok (.aload_n 0, 1) := by decide +kernel
theorem dX10_missing_78 : decode cX10_missing 78 = .ok (.invokevirtual 232, 3) := by decide +kernel
theorem dX10_missing_81 : decode cX10_missing 81 = .ok (.aload_n 0, 1) := by decide +kernel
theorem dX10_missing_82 : decode cX10_missing 82 = .ok (.iload_n 1, 1) := by decide +kernel
theorem dX10_missing_83 : decode cX10_missing 83 = .ok (.invokevirtual 256, 3) := by decide +kernel
theorem dX10_missing_86 : decode cX10_missing 86 = .ok (.aload_n 0, 1) := by decide +kernel
theorem dX10_missing_87 : decode cX10_missing 87 = .ok (.invokevirtual 304, 3) := by decide +kernel
theorem dX10_missing_90 : decode cX10_missing 90 = .ok (.istore 5, 2) := by decide +kernel
theorem dX10_missing_92 : decode cX10_missing 92 = .ok (.iconst 0, 1) := by decide +kernel
theorem dX10_missing_93 : decode cX10_missing 93 = .ok (.istore 6, 2) := by decide +kernel
theorem dX10_missing_95 : decode cX10_missing 95 = .ok (.iconst 0, 1) := by decide +kernel
theorem dX10_missing_96 : decode cX10_missing 96 = .ok (.istore 7, 2) := by decide +kernel
theorem dX10_missing_98 : decode cX10_missing 98 = .ok (.iload 7, 2) := by decide +kernel
theorem dX10_missing_100 : decode cX10_missing 100 = .ok (.iconst 1, 1) := by decide +kernel
theorem dX10_missing_101 : decode cX10_missing 101 = .ok (.aload_n 0, 1) := by decide +kernel
theorem dX10_missing_102 : decode cX10_missing 102 = .ok (.getfield 19, 3) := by decide +kernel
theorem dX10_missing_105 : decode cX10_missing 105 = .ok (.iconst 0, 1) := by decide +kernel
theorem dX10_missing_106 : decode cX10_missing 106 = .ok (.iaload, 1) := by decide +kernel
theorem dX10_missing_107 : decode cX10_missing 107 = .ok (.ishl, 1) := by decide +kernel
theorem dX10_missing_108 : decode cX10_missing 108 = .ok (.if_icmp .ge 46, 3) := by decide +kernel
theorem dX10_missing_111 : decode cX10_missing 111 = .ok (.iload 7, 2) := by decide +kernel
theorem dX10_missing_113 : decode cX10_missing 113 = .ok (.iload 5, 2) := by decide +kernel
theorem dX10_missing_115 : decode cX10_missing 115 = .ok (.iconst (-1), 1) := by decide +kernel
theorem dX10_missing_116 : decode cX10_missing 116 = .ok (.ixor, 1) := by decide +kernel
theorem dX10_missing_117 : decode cX10_missing 117 = .ok (.iand, 1) := by decide +kernel
theorem dX10_missing_118 : decode cX10_missing 118 = .ok (.ifCond .ne 30, 3) := by decide +kernel
theorem dX10_missing_121 : decode cX10_missing 121 = .ok (.aload_n 0, 1) := by decide +kernel
theorem dX10_missing_122 : decode cX10_missing 122 = .ok (.iload 7, 2) := by decide +kernel
theorem dX10_missing_124 : decode cX10_missing 124 = .ok (.bipush 40, 2) := by decide +kernel
theorem dX10_missing_126 : decode cX10_missing 126 = .ok (.iload_n 2, 1) := by decide +kernel
theorem dX10_missing_127 : decode cX10_missing 127 = .ok (.imul, 1) := by decide +kernel
theorem dX10_missing_128 : decode cX10_missing 128 = .ok (.iload_n 3, 1) := by decide +kernel
theorem dX10_missing_129 : decode cX10_missing 129 = .ok (.invokevirtual 307, 3) := by decide +kernel
theorem dX10_missing_132 : decode cX10_missing 132 = .ok (.ifCond .eq 16, 3) := by decide +kernel
theorem dX10_missing_135 : decode cX10_missing 135 = .ok (.iload 6, 2) := by decide +kernel
theorem dX10_missing_137 : decode cX10_missing 137 = .ok (.iload 4, 2) := by decide +kernel
theorem dX10_missing_139 : decode cX10_missing 139 = .ok (.if_icmp .ne 6, 3) := by decide +kernel
theorem dX10_missing_142 : decode cX10_missing 142 = .ok (.iload 7, 2) := by decide +kernel
theorem dX10_missing_144 : decode cX10_missing 144 = .ok (.ireturn, 1) := by decide +kernel
theorem dX10_missing_145 : decode cX10_missing 145 = .ok (.iinc 6 1, 3) := by decide +kernel
theorem dX10_missing_148 : decode cX10_missing 148 = .ok (.iinc 7 1, 3) := by decide +kernel
theorem dX10_missing_151 : decode cX10_missing 151 = .ok (.goto (-53), 3) := by decide +kernel
theorem dX10_missing_154 : decode cX10_missing 154 = .ok (.iload 4, 2) := by decide +kernel
theorem dX10_missing_156 : decode cX10_missing 156 = .ok (.ifCond .ge 8, 3) := by decide +kernel
theorem dX10_missing_159 : decode cX10_missing 159 = .ok (.iload 6, 2) := by decide +kernel
theorem dX10_missing_161 : decode cX10_missing 161 = .ok (.goto 5, 3) := by decide +kernel
theorem dX10_missing_164 : decode cX10_missing 164 = .ok (.ldc 101, 2) := by decide +kernel
theorem dX10_missing_166 : decode cX10_missing 166 = .ok (.ireturn, 1) := by decide +kernel
set_option maxRecDepth 100000 in
theorem rX10_missing_0 {p : Program} {l : Launch} {e : Env} {s : State} {m : MethodId} {args : Array Value} {below : List Frame} {meth : Method} {c : Code} {D : va_G} {cA : Nat → ClassId} {ad : Nat → Nat} {Ret : zR} (C : z_Cx p { frames := 3, cells := 0, slots := 0, locals := 68 } s m args c cX10_missing yX10_missing.cls 8 D cA ad) (hr : meth.sig.returnType = (some .int)) (hlocks : meth.locks = false) : ∀ L st σ, tX10_missing_0 (z_X p l e { frames := 3, cells := 0, slots := 0, locals := 68 } s m args below meth c (MQ below (z_Qc D cA ad Ret) args s 0 0 (z_A ad)) 8 D cA ad true) Ret L st σ → z_X p l e { frames := 3, cells := 0, slots := 0, locals := 68 } s m args below meth c (MQ below (z_Qc D cA ad Ret) args s 0 0 (z_A ad)) 8 D cA ad true 0 L st σ := (s_aload_n C dX10_missing_0 rfl (s_iconst C dX10_missing_1 rfl ⟨by decide, by decide⟩ (s_puti C dX10_missing_2 cls_X10 (by decide) rfl wd_968 rfl rfl (s_aload_n C dX10_missing_5 rfl (s_iload_n C dX10_missing_6 rfl (s_cv1 C dX10_missing_7 (okX10_isWind l) cls_X10 wd_1257 wd_1259 wd_59 wd_85 wd_1260 ⟨by decide, by decide, by decide +kernel⟩ ⟨by decide, by decide⟩ (s_ifeq C dX10_missing_10 (by decide) (s_ldc C dX10_missing_38 (v := -1000001) wd_1086 ⟨by decide, by decide⟩ (s_iret C dX10_missing_40 hr hlocks)) (s_iload_n C dX10_missing_13 rfl (s_cs1 C dX10_missing_14 (okX10_isRow l) wd_1078 wd_1079 wd_85 wd_1080 ⟨by decide, by decide, by decide +kernel⟩ ⟨by decide, by decide⟩ (s_ifeq C dX10_missing_17 (by decide) (s_ldc C dX10_missing_38 (v := -1000001) wd_1086 ⟨by decide, by decide⟩ (s_iret C dX10_missing_40 hr hlocks)) (s_iload_n C dX10_missing_20 rfl (s_i2l C dX10_missing_21 (s_lconst C dX10_missing_22 (v := 0) rfl ⟨by decide, by decide⟩ (s_ldc2 C dX10_missing_23 (v := 12) wd_1336 ⟨by decide, by decide⟩ (s_cs3 C dX10_missing_26 (okX10_in l) wd_1082 wd_1083 wd_85 wd_1084 ⟨by decide, by decide, by decide +kernel⟩ ⟨by decide, by decide⟩ (s_ifeq C dX10_missing_29 (by decide) (s_ldc C dX10_missing_38 (v := -1000001) wd_1086 ⟨by decide, by decide⟩ (s_iret C dX10_missing_40 hr hlocks)) (s_iload C dX10_missing_32 (s_iconst C dX10_missing_34 rfl ⟨by decide, by decide⟩ (s_icge C dX10_missing_35 (by decide) (s_aload_n C dX10_missing_41 rfl (s_iconst C dX10_missing_42 rfl ⟨by decide, by decide⟩ (s_puti C dX10_missing_43 cls_X10 (by decide) rfl wd_969 rfl rfl (s_aload_n C dX10_missing_46 rfl (s_getr C dX10_missing_47 (j := 2) cls_X10 (by decide) rfl (by decide) (by decide) (by decide +kernel) wd_970 (s_iload_n C dX10_missing_50 rfl (s_iald C dX10_missing_51 (s_ifge C dX10_missing_52 (by decide) (s_iload_n C dX10_missing_61 rfl (s_aload_n C dX10_missing_62 rfl (s_getr C dX10_missing_63 (j := 3) cls_X10 (by decide) rfl (by decide) (by decide) (by decide +kernel) wd_971 (s_iload_n C dX10_missing_66 rfl (s_iald C dX10_missing_67 (s_icle C dX10_missing_68 (by decide) (s_aload_n C dX10_missing_77 rfl (s_cv0 C dX10_missing_78 (okX10_layLengths l) cls_X10 wd_1228 wd_1230 wd_54 wd_85 wd_1231 ⟨by decide, by decide, by decide +kernel⟩ ⟨by decide, by decide⟩ (s_aload_n C dX10_missing_81 rfl (s_iload_n C dX10_missing_82 rfl (s_cv1 C dX10_missing_83 (okX10_listen l) cls_X10 wd_1261 wd_1263 wd_60 wd_85 wd_1264 ⟨by decide, by decide, by decide +kernel⟩ ⟨by decide, by decide⟩ (s_aload_n C dX10_missing_86 rfl (s_cv0 C dX10_missing_87 (okX10_heardSet l) cls_X10 wd_1337 wd_1339 wd_66 wd_85 wd_1340 ⟨by decide, by decide, by decide +kernel⟩ ⟨by decide, by decide⟩ (s_istore C dX10_missing_90 (by decide) rfl (s_iconst C dX10_missing_92 rfl ⟨by decide, by decide⟩ (s_istore C dX10_missing_93 (by decide) rfl (s_iconst C dX10_missing_95 rfl ⟨by decide, by decide⟩ (s_istore C dX10_missing_96 (by decide) rfl (fun _ _ _ h => h))))))))))))) (s_aload_n C dX10_missing_71 rfl (s_iconst C dX10_missing_72 rfl ⟨by decide, by decide⟩ (s_cv1 C dX10_missing_73 (okX10_finding l) cls_X10 wd_1087 wd_1089 wd_35 wd_85 wd_1090 ⟨by decide, by decide, by decide +kernel⟩ ⟨by decide, by decide⟩ (s_iret C dX10_missing_76 hr hlocks)))))))))) (s_aload_n C dX10_missing_55 rfl (s_iconst C dX10_missing_56 rfl ⟨by decide, by decide⟩ (s_cv1 C dX10_missing_57 (okX10_finding l) cls_X10 wd_1087 wd_1089 wd_35 wd_85 wd_1090 ⟨by decide, by decide, by decide +kernel⟩ ⟨by decide, by decide⟩ (s_iret C dX10_missing_60 hr hlocks)))))))))))) (s_ldc C dX10_missing_38 (v := -1000001) wd_1086 ⟨by decide, by decide⟩ (s_iret C dX10_missing_40 hr hlocks)))))))))))))))))))))
set_option maxRecDepth 100000 in
theorem rX10_missing_98 {p : Program} {l : Launch} {e : Env} {s : State} {m : MethodId} {args : Array Value} {below : List Frame} {meth : Method} {c : Code} {D : va_G} {cA : Nat → ClassId} {ad : Nat → Nat} {Ret : zR} (C : z_Cx p { frames := 3, cells := 0, slots := 0, locals := 68 } s m args c cX10_missing yX10_missing.cls 8 D cA ad) (hr : meth.sig.returnType = (some .int)) (hlocks : meth.locks = false) : ∀ L st σ, tX10_missing_98 (z_X p l e { frames := 3, cells := 0, slots := 0, locals := 68 } s m args below meth c (MQ below (z_Qc D cA ad Ret) args s 0 0 (z_A ad)) 8 D cA ad true) Ret L st σ → z_X p l e { frames := 3, cells := 0, slots := 0, locals := 68 } s m args below meth c (MQ below (z_Qc D cA ad Ret) args s 0 0 (z_A ad)) 8 D cA ad true 98 L st σ := (s_iload C dX10_missing_98 (s_iconst C dX10_missing_100 rfl ⟨by decide, by decide⟩ (s_aload_n C dX10_missing_101 rfl (s_getr C dX10_missing_102 (j := 5) cls_X10 (by decide) rfl (by decide) (by decide) (by decide +kernel) wd_973 (s_iconst C dX10_missing_105 rfl ⟨by decide, by decide⟩ (s_iald C dX10_missing_106 (s_ishl C dX10_missing_107 (s_icge C dX10_missing_108 (by decide) (s_iload C dX10_missing_154 (s_ifge C dX10_missing_156 (by decide) (s_ldc C dX10_missing_164 (v := -1000000) wd_1127 ⟨by decide, by decide⟩ (s_iret C dX10_missing_166 hr hlocks)) (s_iload C dX10_missing_159 (s_goto C dX10_missing_161 (by decide) (s_iret C dX10_missing_166 hr hlocks))))) (s_iload C dX10_missing_111 (s_iload C dX10_missing_113 (s_iconst C dX10_missing_115 rfl ⟨by decide, by decide⟩ (s_ixor C dX10_missing_116 (s_iand C dX10_missing_117 (s_ifne C dX10_missing_118 (by decide) (s_iinc C dX10_missing_148 (by decide) rfl (s_goto C dX10_missing_151 (by decide) (fun _ _ _ h => h))) (s_aload_n C dX10_missing_121 rfl (s_iload C dX10_missing_122 (s_bipush C dX10_missing_124 rfl ⟨by decide, by decide⟩ (s_iload_n C dX10_missing_126 rfl (s_imul C dX10_missing_127 (s_iload_n C dX10_missing_128 rfl (s_cv3 C dX10_missing_129 (okX10_isLeft l) cls_X10 wd_1341 wd_1343 wd_67 wd_85 wd_1344 ⟨by decide, by decide, by decide +kernel⟩ ⟨by decide, by decide⟩ (s_ifeq C dX10_missing_132 (by decide) (s_iinc C dX10_missing_148 (by decide) rfl (s_goto C dX10_missing_151 (by decide) (fun _ _ _ h => h))) (s_iload C dX10_missing_135 (s_iload C dX10_missing_137 (s_icne C dX10_missing_139 (by decide) (s_iinc C dX10_missing_145 (by decide) rfl (s_iinc C dX10_missing_148 (by decide) rfl (s_goto C dX10_missing_151 (by decide) (fun _ _ _ h => h)))) (s_iload C dX10_missing_142 (s_iret C dX10_missing_144 hr hlocks)))))))))))))))))))))))))))
theorem okX10_missing (l : Launch) : z_OK l yX10_missing cX10_missing 8 (some .int) 3 68 SX10_missing := by
  refine z_ok_of true (by decide +kernel) ?_ ?_
  · intro as σ Ret h
    obtain ⟨k0, x1, x2, x3, x4, rfl⟩ := pX10_missing h
    exact ⟨Nat.le_of_ble_eq_true rfl, by simp⟩
  · intro p e s m args below meth c D cA ad Ret C hr hlocks as σ has hσ h
    obtain ⟨k0, x1, x2, x3, x4, rfl⟩ := pX10_missing h
    exact vX10_missing (rX10_missing_0 C hr hlocks) (rX10_missing_98 C hr hlocks) k0 x1 x2 x3 x4 σ (has _ (List.mem_of_getElem? (i := 0) rfl)) (has _ (List.mem_of_getElem? (i := 1) rfl)) (has _ (List.mem_of_getElem? (i := 2) rfl)) (has _ (List.mem_of_getElem? (i := 3) rfl)) (has _ (List.mem_of_getElem? (i := 4) rfl)) hσ h
