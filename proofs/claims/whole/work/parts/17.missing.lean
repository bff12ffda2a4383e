/-! missing -/
def q_lf (s : Nat) (a h : Nat → Int) (tr : Nat → Nat) (n : Nat) : Nat → Option Nat
  | 0 => some 0
  | i + 1 => match q_lf s a h tr n i with
    | none => none
    | some k => if s.testBit (tr i) then some k else if k < n ∧ h k = a i then some (k + 1) else none
def q_gn (s : Nat) (tr : Nat → Nat) : Nat → Nat
  | 0 => 0
  | i + 1 => q_gn s tr i + if s.testBit (tr i) then 1 else 0
theorem q_lf_le {s : Nat} {a h : Nat → Int} {tr : Nat → Nat} {n : Nat} : ∀ (i k : Nat), q_lf s a h tr n i = some k → k ≤ n
  | 0, k, e => by cases e; exact Nat.zero_le _
  | i + 1, k, e => by
    unfold q_lf at e
    split at e
    · cases e
    · rename_i k0 e0
      have := q_lf_le i k0 e0
      split at e
      · cases e; exact this
      · split at e
        · cases e; omega
        · cases e
theorem q_gn_le {s : Nat} {tr : Nat → Nat} : ∀ i : Nat, q_gn s tr i ≤ i
  | 0 => Nat.le_refl _
  | i + 1 => by
    have := q_gn_le (s := s) (tr := tr) i
    unfold q_gn
    split <;> omega
theorem q_lf_none {s : Nat} {a h : Nat → Int} {tr : Nat → Nat} {n i : Nat} (e : q_lf s a h tr n i = none) : ∀ d : Nat, q_lf s a h tr n (i + d) = none
  | 0 => e
  | d + 1 => by
    show q_lf s a h tr n (i + d + 1) = none
    unfold q_lf
    rw [q_lf_none e d]
/-- what is heard without a set is just that row, and the set holds none but those that sound -/
def q_left (s : Nat) (a h : Nat → Int) (tr : Nat → Nat) (cnt n : Nat) : Bool := decide (q_lf s a h tr n cnt = some n) && decide (q_gn s tr cnt = q_pop s 12)
def q_eok (σ : zM) (e : Nat) : Prop := (0 ≤ σ e 3 ∧ σ e 3 ≤ 12) ∧ ∀ i : Nat, (i : Int) < σ e 3 → 0 ≤ σ (e + 2) i ∧ σ (e + 2) i < 12
def SX3_isLeftBy : zS := fun as σ Ret => match as with
  | [.inr (.inr (3, 0, e)), .inl s, .inr (.inr (100, n2, k2)), .inl n] => (q_eok σ e ∧ (0 ≤ s ∧ s < 4096) ∧ 0 ≤ n ∧ n ≤ n2) ∧ Ret (some (.inl (if q_left s.toNat (σ (e + 1)) (σ k2) (fun i => (σ (e + 2) i).toNat) (σ e 3).toNat n.toNat then 1 else 0))) σ
  | _ => False
def tX3_isLeftBy_0 (X : Nat → zB) (Ret : zR) (L : zL) (st : List zV) (σ : zM) : Prop := (z_push 0 (z_istore 4 (z_push 0 (z_istore 5 (z_push 0 (z_istore 6 (X 9))))))) L st σ
def tX3_isLeftBy_9 (X : Nat → zB) (Ret : zR) (L : zL) (st : List zV) (σ : zM) : Prop := (z_iload 6 (z_aload 0 (z_geti 3 3 (z_icge (z_iload 5 (z_iload 3 (z_icne (z_push 0 (z_zret Ret)) (z_iload 4 (z_iload 1 (z_cs1 SJ6_bitCount_0f7a4 (z_icne (z_push 0 (z_zret Ret)) (z_push 1 (z_goto (z_zret Ret)))))))))) (z_iload 1 (z_aload 0 (z_getr 3 2 100 12 (z_iload 6 (z_ald 0 (z_ishr (z_push 1 (z_iand (z_push 1 (z_icne (z_iload 5 (z_iload 3 (z_icge (z_push 0 (z_zret Ret)) (z_iload 5 (z_aload 2 (z_alen (z_icge (z_push 0 (z_zret Ret)) (z_aload 2 (z_iload 5 (z_ald 0 (z_aload 0 (z_getr 3 1 100 12 (z_iload 6 (z_ald 0 (z_icne (z_push 0 (z_zret Ret)) (z_iinc 5 1 (z_goto (z_iinc 6 1 (z_goto (X 9)))))))))))))))))))) (z_iinc 4 1 (z_goto (z_iinc 6 1 (z_goto (X 9))))))))))))))))))) L st σ
theorem pX3_isLeftBy {as : List zV} {σ : zM} {Ret : zR} (h : SX3_isLeftBy as σ Ret) : ∃ (k0 : Nat) (x1 : Int) (n2 k2 : Nat) (x3 : Int), as = [.inr (.inr (3, 0, k0)), .inl x1, .inr (.inr (100, n2, k2)), .inl x3] := by
  unfold SX3_isLeftBy at h
  split at h
  · exact ⟨_, _, _, _, _, rfl⟩
  · exact h.elim
set_option maxRecDepth 10000 in
set_option maxHeartbeats 4000000 in
theorem vX3_isLeftBy {X : Nat → zB} {Ret : zR} (h0 : ∀ L st σ, tX3_isLeftBy_0 X Ret L st σ → X 0 L st σ) (h9 : ∀ L st σ, tX3_isLeftBy_9 X Ret L st σ → X 9 L st σ) (k0 : Nat) (x1 : Int) (n2 k2 : Nat) (x3 : Int) (σ : zM) (hk0 : z_kd k0 = (3, 0)) (hx1 : -2147483648 ≤ x1 ∧ x1 ≤ 2147483647) (hk2 : z_kd k2 = (100, n2)) (hx3 : -2147483648 ≤ x3 ∧ x3 ≤ 2147483647) (hσ : z_okm σ) (h : SX3_isLeftBy [.inr (.inr (3, 0, k0)), .inl x1, .inr (.inr (100, n2, k2)), .inl x3] σ Ret) : X 0 [some (.inr (.inr (3, 0, k0))), some (.inl x1), some (.inr (.inr (100, n2, k2))), some (.inl x3), none, none, none] [] σ := by
  obtain ⟨⟨⟨⟨c0, c1⟩, htr⟩, ⟨s0, s1⟩, m0, m1⟩, h⟩ := h
  obtain ⟨cnt, hcnt⟩ := z_nat c0
  obtain ⟨s, rfl⟩ := z_nat s0
  obtain ⟨n, rfl⟩ := z_nat m0
  rw [hcnt] at h
  simp only [Int.toNat_natCast] at h
  generalize htt : (fun i => (σ (k0 + 2) i).toNat) = tr at h
  generalize haa : σ (k0 + 1) = a at h
  generalize hhh : σ k2 = hr at h
  have ea : ∀ i, σ (k0 + 1) i = a i := fun i => by rw [haa]
  have eh : ∀ i, σ k2 i = hr i := fun i => by rw [hhh]
  have ht : ∀ i, i < cnt → tr i < 12 ∧ σ (k0 + 2) i = (tr i : Int) := fun i hi => by
    have := htr i (by omega)
    rw [← htt]
    simp only
    omega
  have L9 : ∀ (d i k : Nat), i + d = cnt → q_lf s a hr tr n i = some k → X 9 [some (.inr (.inr (3, 0, k0))), some (.inl (s : Int)), some (.inr (.inr (100, n2, k2))), some (.inl (n : Int)), some (.inl (q_gn s tr i : Int)), some (.inl (k : Int)), some (.inl (i : Int))] [] σ := by
    intro d
    induction d with
    | zero =>
      intro i k hi hk
      have e : i = cnt := by omega
      subst e
      have lk := q_lf_le i k hk
      have lg := q_gn_le (s := s) (tr := tr) i
      simp only [q_left, hk, Bool.and_eq_true, decide_eq_true_eq, Option.some.injEq] at h
      refine h9 _ _ _ ?_
      simp only [z_push, z_lpush, z_iload, z_lload, z_aload, z_istore, z_istoreP, z_lstore, z_astore, z_iinc, z_iincP, z_iadd, z_isub, z_imul, z_iaddW, z_isubW, z_imulW, z_idiv, z_irem, z_iand, z_ior, z_ixor, z_ishl, z_ishr, z_iushr, z_ineg, z_i2l, z_i2b, z_i2s, z_i2c, z_l2i, z_ladd, z_lsub, z_land, z_lor, z_lshl, z_lshr, z_lcmp, z_dup, z_pop, z_dup2, z_goto, z_tsw, z_cases, z_geti, z_getr, z_puti, z_putz, z_ald, z_iast, z_bast, z_zast, z_alen, z_acopy, z_mmax, z_mmin, z_mabs, z_mabsL, z_iret, z_zret, z_nret, z_lret, z_aret, z_vret, z_cat, z_ldcs, z_strv, z_strc, z_gcs, z_gfm, z_sln, z_sald, z_ifeq, z_ifne, z_iflt, z_ifge, z_ifgt, z_ifle, z_iceq, z_icne, z_iclt, z_icge, z_icgt, z_icle, z_cs0, z_cs1, z_cs2, z_cs3, z_cs4, z_cs5, z_cs6, z_cs7, z_cv0, z_cv1, z_cv2, z_cv3, z_cv4, z_cv5, z_cv6, z_cv7, z_g0, z_s0, z_g1, z_s1, z_g2, z_s2, z_g3, z_s3, z_g4, z_s4, z_g5, z_s5, z_g6, z_s6, z_g7, z_s7, z_g8, z_s8, z_g9, z_s9, z_g10, z_s10, z_g11, z_s11, z_g12, z_s12, z_g13, z_s13, z_b0, z_b1, z_b0n, z_b1n, z_up_far1, z_up_far2, z_up_far3, z_up_far4, z_up_far5, z_up_far6, Classical.not_not, not_true_eq_false, z_in, z_inL, Int.cast_ofNat_Int, Nat.reduceLeDiff, List.length_cons, List.length_nil, Nat.reduceAdd, Nat.zero_add, Nat.le_refl, true_and, and_true, List.length, Nat.reduceLT, true_or, or_true, false_or, or_false, false_and, and_false, not_true_eq_false, not_false_eq_true, forall_const, false_implies, true_implies, Int.reduceEq, Int.reduceLT, Int.reduceLE, Int.reduceAdd, Int.reduceSub, Int.reduceMul, Int.reduceNeg, Int.reduceToNat, Int.toNat_natCast, ↓reduceIte, reduceIte, Nat.reduceEqDiff, Nat.reduceSub, Nat.reduceMul, ne_eq, Int.zero_add, Int.add_zero, Int.sub_zero, Nat.add_zero, Int.ofNat_eq_natCast, tX3_isLeftBy_9, hcnt, SJ6_bitCount_0f7a4]
      repeat' (first | (intro _) | (with_reducible assumption) | (refine And.intro ?_ ?_))
      all_goals first | omega | assumption | (refine z_fin h ?_ rfl; first | rfl | omega | (split <;> omega) | (split <;> split <;> omega)) | skip
    | succ d ih =>
      intro i k hi hk
      obtain ⟨ti, te⟩ := ht i (by omega)
      have lk := q_lf_le i k hk
      have lg := q_gn_le (s := s) (tr := tr) i
      have b1 := z_bit1 s (by omega) (tr i) ti
      have st : q_lf s a hr tr n (i + 1) = if s.testBit (tr i) then some k else if k < n ∧ hr k = a i then some (k + 1) else none := by rw [q_lf, hk]
      refine h9 _ _ _ ?_
      simp only [z_push, z_lpush, z_iload, z_lload, z_aload, z_istore, z_istoreP, z_lstore, z_astore, z_iinc, z_iincP, z_iadd, z_isub, z_imul, z_iaddW, z_isubW, z_imulW, z_idiv, z_irem, z_iand, z_ior, z_ixor, z_ishl, z_ishr, z_iushr, z_ineg, z_i2l, z_i2b, z_i2s, z_i2c, z_l2i, z_ladd, z_lsub, z_land, z_lor, z_lshl, z_lshr, z_lcmp, z_dup, z_pop, z_dup2, z_goto, z_tsw, z_cases, z_geti, z_getr, z_puti, z_putz, z_ald, z_iast, z_bast, z_zast, z_alen, z_acopy, z_mmax, z_mmin, z_mabs, z_mabsL, z_iret, z_zret, z_nret, z_lret, z_aret, z_vret, z_cat, z_ldcs, z_strv, z_strc, z_gcs, z_gfm, z_sln, z_sald, z_ifeq, z_ifne, z_iflt, z_ifge, z_ifgt, z_ifle, z_iceq, z_icne, z_iclt, z_icge, z_icgt, z_icle, z_cs0, z_cs1, z_cs2, z_cs3, z_cs4, z_cs5, z_cs6, z_cs7, z_cv0, z_cv1, z_cv2, z_cv3, z_cv4, z_cv5, z_cv6, z_cv7, z_g0, z_s0, z_g1, z_s1, z_g2, z_s2, z_g3, z_s3, z_g4, z_s4, z_g5, z_s5, z_g6, z_s6, z_g7, z_s7, z_g8, z_s8, z_g9, z_s9, z_g10, z_s10, z_g11, z_s11, z_g12, z_s12, z_g13, z_s13, z_b0, z_b1, z_b0n, z_b1n, z_up_far1, z_up_far2, z_up_far3, z_up_far4, z_up_far5, z_up_far6, Classical.not_not, not_true_eq_false, z_in, z_inL, Int.cast_ofNat_Int, Nat.reduceLeDiff, List.length_cons, List.length_nil, Nat.reduceAdd, Nat.zero_add, Nat.le_refl, true_and, and_true, List.length, Nat.reduceLT, true_or, or_true, false_or, or_false, false_and, and_false, not_true_eq_false, not_false_eq_true, forall_const, false_implies, true_implies, Int.reduceEq, Int.reduceLT, Int.reduceLE, Int.reduceAdd, Int.reduceSub, Int.reduceMul, Int.reduceNeg, Int.reduceToNat, Int.toNat_natCast, ↓reduceIte, reduceIte, Nat.reduceEqDiff, Nat.reduceSub, Nat.reduceMul, ne_eq, Int.zero_add, Int.add_zero, Int.sub_zero, Nat.add_zero, Int.ofNat_eq_natCast, tX3_isLeftBy_9, hcnt, te, b1, ea, eh]
      by_cases hb : s.testBit (tr i) = true
      · have e1 := ih (i + 1) k (by omega) (by rw [st, if_pos hb])
        rw [q_gn, if_pos hb] at e1
        simp only [z_push, z_lpush, z_iload, z_lload, z_aload, z_istore, z_istoreP, z_lstore, z_astore, z_iinc, z_iincP, z_iadd, z_isub, z_imul, z_iaddW, z_isubW, z_imulW, z_idiv, z_irem, z_iand, z_ior, z_ixor, z_ishl, z_ishr, z_iushr, z_ineg, z_i2l, z_i2b, z_i2s, z_i2c, z_l2i, z_ladd, z_lsub, z_land, z_lor, z_lshl, z_lshr, z_lcmp, z_dup, z_pop, z_dup2, z_goto, z_tsw, z_cases, z_geti, z_getr, z_puti, z_putz, z_ald, z_iast, z_bast, z_zast, z_alen, z_acopy, z_mmax, z_mmin, z_mabs, z_mabsL, z_iret, z_zret, z_nret, z_lret, z_aret, z_vret, z_cat, z_ldcs, z_strv, z_strc, z_gcs, z_gfm, z_sln, z_sald, z_ifeq, z_ifne, z_iflt, z_ifge, z_ifgt, z_ifle, z_iceq, z_icne, z_iclt, z_icge, z_icgt, z_icle, z_cs0, z_cs1, z_cs2, z_cs3, z_cs4, z_cs5, z_cs6, z_cs7, z_cv0, z_cv1, z_cv2, z_cv3, z_cv4, z_cv5, z_cv6, z_cv7, z_g0, z_s0, z_g1, z_s1, z_g2, z_s2, z_g3, z_s3, z_g4, z_s4, z_g5, z_s5, z_g6, z_s6, z_g7, z_s7, z_g8, z_s8, z_g9, z_s9, z_g10, z_s10, z_g11, z_s11, z_g12, z_s12, z_g13, z_s13, z_b0, z_b1, z_b0n, z_b1n, z_up_far1, z_up_far2, z_up_far3, z_up_far4, z_up_far5, z_up_far6, Classical.not_not, not_true_eq_false, z_in, z_inL, Int.cast_ofNat_Int, Nat.reduceLeDiff, List.length_cons, List.length_nil, Nat.reduceAdd, Nat.zero_add, Nat.le_refl, true_and, and_true, List.length, Nat.reduceLT, true_or, or_true, false_or, or_false, false_and, and_false, not_true_eq_false, not_false_eq_true, forall_const, false_implies, true_implies, Int.reduceEq, Int.reduceLT, Int.reduceLE, Int.reduceAdd, Int.reduceSub, Int.reduceMul, Int.reduceNeg, Int.reduceToNat, Int.toNat_natCast, ↓reduceIte, reduceIte, Nat.reduceEqDiff, Nat.reduceSub, Nat.reduceMul, ne_eq, Int.zero_add, Int.add_zero, Int.sub_zero, Nat.add_zero, Int.ofNat_eq_natCast, hb]
        repeat' (first | (intro _) | (with_reducible assumption) | (refine And.intro ?_ ?_))
        all_goals first | omega | assumption | (refine z_fin h ?_ rfl; first | rfl | omega | (split <;> omega) | (split <;> split <;> omega)) | skip
      · have hb2 : s.testBit (tr i) = false := by simpa using hb
        have bad : ¬ (k < n ∧ hr k = a i) → Ret (some (.inl 0)) σ := by
          intro q
          have e0 : q_lf s a hr tr n (i + 1) = none := by rw [st, if_neg hb, if_neg q]
          have e2 := q_lf_none e0 d
          rw [show i + 1 + d = cnt by omega] at e2
          simp only [q_left, e2, reduceCtorEq, decide_false, Bool.false_and, Bool.false_eq_true, if_false] at h
          exact h
        simp only [z_push, z_lpush, z_iload, z_lload, z_aload, z_istore, z_istoreP, z_lstore, z_astore, z_iinc, z_iincP, z_iadd, z_isub, z_imul, z_iaddW, z_isubW, z_imulW, z_idiv, z_irem, z_iand, z_ior, z_ixor, z_ishl, z_ishr, z_iushr, z_ineg, z_i2l, z_i2b, z_i2s, z_i2c, z_l2i, z_ladd, z_lsub, z_land, z_lor, z_lshl, z_lshr, z_lcmp, z_dup, z_pop, z_dup2, z_goto, z_tsw, z_cases, z_geti, z_getr, z_puti, z_putz, z_ald, z_iast, z_bast, z_zast, z_alen, z_acopy, z_mmax, z_mmin, z_mabs, z_mabsL, z_iret, z_zret, z_nret, z_lret, z_aret, z_vret, z_cat, z_ldcs, z_strv, z_strc, z_gcs, z_gfm, z_sln, z_sald, z_ifeq, z_ifne, z_iflt, z_ifge, z_ifgt, z_ifle, z_iceq, z_icne, z_iclt, z_icge, z_icgt, z_icle, z_cs0, z_cs1, z_cs2, z_cs3, z_cs4, z_cs5, z_cs6, z_cs7, z_cv0, z_cv1, z_cv2, z_cv3, z_cv4, z_cv5, z_cv6, z_cv7, z_g0, z_s0, z_g1, z_s1, z_g2, z_s2, z_g3, z_s3, z_g4, z_s4, z_g5, z_s5, z_g6, z_s6, z_g7, z_s7, z_g8, z_s8, z_g9, z_s9, z_g10, z_s10, z_g11, z_s11, z_g12, z_s12, z_g13, z_s13, z_b0, z_b1, z_b0n, z_b1n, z_up_far1, z_up_far2, z_up_far3, z_up_far4, z_up_far5, z_up_far6, Classical.not_not, not_true_eq_false, z_in, z_inL, Int.cast_ofNat_Int, Nat.reduceLeDiff, List.length_cons, List.length_nil, Nat.reduceAdd, Nat.zero_add, Nat.le_refl, true_and, and_true, List.length, Nat.reduceLT, true_or, or_true, false_or, or_false, false_and, and_false, not_true_eq_false, not_false_eq_true, forall_const, false_implies, true_implies, Int.reduceEq, Int.reduceLT, Int.reduceLE, Int.reduceAdd, Int.reduceSub, Int.reduceMul, Int.reduceNeg, Int.reduceToNat, Int.toNat_natCast, ↓reduceIte, reduceIte, Nat.reduceEqDiff, Nat.reduceSub, Nat.reduceMul, ne_eq, Int.zero_add, Int.add_zero, Int.sub_zero, Nat.add_zero, Int.ofNat_eq_natCast, hb2, Bool.false_eq_true]
        repeat' (first | (intro _) | (with_reducible assumption) | (refine And.intro ?_ ?_))
        all_goals first | omega | assumption | (refine z_fin h ?_ rfl; first | rfl | omega | (split <;> omega) | (split <;> split <;> omega)) | skip
        all_goals first
          | (refine bad ?_; omega)
          | (have e1 := ih (i + 1) (k + 1) (by omega) (by rw [st, if_neg hb, if_pos (by omega)])
             rw [q_gn, if_neg hb] at e1
             exact e1)
  refine h0 _ _ _ ?_
  simp only [z_push, z_lpush, z_iload, z_lload, z_aload, z_istore, z_istoreP, z_lstore, z_astore, z_iinc, z_iincP, z_iadd, z_isub, z_imul, z_iaddW, z_isubW, z_imulW, z_idiv, z_irem, z_iand, z_ior, z_ixor, z_ishl, z_ishr, z_iushr, z_ineg, z_i2l, z_i2b, z_i2s, z_i2c, z_l2i, z_ladd, z_lsub, z_land, z_lor, z_lshl, z_lshr, z_lcmp, z_dup, z_pop, z_dup2, z_goto, z_tsw, z_cases, z_geti, z_getr, z_puti, z_putz, z_ald, z_iast, z_bast, z_zast, z_alen, z_acopy, z_mmax, z_mmin, z_mabs, z_mabsL, z_iret, z_zret, z_nret, z_lret, z_aret, z_vret, z_cat, z_ldcs, z_strv, z_strc, z_gcs, z_gfm, z_sln, z_sald, z_ifeq, z_ifne, z_iflt, z_ifge, z_ifgt, z_ifle, z_iceq, z_icne, z_iclt, z_icge, z_icgt, z_icle, z_cs0, z_cs1, z_cs2, z_cs3, z_cs4, z_cs5, z_cs6, z_cs7, z_cv0, z_cv1, z_cv2, z_cv3, z_cv4, z_cv5, z_cv6, z_cv7, z_g0, z_s0, z_g1, z_s1, z_g2, z_s2, z_g3, z_s3, z_g4, z_s4, z_g5, z_s5, z_g6, z_s6, z_g7, z_s7, z_g8, z_s8, z_g9, z_s9, z_g10, z_s10, z_g11, z_s11, z_g12, z_s12, z_g13, z_s13, z_b0, z_b1, z_b0n, z_b1n, z_up_far1, z_up_far2, z_up_far3, z_up_far4, z_up_far5, z_up_far6, Classical.not_not, not_true_eq_false, z_in, z_inL, Int.cast_ofNat_Int, Nat.reduceLeDiff, List.length_cons, List.length_nil, Nat.reduceAdd, Nat.zero_add, Nat.le_refl, true_and, and_true, List.length, Nat.reduceLT, true_or, or_true, false_or, or_false, false_and, and_false, not_true_eq_false, not_false_eq_true, forall_const, false_implies, true_implies, Int.reduceEq, Int.reduceLT, Int.reduceLE, Int.reduceAdd, Int.reduceSub, Int.reduceMul, Int.reduceNeg, Int.reduceToNat, Int.toNat_natCast, ↓reduceIte, reduceIte, Nat.reduceEqDiff, Nat.reduceSub, Nat.reduceMul, ne_eq, Int.zero_add, Int.add_zero, Int.sub_zero, Nat.add_zero, Int.ofNat_eq_natCast, tX3_isLeftBy_0]
  exact L9 cnt 0 0 (by omega) rfl
theorem dX3_isLeftBy_0 : decode cX3_isLeftBy 0 = .ok (.iconst 0, 1) := by decide +kernel
theorem dX3_isLeftBy_1 : decode cX3_isLeftBy 1 = .ok (.istore 4, 2) := by decide +kernel
theorem dX3_isLeftBy_3 : decode cX3_isLeftBy 3 = .ok (.iconst 0, 1) := by decide +kernel
theorem dX3_isLeftBy_4 : decode cX3_isLeftBy 4 = .ok (.istore 5, 2) := by decide +kernel
theorem dX3_isLeftBy_6 : decode cX3_isLeftBy 6 = .ok (.iconst 0, 1) := by decide +kernel
theorem dX3_isLeftBy_7 : decode cX3_isLeftBy 7 = .ok (.istore 6, 2) := by decide +kernel
theorem dX3_isLeftBy_9 : decode cX3_isLeftBy 9 = .ok (.iload 6, 2) := by decide +kernel
theorem dX3_isLeftBy_11 : decode cX3_isLeftBy 11 = .ok (.aload_n 0, 1) := by decide +kernel
theorem dX3_isLeftBy_12 : decode cX3_isLeftBy 12 = .ok (.getfield 21, 3) := by decide +kernel
theorem dX3_isLeftBy_15 : decode cX3_isLeftBy 15 = .ok (.if_icmp .ge 65, 3) := by decide +kernel
theorem dX3_isLeftBy_18 : decode cX3_isLeftBy 18 = .ok (.iload_n 1, 1) := by decide +kernel
theorem dX3_isLeftBy_19 : decode cX3_isLeftBy 19 = .ok (.aload_n 0, 1) := by decide +kernel
theorem dX3_isLeftBy_20 : decode cX3_isLeftBy 20 = .ok (.getfield 15, 3) := by decide +kernel
theorem dX3_isLeftBy_23 : decode cX3_isLeftBy 23 = .ok (.iload 6, 2) := by decide +kernel
theorem dX3_isLeftBy_25 : decode cX3_isLeftBy 25 = .ok (.iaload, 1) := by decide +kernel
theorem dX3_isLeftBy_26 : decode cX3_isLeftBy 26 = .ok (.ishr, 1) := by decide +kernel
theorem dX3_isLeftBy_27 : decode cX3_isLeftBy 27 = .ok (.iconst 1, 1) := by decide +kernel
theorem dX3_isLeftBy_28 : decode cX3_isLeftBy 28 = .ok (.iand, 1) := by decide +kernel
theorem dX3_isLeftBy_29 : decode cX3_isLeftBy 29 = .ok (.iconst 1, 1) := by decide +kernel
theorem dX3_isLeftBy_30 : decode cX3_isLeftBy 30 = .ok (.if_icmp .ne 9, 3) := by decide +kernel
theorem dX3_isLeftBy_33 : decode cX3_isLeftBy 33 = .ok (.iinc 4 1, 3) := by decide +kernel
theorem dX3_isLeftBy_36 : decode cX3_isLeftBy 36 = .ok (.goto 38, 3) := by decide +kernel
theorem dX3_isLeftBy_39 : decode cX3_isLeftBy 39 = .ok (.iload 5, 2) := by decide +kernel
theorem dX3_isLeftBy_41 : decode cX3_isLeftBy 41 = .ok (.iload_n 3, 1) := by decide +kernel
theorem dX3_isLeftBy_42 : decode cX3_isLeftBy 42 = .ok (.if_icmp .ge 30, 3) := by decide +kernel
theorem dX3_isLeftBy_45 : decode cX3_isLeftBy 45 = .ok (.iload 5, 2) := by decide +kernel
theorem dX3_isLeftBy_47 : decode cX3_isLeftBy 47 = .ok (.aload_n 2, 1) := by decide +kernel
theorem dX3_isLeftBy_48 : decode cX3_isLeftBy 48 = .ok (.arraylength, 1) := by decide +kernel
theorem dX3_isLeftBy_49 : decode cX3_isLeftBy 49 = .ok (.if_icmp .ge 23, 3) := by decide +kernel
theorem dX3_isLeftBy_52 : decode cX3_isLeftBy 52 = .ok (.aload_n 2, 1) := by decide +kernel
theorem dX3_isLeftBy_53 : decode cX3_isLeftBy 53 = .ok (.iload 5, 2) := by decide +kernel
theorem dX3_isLeftBy_55 : decode cX3_isLeftBy 55 = .ok (.iaload, 1) := by decide +kernel
theorem dX3_isLeftBy_56 : decode cX3_isLeftBy 56 = .ok (.aload_n 0, 1) := by decide +kernel
theorem dX3_isLeftBy_57 : decode cX3_isLeftBy 57 = .ok (.getfield 9, 3) := by decide +kernel
theorem dX3_isLeftBy_60 : decode cX3_isLeftBy 60 = .ok (.iload 6, 2) := by decide +kernel
theorem dX3_isLeftBy_62 : decode cX3_isLeftBy 62 = .ok (.iaload, 1) := by decide +kernel
theorem dX3_isLeftBy_63 : decode cX3_isLeftBy 63 = .ok (.if_icmp .ne 9, 3) := by decide +kernel
theorem dX3_isLeftBy_66 : decode cX3_isLeftBy 66 = .ok (.iinc 5 1, 3) := by decide +kernel
theorem dX3_isLeftBy_69 : decode cX3_isLeftBy 69 = .ok (.goto 5, 3) := by decide +kernel
theorem dX3_isLeftBy_72 : decode cX3_isLeftBy 72 = .ok (.iconst 0, 1) := by decide +kernel
theorem dX3_isLeftBy_73 : decode cX3_isLeftBy 73 = .ok (.ireturn, 1) := by decide +kernel
theorem dX3_isLeftBy_74 : decode cX3_isLeftBy 74 = .ok (.iinc 6 1, 3) := by decide +kernel
theorem dX3_isLeftBy_77 : decode cX3_isLeftBy 77 = .ok (.goto (-68), 3) := by decide +kernel
theorem dX3_isLeftBy_80 : decode cX3_isLeftBy 80 = .ok (.iload 5, 2) := by decide +kernel
theorem dX3_isLeftBy_82 : decode cX3_isLeftBy 82 = .ok (.iload_n 3, 1) := by decide +kernel
theorem dX3_isLeftBy_83 : decode cX3_isLeftBy 83 = .ok (.if_icmp .ne 16, 3) := by decide +kernel
theorem dX3_isLeftBy_86 : decode cX3_isLeftBy 86 = .ok (.iload 4, 2) := by decide +kernel
theorem dX3_isLeftBy_88 : decode cX3_isLeftBy 88 = .ok (.iload_n 1, 1) := by decide +kernel
theorem dX3_isLeftBy_89 : decode cX3_isLeftBy 89 = .ok (.invokestatic 63, 3) := by decide +kernel
theorem dX3_isLeftBy_92 : decode cX3_isLeftBy 92 = .ok (.if_icmp .ne 7, 3) := by decide +kernel
theorem dX3_isLeftBy_95 : decode cX3_isLeftBy 95 = .ok (.iconst 1, 1) := by decide +kernel
theorem dX3_isLeftBy_96 : decode cX3_isLeftBy 96 = .ok (.goto 4, 3) := by decide +kernel
theorem dX3_isLeftBy_99 : decode cX3_isLeftBy 99 = .ok (.iconst 0, 1) := by decide +kernel
theorem dX3_isLeftBy_100 : decode cX3_isLeftBy 100 = .ok (.ireturn, 1) := by decide +kernel
set_option maxRecDepth 100000 in
theorem rX3_isLeftBy_0 {p : Program} {l : Launch} {e : Env} {s : State} {m : MethodId} {args : Array Value} {below : List Frame} {meth : Method} {c : Code} {D : va_G} {cA : Nat → ClassId} {ad : Nat → Nat} {Ret : zR} (C : z_Cx p { frames := 1, cells := 0, slots := 0, locals := 20 } s m args c cX3_isLeftBy yX3_isLeftBy.cls 7 D cA ad) (hr : meth.sig.returnType = (some .boolean)) (hlocks : meth.locks = false) : ∀ L st σ, tX3_isLeftBy_0 (z_X p l e { frames := 1, cells := 0, slots := 0, locals := 20 } s m args below meth c (MQ below (z_Qc D cA ad Ret) args s 0 0 (z_A ad)) 7 D cA ad true) Ret L st σ → z_X p l e { frames := 1, cells := 0, slots := 0, locals := 20 } s m args below meth c (MQ below (z_Qc D cA ad Ret) args s 0 0 (z_A ad)) 7 D cA ad true 0 L st σ := (s_iconst C dX3_isLeftBy_0 rfl ⟨by decide, by decide⟩ (s_istore C dX3_isLeftBy_1 (by decide) rfl (s_iconst C dX3_isLeftBy_3 rfl ⟨by decide, by decide⟩ (s_istore C dX3_isLeftBy_4 (by decide) rfl (s_iconst C dX3_isLeftBy_6 rfl ⟨by decide, by decide⟩ (s_istore C dX3_isLeftBy_7 (by decide) rfl (fun _ _ _ h => h)))))))
set_option maxRecDepth 100000 in
theorem rX3_isLeftBy_9 {p : Program} {l : Launch} {e : Env} {s : State} {m : MethodId} {args : Array Value} {below : List Frame} {meth : Method} {c : Code} {D : va_G} {cA : Nat → ClassId} {ad : Nat → Nat} {Ret : zR} (C : z_Cx p { frames := 1, cells := 0, slots := 0, locals := 20 } s m args c cX3_isLeftBy yX3_isLeftBy.cls 7 D cA ad) (hr : meth.sig.returnType = (some .boolean)) (hlocks : meth.locks = false) : ∀ L st σ, tX3_isLeftBy_9 (z_X p l e { frames := 1, cells := 0, slots := 0, locals := 20 } s m args below meth c (MQ below (z_Qc D cA ad Ret) args s 0 0 (z_A ad)) 7 D cA ad true) Ret L st σ → z_X p l e { frames := 1, cells := 0, slots := 0, locals := 20 } s m args below meth c (MQ below (z_Qc D cA ad Ret) args s 0 0 (z_A ad)) 7 D cA ad true 9 L st σ := (s_iload C dX3_isLeftBy_9 (s_aload_n C dX3_isLeftBy_11 rfl (s_geti C dX3_isLeftBy_12 cls_X3 (by decide) rfl wd_305 (s_icge C dX3_isLeftBy_15 (by decide) (s_iload C dX3_isLeftBy_80 (s_iload_n C dX3_isLeftBy_82 rfl (s_icne C dX3_isLeftBy_83 (by decide) (s_iconst C dX3_isLeftBy_99 rfl ⟨by decide, by decide⟩ (s_zret C dX3_isLeftBy_100 hr ⟨rfl, rfl⟩ hlocks)) (s_iload C dX3_isLeftBy_86 (s_iload_n C dX3_isLeftBy_88 rfl (s_cs1 C dX3_isLeftBy_89 (okJ6_bitCount_0f7a4 l) wd_847 wd_848 wd_92 wd_849 ⟨by decide, by decide, by decide +kernel⟩ ⟨by decide, by decide⟩ (s_icne C dX3_isLeftBy_92 (by decide) (s_iconst C dX3_isLeftBy_99 rfl ⟨by decide, by decide⟩ (s_zret C dX3_isLeftBy_100 hr ⟨rfl, rfl⟩ hlocks)) (s_iconst C dX3_isLeftBy_95 rfl ⟨by decide, by decide⟩ (s_goto C dX3_isLeftBy_96 (by decide) (s_zret C dX3_isLeftBy_100 hr ⟨rfl, rfl⟩ hlocks)))))))))) (s_iload_n C dX3_isLeftBy_18 rfl (s_aload_n C dX3_isLeftBy_19 rfl (s_getr C dX3_isLeftBy_20 (j := 1) cls_X3 (by decide) rfl (by decide) (by decide) (by decide +kernel) wd_302 (s_iload C dX3_isLeftBy_23 (s_iald C dX3_isLeftBy_25 (s_ishr C dX3_isLeftBy_26 (s_iconst C dX3_isLeftBy_27 rfl ⟨by decide, by decide⟩ (s_iand C dX3_isLeftBy_28 (s_iconst C dX3_isLeftBy_29 rfl ⟨by decide, by decide⟩ (s_icne C dX3_isLeftBy_30 (by decide) (s_iload C dX3_isLeftBy_39 (s_iload_n C dX3_isLeftBy_41 rfl (s_icge C dX3_isLeftBy_42 (by decide) (s_iconst C dX3_isLeftBy_72 rfl ⟨by decide, by decide⟩ (s_zret C dX3_isLeftBy_73 hr ⟨rfl, rfl⟩ hlocks)) (s_iload C dX3_isLeftBy_45 (s_aload_n C dX3_isLeftBy_47 rfl (s_alen C dX3_isLeftBy_48 (s_icge C dX3_isLeftBy_49 (by decide) (s_iconst C dX3_isLeftBy_72 rfl ⟨by decide, by decide⟩ (s_zret C dX3_isLeftBy_73 hr ⟨rfl, rfl⟩ hlocks)) (s_aload_n C dX3_isLeftBy_52 rfl (s_iload C dX3_isLeftBy_53 (s_iald C dX3_isLeftBy_55 (s_aload_n C dX3_isLeftBy_56 rfl (s_getr C dX3_isLeftBy_57 (j := 0) cls_X3 (by decide) rfl (by decide) (by decide) (by decide +kernel) wd_300 (s_iload C dX3_isLeftBy_60 (s_iald C dX3_isLeftBy_62 (s_icne C dX3_isLeftBy_63 (by decide) (s_iconst C dX3_isLeftBy_72 rfl ⟨by decide, by decide⟩ (s_zret C dX3_isLeftBy_73 hr ⟨rfl, rfl⟩ hlocks)) (s_iinc C dX3_isLeftBy_66 (by decide) rfl (s_goto C dX3_isLeftBy_69 (by decide) (s_iinc C dX3_isLeftBy_74 (by decide) rfl (s_goto C dX3_isLeftBy_77 (by decide) (fun _ _ _ h => h)))))))))))))))))))) (s_iinc C dX3_isLeftBy_33 (by decide) rfl (s_goto C dX3_isLeftBy_36 (by decide) (s_iinc C dX3_isLeftBy_74 (by decide) rfl (s_goto C dX3_isLeftBy_77 (by decide) (fun _ _ _ h => h)))))))))))))))))))
theorem okX3_isLeftBy (l : Launch) : z_OK l yX3_isLeftBy cX3_isLeftBy 7 (some .boolean) 1 20 SX3_isLeftBy := by
  refine z_ok_of true (by decide +kernel) ?_ ?_
  · intro as σ Ret h
    obtain ⟨k0, x1, n2, k2, x3, rfl⟩ := pX3_isLeftBy h
    exact ⟨Nat.le_of_ble_eq_true rfl, by simp⟩
  · intro p e s m args below meth c D cA ad Ret C hr hlocks as σ has hσ h
    obtain ⟨k0, x1, n2, k2, x3, rfl⟩ := pX3_isLeftBy h
    exact vX3_isLeftBy (rX3_isLeftBy_0 C hr hlocks) (rX3_isLeftBy_9 C hr hlocks) k0 x1 n2 k2 x3 σ (has _ (List.mem_of_getElem? (i := 0) rfl)) (has _ (List.mem_of_getElem? (i := 1) rfl)) (has _ (List.mem_of_getElem? (i := 2) rfl)) (has _ (List.mem_of_getElem? (i := 3) rfl)) hσ h
def q_P (σ : zM) (e k2 n s : Nat) : Bool := q_left s (σ (e + 1)) (σ k2) (fun i => (σ (e + 2) i).toNat) (σ e 3).toNat n
def q_one (b : Bool) : Int := if b then 1 else 0
theorem q_one_01 (b : Bool) : q_one b = 0 ∨ q_one b = 1 := by cases b <;> simp [q_one]
def SX3_countMissing : zS := fun as σ Ret => match as with
  | [.inr (.inr (3, 0, e)), .inr (.inr (100, n2, k2)), .inl n] => (q_eok σ e ∧ 0 ≤ n ∧ n ≤ n2) ∧ Ret (some (.inl (z_sumf (fun s => q_one (q_P σ e k2 n.toNat s)) 4096))) σ
  | _ => False
def tX3_countMissing_0 (X : Nat → zB) (Ret : zR) (L : zL) (st : List zV) (σ : zM) : Prop := (z_push 0 (z_istore 3 (z_push 0 (z_istore 4 (X 5))))) L st σ
def tX3_countMissing_5 (X : Nat → zB) (Ret : zR) (L : zL) (st : List zV) (σ : zM) : Prop := (z_iload 4 (z_push 4096 (z_icge (z_iload 3 (z_iret Ret)) (z_iload 3 (z_aload 0 (z_iload 4 (z_aload 1 (z_iload 2 (z_cv3 3 SX3_isLeftBy (z_ifeq (z_push 0 (z_iadd (z_istore 3 (z_iinc 4 1 (z_goto (X 5)))))) (z_push 1 (z_goto (z_iadd (z_istore 3 (z_iinc 4 1 (z_goto (X 5))))))))))))))))) L st σ
theorem pX3_countMissing {as : List zV} {σ : zM} {Ret : zR} (h : SX3_countMissing as σ Ret) : ∃ (k0 : Nat) (n1 k1 : Nat) (x2 : Int), as = [.inr (.inr (3, 0, k0)), .inr (.inr (100, n1, k1)), .inl x2] := by
  unfold SX3_countMissing at h
  split at h
  · exact ⟨_, _, _, _, rfl⟩
  · exact h.elim
set_option maxRecDepth 10000 in
set_option maxHeartbeats 4000000 in
theorem vX3_countMissing {X : Nat → zB} {Ret : zR} (h0 : ∀ L st σ, tX3_countMissing_0 X Ret L st σ → X 0 L st σ) (h5 : ∀ L st σ, tX3_countMissing_5 X Ret L st σ → X 5 L st σ) (k0 : Nat) (n1 k1 : Nat) (x2 : Int) (σ : zM) (hk0 : z_kd k0 = (3, 0)) (hk1 : z_kd k1 = (100, n1)) (hx2 : -2147483648 ≤ x2 ∧ x2 ≤ 2147483647) (hσ : z_okm σ) (h : SX3_countMissing [.inr (.inr (3, 0, k0)), .inr (.inr (100, n1, k1)), .inl x2] σ Ret) : X 0 [some (.inr (.inr (3, 0, k0))), some (.inr (.inr (100, n1, k1))), some (.inl x2), none, none] [] σ := by
  obtain ⟨⟨ok, m0, m1⟩, h⟩ := h
  obtain ⟨n, rfl⟩ := z_nat m0
  simp only [Int.toNat_natCast] at h
  obtain ⟨N, hN⟩ : ∃ N : Nat, N = 4096 := ⟨_, rfl⟩
  rw [← hN] at h
  generalize hf : (fun s => q_one (q_P σ k0 k1 n s)) = f at h
  have fe : ∀ s : Nat, f s = if q_left s (σ (k0 + 1)) (σ k1) (fun i => (σ (k0 + 2) i).toNat) (σ k0 3).toNat n = true then 1 else 0 := fun s => by rw [← hf]; rfl
  have hb := z_sumf_01 f (fun i => by rw [fe]; split <;> simp)
  have L5 : ∀ (d s : Nat), s + d = N → X 5 [some (.inr (.inr (3, 0, k0))), some (.inr (.inr (100, n1, k1))), some (.inl (n : Int)), some (.inl (z_sumf f s)), some (.inl (s : Int))] [] σ := by
    intro d
    induction d with
    | zero =>
      intro s hs
      have e : s = N := by omega
      subst e
      refine h5 _ _ _ ?_
      simp only [z_push, z_lpush, z_iload, z_lload, z_aload, z_istore, z_istoreP, z_lstore, z_astore, z_iinc, z_iincP, z_iadd, z_isub, z_imul, z_iaddW, z_isubW, z_imulW, z_idiv, z_irem, z_iand, z_ior, z_ixor, z_ishl, z_ishr, z_iushr, z_ineg, z_i2l, z_i2b, z_i2s, z_i2c, z_l2i, z_ladd, z_lsub, z_land, z_lor, z_lshl, z_lshr, z_lcmp, z_dup, z_pop, z_dup2, z_goto, z_tsw, z_cases, z_geti, z_getr, z_puti, z_putz, z_ald, z_iast, z_bast, z_zast, z_alen, z_acopy, z_mmax, z_mmin, z_mabs, z_mabsL, z_iret, z_zret, z_nret, z_lret, z_aret, z_vret, z_cat, z_ldcs, z_strv, z_strc, z_gcs, z_gfm, z_sln, z_sald, z_ifeq, z_ifne, z_iflt, z_ifge, z_ifgt, z_ifle, z_iceq, z_icne, z_iclt, z_icge, z_icgt, z_icle, z_cs0, z_cs1, z_cs2, z_cs3, z_cs4, z_cs5, z_cs6, z_cs7, z_cv0, z_cv1, z_cv2, z_cv3, z_cv4, z_cv5, z_cv6, z_cv7, z_g0, z_s0, z_g1, z_s1, z_g2, z_s2, z_g3, z_s3, z_g4, z_s4, z_g5, z_s5, z_g6, z_s6, z_g7, z_s7, z_g8, z_s8, z_g9, z_s9, z_g10, z_s10, z_g11, z_s11, z_g12, z_s12, z_g13, z_s13, z_b0, z_b1, z_b0n, z_b1n, z_up_far1, z_up_far2, z_up_far3, z_up_far4, z_up_far5, z_up_far6, Classical.not_not, not_true_eq_false, z_in, z_inL, Int.cast_ofNat_Int, Nat.reduceLeDiff, List.length_cons, List.length_nil, Nat.reduceAdd, Nat.zero_add, Nat.le_refl, true_and, and_true, List.length, Nat.reduceLT, true_or, or_true, false_or, or_false, false_and, and_false, not_true_eq_false, not_false_eq_true, forall_const, false_implies, true_implies, Int.reduceEq, Int.reduceLT, Int.reduceLE, Int.reduceAdd, Int.reduceSub, Int.reduceMul, Int.reduceNeg, Int.reduceToNat, Int.toNat_natCast, ↓reduceIte, reduceIte, Nat.reduceEqDiff, Nat.reduceSub, Nat.reduceMul, ne_eq, Int.zero_add, Int.add_zero, Int.sub_zero, Nat.add_zero, Int.ofNat_eq_natCast, tX3_countMissing_5]
      repeat' (first | (intro _) | (with_reducible assumption) | (refine And.intro ?_ ?_))
      all_goals first | omega | assumption | (refine z_fin h ?_ rfl; first | rfl | omega | (split <;> omega) | (split <;> split <;> omega)) | skip
    | succ d ih =>
      intro s hs
      have hb1 := hb s
      have e1 := ih (s + 1) (by omega)
      rw [z_sumf, fe] at e1
      refine h5 _ _ _ ?_
      simp only [z_push, z_lpush, z_iload, z_lload, z_aload, z_istore, z_istoreP, z_lstore, z_astore, z_iinc, z_iincP, z_iadd, z_isub, z_imul, z_iaddW, z_isubW, z_imulW, z_idiv, z_irem, z_iand, z_ior, z_ixor, z_ishl, z_ishr, z_iushr, z_ineg, z_i2l, z_i2b, z_i2s, z_i2c, z_l2i, z_ladd, z_lsub, z_land, z_lor, z_lshl, z_lshr, z_lcmp, z_dup, z_pop, z_dup2, z_goto, z_tsw, z_cases, z_geti, z_getr, z_puti, z_putz, z_ald, z_iast, z_bast, z_zast, z_alen, z_acopy, z_mmax, z_mmin, z_mabs, z_mabsL, z_iret, z_zret, z_nret, z_lret, z_aret, z_vret, z_cat, z_ldcs, z_strv, z_strc, z_gcs, z_gfm, z_sln, z_sald, z_ifeq, z_ifne, z_iflt, z_ifge, z_ifgt, z_ifle, z_iceq, z_icne, z_iclt, z_icge, z_icgt, z_icle, z_cs0, z_cs1, z_cs2, z_cs3, z_cs4, z_cs5, z_cs6, z_cs7, z_cv0, z_cv1, z_cv2, z_cv3, z_cv4, z_cv5, z_cv6, z_cv7, z_g0, z_s0, z_g1, z_s1, z_g2, z_s2, z_g3, z_s3, z_g4, z_s4, z_g5, z_s5, z_g6, z_s6, z_g7, z_s7, z_g8, z_s8, z_g9, z_s9, z_g10, z_s10, z_g11, z_s11, z_g12, z_s12, z_g13, z_s13, z_b0, z_b1, z_b0n, z_b1n, z_up_far1, z_up_far2, z_up_far3, z_up_far4, z_up_far5, z_up_far6, Classical.not_not, not_true_eq_false, z_in, z_inL, Int.cast_ofNat_Int, Nat.reduceLeDiff, List.length_cons, List.length_nil, Nat.reduceAdd, Nat.zero_add, Nat.le_refl, true_and, and_true, List.length, Nat.reduceLT, true_or, or_true, false_or, or_false, false_and, and_false, not_true_eq_false, not_false_eq_true, forall_const, false_implies, true_implies, Int.reduceEq, Int.reduceLT, Int.reduceLE, Int.reduceAdd, Int.reduceSub, Int.reduceMul, Int.reduceNeg, Int.reduceToNat, Int.toNat_natCast, ↓reduceIte, reduceIte, Nat.reduceEqDiff, Nat.reduceSub, Nat.reduceMul, ne_eq, Int.zero_add, Int.add_zero, Int.sub_zero, Nat.add_zero, Int.ofNat_eq_natCast, tX3_countMissing_5, SX3_isLeftBy]
      repeat' (first | (intro _) | (with_reducible assumption) | (refine And.intro ?_ ?_))
      all_goals first | omega | assumption | (refine z_fin h ?_ rfl; first | rfl | omega | (split <;> omega) | (split <;> split <;> omega)) | skip
      all_goals
        rename_i q
        simp only [q, if_true, if_false, Bool.false_eq_true, not_false_eq_true, Int.add_zero] at e1
        exact e1
  refine h0 _ _ _ ?_
  simp only [z_push, z_lpush, z_iload, z_lload, z_aload, z_istore, z_istoreP, z_lstore, z_astore, z_iinc, z_iincP, z_iadd, z_isub, z_imul, z_iaddW, z_isubW, z_imulW, z_idiv, z_irem, z_iand, z_ior, z_ixor, z_ishl, z_ishr, z_iushr, z_ineg, z_i2l, z_i2b, z_i2s, z_i2c, z_l2i, z_ladd, z_lsub, z_land, z_lor, z_lshl, z_lshr, z_lcmp, z_dup, z_pop, z_dup2, z_goto, z_tsw, z_cases, z_geti, z_getr, z_puti, z_putz, z_ald, z_iast, z_bast, z_zast, z_alen, z_acopy, z_mmax, z_mmin, z_mabs, z_mabsL, z_iret, z_zret, z_nret, z_lret, z_aret, z_vret, z_cat, z_ldcs, z_strv, z_strc, z_gcs, z_gfm, z_sln, z_sald, z_ifeq, z_ifne, z_iflt, z_ifge, z_ifgt, z_ifle, z_iceq, z_icne, z_iclt, z_icge, z_icgt, z_icle, z_cs0, z_cs1, z_cs2, z_cs3, z_cs4, z_cs5, z_cs6, z_cs7, z_cv0, z_cv1, z_cv2, z_cv3, z_cv4, z_cv5, z_cv6, z_cv7, z_g0, z_s0, z_g1, z_s1, z_g2, z_s2, z_g3, z_s3, z_g4, z_s4, z_g5, z_s5, z_g6, z_s6, z_g7, z_s7, z_g8, z_s8, z_g9, z_s9, z_g10, z_s10, z_g11, z_s11, z_g12, z_s12, z_g13, z_s13, z_b0, z_b1, z_b0n, z_b1n, z_up_far1, z_up_far2, z_up_far3, z_up_far4, z_up_far5, z_up_far6, Classical.not_not, not_true_eq_false, z_in, z_inL, Int.cast_ofNat_Int, Nat.reduceLeDiff, List.length_cons, List.length_nil, Nat.reduceAdd, Nat.zero_add, Nat.le_refl, true_and, and_true, List.length, Nat.reduceLT, true_or, or_true, false_or, or_false, false_and, and_false, not_true_eq_false, not_false_eq_true, forall_const, false_implies, true_implies, Int.reduceEq, Int.reduceLT, Int.reduceLE, Int.reduceAdd, Int.reduceSub, Int.reduceMul, Int.reduceNeg, Int.reduceToNat, Int.toNat_natCast, ↓reduceIte, reduceIte, Nat.reduceEqDiff, Nat.reduceSub, Nat.reduceMul, ne_eq, Int.zero_add, Int.add_zero, Int.sub_zero, Nat.add_zero, Int.ofNat_eq_natCast, tX3_countMissing_0]
  exact L5 N 0 (by omega)
theorem dX3_countMissing_0 : decode cX3_countMissing 0 = .ok (.iconst 0, 1) := by decide +kernel
theorem dX3_countMissing_1 : decode cX3_countMissing 1 = .ok (.istore_n 3, 1) := by decide +kernel
theorem dX3_countMissing_2 : decode cX3_countMissing 2 = .ok (.iconst 0, 1) := by decide +kernel
theorem dX3_countMissing_3 : decode cX3_countMissing 3 = .ok (.istore 4, 2) := by decide +kernel
theorem dX3_countMissing_5 : decode cX3_countMissing 5 = .ok (.iload 4, 2) := by decide +kernel
theorem dX3_countMissing_7 : decode cX3_countMissing 7 = .ok (.sipush 4096, 3) := by decide +kernel
theorem dX3_countMissing_10 : decode cX3_countMissing 10 = .ok (.if_icmp .ge 28, 3) := by decide +kernel
theorem dX3_countMissing_13 : decode cX3_countMissing 13 = .ok (.iload_n 3, 1) := by decide +kernel
theorem dX3_countMissing_14 : decode cX3_countMissing 14 = .ok (.aload_n 0, 1) := by decide +kernel
theorem dX3_countMissing_15 : decode cX3_countMissing 15 = .ok (.iload 4, 2) := by decide +kernel
theorem dX3_countMissing_17 : decode cX3_countMissing 17 = .ok (.aload_n 1, 1) := by decide +kernel
theorem dX3_countMissing_18 : decode cX3_countMissing 18 = .ok (.iload_n 2, 1) := by decide +kernel
theorem dX3_countMissing_19 : decode cX3_countMissing 19 = .ok (.invokevirtual 58, 3) := by decide +kernel
theorem dX3_countMissing_22 : decode cX3_countMissing 22 = .ok (.ifCond .eq 7, 3) := by decide +kernel
theorem dX3_countMissing_25 : decode cX3_countMissing 25 = .ok (.iconst 1, 1) := by decide +kernel
theorem dX3_countMissing_26 : decode cX3_countMissing 26 = .ok (.goto 4, 3) := by decide +kernel
theorem dX3_countMissing_29 : decode cX3_countMissing 29 = .ok (.iconst 0, 1) := by decide +kernel
theorem dX3_countMissing_30 : decode cX3_countMissing 30 = .ok (.iadd, 1) := by decide +kernel
theorem dX3_countMissing_31 : decode cX3_countMissing 31 = .ok (.istore_n 3, 1) := by decide +kernel
theorem dX3_countMissing_32 : decode cX3_countMissing 32 = .ok (.iinc 4 1, 3) := by decide +kernel
theorem dX3_countMissing_35 : decode cX3_countMissing 35 = .ok (.goto (-30), 3) := by decide +kernel
theorem dX3_countMissing_38 : decode cX3_countMissing 38 = .ok (.iload_n 3, 1) := by decide +kernel
theorem dX3_countMissing_39 : decode cX3_countMissing 39 = .ok (.ireturn, 1) := by decide +kernel
set_option maxRecDepth 100000 in
theorem rX3_countMissing_0 {p : Program} {l : Launch} {e : Env} {s : State} {m : MethodId} {args : Array Value} {below : List Frame} {meth : Method} {c : Code} {D : va_G} {cA : Nat → ClassId} {ad : Nat → Nat} {Ret : zR} (C : z_Cx p { frames := 2, cells := 0, slots := 0, locals := 46 } s m args c cX3_countMissing yX3_countMissing.cls 5 D cA ad) (hr : meth.sig.returnType = (some .int)) (hlocks : meth.locks = false) : ∀ L st σ, tX3_countMissing_0 (z_X p l e { frames := 2, cells := 0, slots := 0, locals := 46 } s m args below meth c (MQ below (z_Qc D cA ad Ret) args s 0 0 (z_A ad)) 5 D cA ad true) Ret L st σ → z_X p l e { frames := 2, cells := 0, slots := 0, locals := 46 } s m args below meth c (MQ below (z_Qc D cA ad Ret) args s 0 0 (z_A ad)) 5 D cA ad true 0 L st σ := (s_iconst C dX3_countMissing_0 rfl ⟨by decide, by decide⟩ (s_istore_n C dX3_countMissing_1 (by decide) rfl rfl (s_iconst C dX3_countMissing_2 rfl ⟨by decide, by decide⟩ (s_istore C dX3_countMissing_3 (by decide) rfl (fun _ _ _ h => h)))))
set_option maxRecDepth 100000 in
theorem rX3_countMissing_5 {p : Program} {l : Launch} {e : Env} {s : State} {m : MethodId} {args : Array Value} {below : List Frame} {meth : Method} {c : Code} {D : va_G} {cA : Nat → ClassId} {ad : Nat → Nat} {Ret : zR} (C : z_Cx p { frames := 2, cells := 0, slots := 0, locals := 46 } s m args c cX3_countMissing yX3_countMissing.cls 5 D cA ad) (hr : meth.sig.returnType = (some .int)) (hlocks : meth.locks = false) : ∀ L st σ, tX3_countMissing_5 (z_X p l e { frames := 2, cells := 0, slots := 0, locals := 46 } s m args below meth c (MQ below (z_Qc D cA ad Ret) args s 0 0 (z_A ad)) 5 D cA ad true) Ret L st σ → z_X p l e { frames := 2, cells := 0, slots := 0, locals := 46 } s m args below meth c (MQ below (z_Qc D cA ad Ret) args s 0 0 (z_A ad)) 5 D cA ad true 5 L st σ := (s_iload C dX3_countMissing_5 (s_sipush C dX3_countMissing_7 rfl ⟨by decide, by decide⟩ (s_icge C dX3_countMissing_10 (by decide) (s_iload_n C dX3_countMissing_38 rfl (s_iret C dX3_countMissing_39 hr hlocks)) (s_iload_n C dX3_countMissing_13 rfl (s_aload_n C dX3_countMissing_14 rfl (s_iload C dX3_countMissing_15 (s_aload_n C dX3_countMissing_17 rfl (s_iload_n C dX3_countMissing_18 rfl (s_cv3 C dX3_countMissing_19 (okX3_isLeftBy l) cls_X3 wd_843 wd_845 wd_21 wd_82 wd_846 ⟨by decide, by decide, by decide +kernel⟩ ⟨by decide, by decide⟩ (s_ifeq C dX3_countMissing_22 (by decide) (s_iconst C dX3_countMissing_29 rfl ⟨by decide, by decide⟩ (s_iadd C dX3_countMissing_30 (s_istore_n C dX3_countMissing_31 (by decide) rfl rfl (s_iinc C dX3_countMissing_32 (by decide) rfl (s_goto C dX3_countMissing_35 (by decide) (fun _ _ _ h => h)))))) (s_iconst C dX3_countMissing_25 rfl ⟨by decide, by decide⟩ (s_goto C dX3_countMissing_26 (by decide) (s_iadd C dX3_countMissing_30 (s_istore_n C dX3_countMissing_31 (by decide) rfl rfl (s_iinc C dX3_countMissing_32 (by decide) rfl (s_goto C dX3_countMissing_35 (by decide) (fun _ _ _ h => h)))))))))))))))))
theorem okX3_countMissing (l : Launch) : z_OK l yX3_countMissing cX3_countMissing 5 (some .int) 2 46 SX3_countMissing := by
  refine z_ok_of true (by decide +kernel) ?_ ?_
  · intro as σ Ret h
    obtain ⟨k0, n1, k1, x2, rfl⟩ := pX3_countMissing h
    exact ⟨Nat.le_of_ble_eq_true rfl, by simp⟩
  · intro p e s m args below meth c D cA ad Ret C hr hlocks as σ has hσ h
    obtain ⟨k0, n1, k1, x2, rfl⟩ := pX3_countMissing h
    exact vX3_countMissing (rX3_countMissing_0 C hr hlocks) (rX3_countMissing_5 C hr hlocks) k0 n1 k1 x2 σ (has _ (List.mem_of_getElem? (i := 0) rfl)) (has _ (List.mem_of_getElem? (i := 1) rfl)) (has _ (List.mem_of_getElem? (i := 2) rfl)) hσ h
def q_nth (P : Nat → Bool) (i : Int) : Nat → Option Nat
  | 0 => none
  | s + 1 => match q_nth P i s with
    | some r => some r
    | none => if P s = true ∧ z_sumf (fun s => q_one (P s)) s = i then some s else none
theorem q_nth_some {P : Nat → Bool} {i : Int} {s r : Nat} (e : q_nth P i s = some r) : ∀ d : Nat, q_nth P i (s + d) = some r
  | 0 => e
  | d + 1 => by
    show q_nth P i (s + d + 1) = some r
    unfold q_nth
    rw [q_nth_some e d]
def q_nthI (o : Option Nat) : Int := match o with
  | some r => r
  | none => -1000000
def SX3_missingSet : zS := fun as σ Ret => match as with
  | [.inr (.inr (3, 0, e)), .inr (.inr (100, n2, k2)), .inl n, .inl i] => (q_eok σ e ∧ 0 ≤ n ∧ n ≤ n2) ∧ Ret (some (.inl (q_nthI (q_nth (q_P σ e k2 n.toNat) i 4096)))) σ
  | _ => False
def tX3_missingSet_0 (X : Nat → zB) (Ret : zR) (L : zL) (st : List zV) (σ : zM) : Prop := (z_push 0 (z_istore 4 (z_push 0 (z_istore 5 (X 6))))) L st σ
def tX3_missingSet_6 (X : Nat → zB) (Ret : zR) (L : zL) (st : List zV) (σ : zM) : Prop := (z_iload 5 (z_push 4096 (z_icge (z_push (-1000000) (z_iret Ret)) (z_aload 0 (z_iload 5 (z_aload 1 (z_iload 2 (z_cv3 3 SX3_isLeftBy (z_ifeq (z_iinc 5 1 (z_goto (X 6))) (z_iload 4 (z_iload 3 (z_icne (z_iinc 4 1 (z_iinc 5 1 (z_goto (X 6)))) (z_iload 5 (z_iret Ret)))))))))))))) L st σ
theorem pX3_missingSet {as : List zV} {σ : zM} {Ret : zR} (h : SX3_missingSet as σ Ret) : ∃ (k0 : Nat) (n1 k1 : Nat) (x2 : Int) (x3 : Int), as = [.inr (.inr (3, 0, k0)), .inr (.inr (100, n1, k1)), .inl x2, .inl x3] := by
  unfold SX3_missingSet at h
  split at h
  · exact ⟨_, _, _, _, _, rfl⟩
  · exact h.elim
set_option maxRecDepth 10000 in
set_option maxHeartbeats 4000000 in
theorem vX3_missingSet {X : Nat → zB} {Ret : zR} (h0 : ∀ L st σ, tX3_missingSet_0 X Ret L st σ → X 0 L st σ) (h6 : ∀ L st σ, tX3_missingSet_6 X Ret L st σ → X 6 L st σ) (k0 : Nat) (n1 k1 : Nat) (x2 : Int) (x3 : Int) (σ : zM) (hk0 : z_kd k0 = (3, 0)) (hk1 : z_kd k1 = (100, n1)) (hx2 : -2147483648 ≤ x2 ∧ x2 ≤ 2147483647) (hx3 : -2147483648 ≤ x3 ∧ x3 ≤ 2147483647) (hσ : z_okm σ) (h : SX3_missingSet [.inr (.inr (3, 0, k0)), .inr (.inr (100, n1, k1)), .inl x2, .inl x3] σ Ret) : X 0 [some (.inr (.inr (3, 0, k0))), some (.inr (.inr (100, n1, k1))), some (.inl x2), some (.inl x3), none, none] [] σ := by
  obtain ⟨⟨ok, m0, m1⟩, h⟩ := h
  obtain ⟨n, rfl⟩ := z_nat m0
  simp only [Int.toNat_natCast] at h
  obtain ⟨N, hN⟩ : ∃ N : Nat, N = 4096 := ⟨_, rfl⟩
  rw [← hN] at h
  generalize hP : q_P σ k0 k1 n = P at h
  have Pe : ∀ s : Nat, q_left s (σ (k0 + 1)) (σ k1) (fun i => (σ (k0 + 2) i).toNat) (σ k0 3).toNat n = P s := fun s => by rw [← hP]; rfl
  generalize hf : (fun s => q_one (P s)) = f at h
  have fe : ∀ s : Nat, f s = if P s = true then 1 else 0 := fun s => by rw [← hf]; rfl
  have hb := z_sumf_01 f (fun i => by rw [fe]; split <;> simp)
  have L6 : ∀ (d s : Nat), s + d = N → q_nth P x3 s = none → X 6 [some (.inr (.inr (3, 0, k0))), some (.inr (.inr (100, n1, k1))), some (.inl (n : Int)), some (.inl x3), some (.inl (z_sumf f s)), some (.inl (s : Int))] [] σ := by
    intro d
    induction d with
    | zero =>
      intro s hs hn
      have e : s = N := by omega
      subst e
      rw [hn] at h
      refine h6 _ _ _ ?_
      simp only [z_push, z_lpush, z_iload, z_lload, z_aload, z_istore, z_istoreP, z_lstore, z_astore, z_iinc, z_iincP, z_iadd, z_isub, z_imul, z_iaddW, z_isubW, z_imulW, z_idiv, z_irem, z_iand, z_ior, z_ixor, z_ishl, z_ishr, z_iushr, z_ineg, z_i2l, z_i2b, z_i2s, z_i2c, z_l2i, z_ladd, z_lsub, z_land, z_lor, z_lshl, z_lshr, z_lcmp, z_dup, z_pop, z_dup2, z_goto, z_tsw, z_cases, z_geti, z_getr, z_puti, z_putz, z_ald, z_iast, z_bast, z_zast, z_alen, z_acopy, z_mmax, z_mmin, z_mabs, z_mabsL, z_iret, z_zret, z_nret, z_lret, z_aret, z_vret, z_cat, z_ldcs, z_strv, z_strc, z_gcs, z_gfm, z_sln, z_sald, z_ifeq, z_ifne, z_iflt, z_ifge, z_ifgt, z_ifle, z_iceq, z_icne, z_iclt, z_icge, z_icgt, z_icle, z_cs0, z_cs1, z_cs2, z_cs3, z_cs4, z_cs5, z_cs6, z_cs7, z_cv0, z_cv1, z_cv2, z_cv3, z_cv4, z_cv5, z_cv6, z_cv7, z_g0, z_s0, z_g1, z_s1, z_g2, z_s2, z_g3, z_s3, z_g4, z_s4, z_g5, z_s5, z_g6, z_s6, z_g7, z_s7, z_g8, z_s8, z_g9, z_s9, z_g10, z_s10, z_g11, z_s11, z_g12, z_s12, z_g13, z_s13, z_b0, z_b1, z_b0n, z_b1n, z_up_far1, z_up_far2, z_up_far3, z_up_far4, z_up_far5, z_up_far6, Classical.not_not, not_true_eq_false, z_in, z_inL, Int.cast_ofNat_Int, Nat.reduceLeDiff, List.length_cons, List.length_nil, Nat.reduceAdd, Nat.zero_add, Nat.le_refl, true_and, and_true, List.length, Nat.reduceLT, true_or, or_true, false_or, or_false, false_and, and_false, not_true_eq_false, not_false_eq_true, forall_const, false_implies, true_implies, Int.reduceEq, Int.reduceLT, Int.reduceLE, Int.reduceAdd, Int.reduceSub, Int.reduceMul, Int.reduceNeg, Int.reduceToNat, Int.toNat_natCast, ↓reduceIte, reduceIte, Nat.reduceEqDiff, Nat.reduceSub, Nat.reduceMul, ne_eq, Int.zero_add, Int.add_zero, Int.sub_zero, Nat.add_zero, Int.ofNat_eq_natCast, tX3_missingSet_6]
      repeat' (first | (intro _) | (with_reducible assumption) | (refine And.intro ?_ ?_))
      all_goals first | omega | assumption | (refine z_fin h ?_ rfl; first | rfl | omega | (split <;> omega) | (split <;> split <;> omega)) | skip
    | succ d ih =>
      intro s hs hn
      have hb1 := hb s
      have st : q_nth P x3 (s + 1) = if P s = true ∧ z_sumf f s = x3 then some s else none := by rw [q_nth, hn]; simp only [hf]
      have e1 := ih (s + 1) (by omega)
      rw [z_sumf, fe] at e1
      have fnd : P s = true ∧ z_sumf f s = x3 → Ret (some (.inl (s : Int))) σ := by
        intro q
        rw [if_pos q] at st
        have e2 := q_nth_some st d
        rw [show s + 1 + d = N by omega] at e2
        rw [e2] at h
        exact h
      by_cases hp : P s = true
      · refine h6 _ _ _ ?_
        simp only [z_push, z_lpush, z_iload, z_lload, z_aload, z_istore, z_istoreP, z_lstore, z_astore, z_iinc, z_iincP, z_iadd, z_isub, z_imul, z_iaddW, z_isubW, z_imulW, z_idiv, z_irem, z_iand, z_ior, z_ixor, z_ishl, z_ishr, z_iushr, z_ineg, z_i2l, z_i2b, z_i2s, z_i2c, z_l2i, z_ladd, z_lsub, z_land, z_lor, z_lshl, z_lshr, z_lcmp, z_dup, z_pop, z_dup2, z_goto, z_tsw, z_cases, z_geti, z_getr, z_puti, z_putz, z_ald, z_iast, z_bast, z_zast, z_alen, z_acopy, z_mmax, z_mmin, z_mabs, z_mabsL, z_iret, z_zret, z_nret, z_lret, z_aret, z_vret, z_cat, z_ldcs, z_strv, z_strc, z_gcs, z_gfm, z_sln, z_sald, z_ifeq, z_ifne, z_iflt, z_ifge, z_ifgt, z_ifle, z_iceq, z_icne, z_iclt, z_icge, z_icgt, z_icle, z_cs0, z_cs1, z_cs2, z_cs3, z_cs4, z_cs5, z_cs6, z_cs7, z_cv0, z_cv1, z_cv2, z_cv3, z_cv4, z_cv5, z_cv6, z_cv7, z_g0, z_s0, z_g1, z_s1, z_g2, z_s2, z_g3, z_s3, z_g4, z_s4, z_g5, z_s5, z_g6, z_s6, z_g7, z_s7, z_g8, z_s8, z_g9, z_s9, z_g10, z_s10, z_g11, z_s11, z_g12, z_s12, z_g13, z_s13, z_b0, z_b1, z_b0n, z_b1n, z_up_far1, z_up_far2, z_up_far3, z_up_far4, z_up_far5, z_up_far6, Classical.not_not, not_true_eq_false, z_in, z_inL, Int.cast_ofNat_Int, Nat.reduceLeDiff, List.length_cons, List.length_nil, Nat.reduceAdd, Nat.zero_add, Nat.le_refl, true_and, and_true, List.length, Nat.reduceLT, true_or, or_true, false_or, or_false, false_and, and_false, not_true_eq_false, not_false_eq_true, forall_const, false_implies, true_implies, Int.reduceEq, Int.reduceLT, Int.reduceLE, Int.reduceAdd, Int.reduceSub, Int.reduceMul, Int.reduceNeg, Int.reduceToNat, Int.toNat_natCast, ↓reduceIte, reduceIte, Nat.reduceEqDiff, Nat.reduceSub, Nat.reduceMul, ne_eq, Int.zero_add, Int.add_zero, Int.sub_zero, Nat.add_zero, Int.ofNat_eq_natCast, tX3_missingSet_6, SX3_isLeftBy, Pe, hp]
        repeat' (first | (intro _) | (with_reducible assumption) | (refine And.intro ?_ ?_))
        all_goals first | omega | assumption | (refine z_fin h ?_ rfl; first | rfl | omega | (split <;> omega) | (split <;> split <;> omega)) | skip
        · rename_i q
          have e2 := e1 (by rw [st, if_neg (fun z => q z.2)])
          rw [if_pos hp] at e2
          exact e2
        · rename_i q
          exact fnd ⟨hp, q⟩
      · have hp2 : P s = false := by simpa using hp
        refine h6 _ _ _ ?_
        simp only [z_push, z_lpush, z_iload, z_lload, z_aload, z_istore, z_istoreP, z_lstore, z_astore, z_iinc, z_iincP, z_iadd, z_isub, z_imul, z_iaddW, z_isubW, z_imulW, z_idiv, z_irem, z_iand, z_ior, z_ixor, z_ishl, z_ishr, z_iushr, z_ineg, z_i2l, z_i2b, z_i2s, z_i2c, z_l2i, z_ladd, z_lsub, z_land, z_lor, z_lshl, z_lshr, z_lcmp, z_dup, z_pop, z_dup2, z_goto, z_tsw, z_cases, z_geti, z_getr, z_puti, z_putz, z_ald, z_iast, z_bast, z_zast, z_alen, z_acopy, z_mmax, z_mmin, z_mabs, z_mabsL, z_iret, z_zret, z_nret, z_lret, z_aret, z_vret, z_cat, z_ldcs, z_strv, z_strc, z_gcs, z_gfm, z_sln, z_sald, z_ifeq, z_ifne, z_iflt, z_ifge, z_ifgt, z_ifle, z_iceq, z_icne, z_iclt, z_icge, z_icgt, z_icle, z_cs0, z_cs1, z_cs2, z_cs3, z_cs4, z_cs5, z_cs6, z_cs7, z_cv0, z_cv1, z_cv2, z_cv3, z_cv4, z_cv5, z_cv6, z_cv7, z_g0, z_s0, z_g1, z_s1, z_g2, z_s2, z_g3, z_s3, z_g4, z_s4, z_g5, z_s5, z_g6, z_s6, z_g7, z_s7, z_g8, z_s8, z_g9, z_s9, z_g10, z_s10, z_g11, z_s11, z_g12, z_s12, z_g13, z_s13, z_b0, z_b1, z_b0n, z_b1n, z_up_far1, z_up_far2, z_up_far3, z_up_far4, z_up_far5, z_up_far6, Classical.not_not, not_true_eq_false, z_in, z_inL, Int.cast_ofNat_Int, Nat.reduceLeDiff, List.length_cons, List.length_nil, Nat.reduceAdd, Nat.zero_add, Nat.le_refl, true_and, and_true, List.length, Nat.reduceLT, true_or, or_true, false_or, or_false, false_and, and_false, not_true_eq_false, not_false_eq_true, forall_const, false_implies, true_implies, Int.reduceEq, Int.reduceLT, Int.reduceLE, Int.reduceAdd, Int.reduceSub, Int.reduceMul, Int.reduceNeg, Int.reduceToNat, Int.toNat_natCast, ↓reduceIte, reduceIte, Nat.reduceEqDiff, Nat.reduceSub, Nat.reduceMul, ne_eq, Int.zero_add, Int.add_zero, Int.sub_zero, Nat.add_zero, Int.ofNat_eq_natCast, tX3_missingSet_6, SX3_isLeftBy, Pe, hp2, Bool.false_eq_true]
        repeat' (first | (intro _) | (with_reducible assumption) | (refine And.intro ?_ ?_))
        all_goals first | omega | assumption | (refine z_fin h ?_ rfl; first | rfl | omega | (split <;> omega) | (split <;> split <;> omega)) | skip
        have e2 := e1 (by rw [st, if_neg (fun z => hp z.1)])
        rw [if_neg hp, Int.add_zero] at e2
        exact e2
  refine h0 _ _ _ ?_
  simp only [z_push, z_lpush, z_iload, z_lload, z_aload, z_istore, z_istoreP, z_lstore, z_astore, z_iinc, z_iincP, z_iadd, z_isub, z_imul, z_iaddW, z_isubW, z_imulW, z_idiv, z_irem, z_iand, z_ior, z_ixor, z_ishl, z_ishr, z_iushr, z_ineg, z_i2l, z_i2b, z_i2s, z_i2c, z_l2i, z_ladd, z_lsub, z_land, z_lor, z_lshl, z_lshr, z_lcmp, z_dup, z_pop, z_dup2, z_goto, z_tsw, z_cases, z_geti, z_getr, z_puti, z_putz, z_ald, z_iast, z_bast, z_zast, z_alen, z_acopy, z_mmax, z_mmin, z_mabs, z_mabsL, z_iret, z_zret, z_nret, z_lret, z_aret, z_vret, z_cat, z_ldcs, z_strv, z_strc, z_gcs, z_gfm, z_sln, z_sald, z_ifeq, z_ifne, z_iflt, z_ifge, z_ifgt, z_ifle, z_iceq, z_icne, z_iclt, z_icge, z_icgt, z_icle, z_cs0, z_cs1, z_cs2, z_cs3, z_cs4, z_cs5, z_cs6, z_cs7, z_cv0, z_cv1, z_cv2, z_cv3, z_cv4, z_cv5, z_cv6, z_cv7, z_g0, z_s0, z_g1, z_s1, z_g2, z_s2, z_g3, z_s3, z_g4, z_s4, z_g5, z_s5, z_g6, z_s6, z_g7, z_s7, z_g8, z_s8, z_g9, z_s9, z_g10, z_s10, z_g11, z_s11, z_g12, z_s12, z_g13, z_s13, z_b0, z_b1, z_b0n, z_b1n, z_up_far1, z_up_far2, z_up_far3, z_up_far4, z_up_far5, z_up_far6, Classical.not_not, not_true_eq_false, z_in, z_inL, Int.cast_ofNat_Int, Nat.reduceLeDiff, List.length_cons, List.length_nil, Nat.reduceAdd, Nat.zero_add, Nat.le_refl, true_and, and_true, List.length, Nat.reduceLT, true_or, or_true, false_or, or_false, false_and, and_false, not_true_eq_false, not_false_eq_true, forall_const, false_implies, true_implies, Int.reduceEq, Int.reduceLT, Int.reduceLE, Int.reduceAdd, Int.reduceSub, Int.reduceMul, Int.reduceNeg, Int.reduceToNat, Int.toNat_natCast, ↓reduceIte, reduceIte, Nat.reduceEqDiff, Nat.reduceSub, Nat.reduceMul, ne_eq, Int.zero_add, Int.add_zero, Int.sub_zero, Nat.add_zero, Int.ofNat_eq_natCast, tX3_missingSet_0]
  exact L6 N 0 (by omega) rfl
theorem dX3_missingSet_0 : decode cX3_missingSet 0 = .ok (.iconst 0, 1) := by decide +kernel
theorem dX3_missingSet_1 : decode cX3_missingSet 1 = .ok (.istore 4, 2) := by decide +kernel
theorem dX3_missingSet_3 : decode cX3_missingSet 3 = .ok (.iconst 0, 1) := by decide +kernel
theorem dX3_missingSet_4 : decode cX3_missingSet 4 = .ok (.istore 5, 2) := by decide +kernel
theorem dX3_missingSet_6 : decode cX3_missingSet 6 = .ok (.iload 5, 2) := by decide +kernel
theorem dX3_missingSet_8 : decode cX3_missingSet 8 = .ok (.sipush 4096, 3) := by decide +kernel
theorem dX3_missingSet_11 : decode cX3_missingSet 11 = .ok (.if_icmp .ge 32, 3) := by decide +kernel
theorem dX3_missingSet_14 : decode cX3_missingSet 14 = .ok (.aload_n 0, 1) := by decide +kernel
theorem dX3_missingSet_15 : decode cX3_missingSet 15 = .ok (.iload 5, 2) := by decide +kernel
theorem dX3_missingSet_17 : decode cX3_missingSet 17 = .ok (.aload_n 1, 1) := by decide +kernel
theorem dX3_missingSet_18 : decode cX3_missingSet 18 = .ok (.iload_n 2, 1) := by decide +kernel
theorem dX3_missingSet_19 : decode cX3_missingSet 19 = .ok (.invokevirtual 58, 3) := by decide +kernel
theorem dX3_missingSet_22 : decode cX3_missingSet 22 = .ok (.ifCond .eq 15, 3) := by decide +kernel
theorem dX3_missingSet_25 : decode cX3_missingSet 25 = .ok (.iload 4, 2) := by decide +kernel
theorem dX3_missingSet_27 : decode cX3_missingSet 27 = .ok (.iload_n 3, 1) := by decide +kernel
theorem dX3_missingSet_28 : decode cX3_missingSet 28 = .ok (.if_icmp .ne 6, 3) := by decide +kernel
theorem dX3_missingSet_31 : decode cX3_missingSet 31 = .ok (.iload 5, 2) := by decide +kernel
theorem dX3_missingSet_33 : decode cX3_missingSet 33 = .ok (.ireturn, 1) := by decide +kernel
theorem dX3_missingSet_34 : decode cX3_missingSet 34 = .ok (.iinc 4 1, 3) := by decide +kernel
theorem dX3_missingSet_37 : decode cX3_missingSet 37 = .ok (.iinc 5 1, 3) := by decide +kernel
theorem dX3_missingSet_40 : decode cX3_missingSet 40 = .ok (.goto (-34), 3) := by decide +kernel
theorem dX3_missingSet_43 : decode cX3_missingSet 43 = .ok (.ldc 62, 2) := by decide +kernel
theorem dX3_missingSet_45 : decode cX3_missingSet 45 = .ok (.ireturn, 1) := by decide +kernel
set_option maxRecDepth 100000 in
theorem rX3_missingSet_0 {p : Program} {l : Launch} {e : Env} {s : State} {m : MethodId} {args : Array Value} {below : List Frame} {meth : Method} {c : Code} {D : va_G} {cA : Nat → ClassId} {ad : Nat → Nat} {Ret : zR} (C : z_Cx p { frames := 2, cells := 0, slots := 0, locals := 46 } s m args c cX3_missingSet yX3_missingSet.cls 6 D cA ad) (hr : meth.sig.returnType = (some .int)) (hlocks : meth.locks = false) : ∀ L st σ, tX3_missingSet_0 (z_X p l e { frames := 2, cells := 0, slots := 0, locals := 46 } s m args below meth c (MQ below (z_Qc D cA ad Ret) args s 0 0 (z_A ad)) 6 D cA ad true) Ret L st σ → z_X p l e { frames := 2, cells := 0, slots := 0, locals := 46 } s m args below meth c (MQ below (z_Qc D cA ad Ret) args s 0 0 (z_A ad)) 6 D cA ad true 0 L st σ := (s_iconst C dX3_missingSet_0 rfl ⟨by decide, by decide⟩ (s_istore C dX3_missingSet_1 (by decide) rfl (s_iconst C dX3_missingSet_3 rfl ⟨by decide, by decide⟩ (s_istore C dX3_missingSet_4 (by decide) rfl (fun _ _ _ h => h)))))
set_option maxRecDepth 100000 in
theorem rX3_missingSet_6 {p : Program} {l : Launch} {e : Env} {s : State} {m : MethodId} {args : Array Value} {below : List Frame} {meth : Method} {c : Code} {D : va_G} {cA : Nat → ClassId} {ad : Nat → Nat} {Ret : zR} (C : z_Cx p { frames := 2, cells := 0, slots := 0, locals := 46 } s m args c cX3_missingSet yX3_missingSet.cls 6 D cA ad) (hr : meth.sig.returnType = (some .int)) (hlocks : meth.locks = false) : ∀ L st σ, tX3_missingSet_6 (z_X p l e { frames := 2, cells := 0, slots := 0, locals := 46 } s m args below meth c (MQ below (z_Qc D cA ad Ret) args s 0 0 (z_A ad)) 6 D cA ad true) Ret L st σ → z_X p l e { frames := 2, cells := 0, slots := 0, locals := 46 } s m args below meth c (MQ below (z_Qc D cA ad Ret) args s 0 0 (z_A ad)) 6 D cA ad true 6 L st σ := (s_iload C dX3_missingSet_6 (s_sipush C dX3_missingSet_8 rfl ⟨by decide, by decide⟩ (s_icge C dX3_missingSet_11 (by decide) (s_ldc C dX3_missingSet_43 (v := -1000000) wd_857 ⟨by decide, by decide⟩ (s_iret C dX3_missingSet_45 hr hlocks)) (s_aload_n C dX3_missingSet_14 rfl (s_iload C dX3_missingSet_15 (s_aload_n C dX3_missingSet_17 rfl (s_iload_n C dX3_missingSet_18 rfl (s_cv3 C dX3_missingSet_19 (okX3_isLeftBy l) cls_X3 wd_843 wd_845 wd_21 wd_82 wd_846 ⟨by decide, by decide, by decide +kernel⟩ ⟨by decide, by decide⟩ (s_ifeq C dX3_missingSet_22 (by decide) (s_iinc C dX3_missingSet_37 (by decide) rfl (s_goto C dX3_missingSet_40 (by decide) (fun _ _ _ h => h))) (s_iload C dX3_missingSet_25 (s_iload_n C dX3_missingSet_27 rfl (s_icne C dX3_missingSet_28 (by decide) (s_iinc C dX3_missingSet_34 (by decide) rfl (s_iinc C dX3_missingSet_37 (by decide) rfl (s_goto C dX3_missingSet_40 (by decide) (fun _ _ _ h => h)))) (s_iload C dX3_missingSet_31 (s_iret C dX3_missingSet_33 hr hlocks))))))))))))))
theorem okX3_missingSet (l : Launch) : z_OK l yX3_missingSet cX3_missingSet 6 (some .int) 2 46 SX3_missingSet := by
  refine z_ok_of true (by decide +kernel) ?_ ?_
  · intro as σ Ret h
    obtain ⟨k0, n1, k1, x2, x3, rfl⟩ := pX3_missingSet h
    exact ⟨Nat.le_of_ble_eq_true rfl, by simp⟩
  · intro p e s m args below meth c D cA ad Ret C hr hlocks as σ has hσ h
    obtain ⟨k0, n1, k1, x2, x3, rfl⟩ := pX3_missingSet h
    exact vX3_missingSet (rX3_missingSet_0 C hr hlocks) (rX3_missingSet_6 C hr hlocks) k0 n1 k1 x2 x3 σ (has _ (List.mem_of_getElem? (i := 0) rfl)) (has _ (List.mem_of_getElem? (i := 1) rfl)) (has _ (List.mem_of_getElem? (i := 2) rfl)) (has _ (List.mem_of_getElem? (i := 3) rfl)) hσ h
