/-! how likely it plays: both -/
def q_plA (D : Nat → Int) (x t : Int) : Nat → Int
  | 0 => 0
  | n + 1 => q_plA D x t n + if q_slD D n t ≤ x then D (78 + 3 * n + 2) else 0
def q_plB (D : Nat → Int) : Nat → Int
  | 0 => 0
  | n + 1 => q_plB D n + D (78 + 3 * n + 2)
theorem q_pl_in {D : Nat → Int} (k : q_Dok D) {x t : Int} : ∀ n : Nat, (n : Int) ≤ D 1 → 0 ≤ q_plA D x t n ∧ q_plA D x t n ≤ q_plB D n ∧ q_plB D n ≤ 99 * n
  | 0, _ => ⟨Int.le_refl _, Int.le_refl _, by show (0 : Int) ≤ 99 * 0; omega⟩
  | n + 1, h => by
    have ih := q_pl_in k (x := x) (t := t) n (by omega)
    have q := (k.2.2.1 n (by omega)).2.2
    rw [q_plA, q_plB]
    split <;> omega
theorem q_mod_nat (a b : Nat) : ((a : Int).tmod b = ((a % b : Nat) : Int)) ∧ (a : Int).tdiv b = ((a / b : Nat) : Int) := ⟨rfl, rfl⟩
def q_gPlays (x t w : Int) (τ : zM) : Int := if τ 89 7 = 0 then -1000002 else if ¬ ((0 ≤ x ∧ x ≤ 20) ∧ (0 ≤ t ∧ t ≤ 99) ∧ 0 ≤ w ∧ w ≤ 1) then -1000001 else if q_plB (τ 93) (τ 93 1).toNat = 0 then -1000000 else (if w = 0 then q_plA (τ 93) x t (τ 93 1).toNat else q_plB (τ 93) (τ 93 1).toNat).tdiv (Nat.gcd (q_plA (τ 93) x t (τ 93 1).toNat).toNat (q_plB (τ 93) (τ 93 1).toNat).toNat : Int)
def SX9_sharedDivisor : zS := fun as σ Ret => match as with
  | [.inl a, .inl b] => (0 ≤ a ∧ a ≤ b ∧ b ≤ 600) ∧ Ret (some (.inl (Nat.gcd a.toNat b.toNat : Int))) σ
  | _ => False
def tX9_sharedDivisor_0 (X : Nat → zB) (Ret : zR) (L : zL) (st : List zV) (σ : zM) : Prop := (z_iload 1 (z_istore 2 (z_iload 0 (z_istore 3 (z_push 0 (z_istore 4 (X 7))))))) L st σ
def tX9_sharedDivisor_7 (X : Nat → zB) (Ret : zR) (L : zL) (st : List zV) (σ : zM) : Prop := (z_iload 4 (z_push 64 (z_icge (z_iload 2 (z_iret Ret)) (z_iload 3 (z_ifeq (z_iload 2 (z_iret Ret)) (z_iload 2 (z_iload 3 (z_irem (z_istore 5 (z_iload 3 (z_istore 2 (z_iload 5 (z_istore 3 (z_iinc 4 1 (z_goto (X 7)))))))))))))))) L st σ
theorem pX9_sharedDivisor {as : List zV} {σ : zM} {Ret : zR} (h : SX9_sharedDivisor as σ Ret) : ∃ (x1 : Int) (x2 : Int), as = [.inl x1, .inl x2] := by
  unfold SX9_sharedDivisor at h
  split at h
  · exact ⟨_, _, rfl⟩
  · exact h.elim
set_option maxRecDepth 10000 in
set_option maxHeartbeats 4000000 in
theorem vX9_sharedDivisor {X : Nat → zB} {Ret : zR} (h0 : ∀ L st σ, tX9_sharedDivisor_0 X Ret L st σ → X 0 L st σ) (h7 : ∀ L st σ, tX9_sharedDivisor_7 X Ret L st σ → X 7 L st σ) (x1 : Int) (x2 : Int) (σ : zM) (hx1 : -2147483648 ≤ x1 ∧ x1 ≤ 2147483647) (hx2 : -2147483648 ≤ x2 ∧ x2 ≤ 2147483647) (hσ : z_okm σ) (h : SX9_sharedDivisor [.inl x1, .inl x2] σ Ret) : X 0 [some (.inl x1), some (.inl x2), none, none, none, none] [] σ := by
  obtain ⟨⟨c0, c1, c2⟩, h⟩ := h
  obtain ⟨p, rfl⟩ := z_nat c0
  obtain ⟨q, rfl⟩ := z_nat (show 0 ≤ x2 by omega)
  rw [Int.toNat_natCast, Int.toNat_natCast] at h
  have L7 : ∀ (d i a b : Nat) (v : Option zV), i + d = 64 → b ≤ a → a ≤ 600 → a * b < 2 ^ d → Nat.gcd a b = Nat.gcd p q → X 7 [some (.inl (p : Int)), some (.inl (q : Int)), some (.inl (a : Int)), some (.inl (b : Int)), some (.inl (i : Int)), v] [] σ := by
    intro d
    induction d with
    | zero =>
      intro i a b v hi hba ha hab hg
      have hb : b = 0 := by
        rcases Nat.eq_zero_or_pos b with e | e
        · exact e
        · have : 1 * 1 ≤ a * b := Nat.mul_le_mul (by omega) e
          omega
      subst hb
      rw [Nat.gcd_zero_right] at hg
      subst hg
      refine h7 _ _ _ ?_
      simp only [z_push, z_lpush, z_iload, z_lload, z_aload, z_istore, z_istoreP, z_lstore, z_astore, z_iinc, z_iincP, z_iadd, z_isub, z_imul, z_iaddW, z_isubW, z_imulW, z_idiv, z_irem, z_iand, z_ior, z_ixor, z_ishl, z_ishr, z_iushr, z_ineg, z_i2l, z_i2b, z_i2s, z_i2c, z_l2i, z_ladd, z_lsub, z_land, z_lor, z_lshl, z_lshr, z_lcmp, z_dup, z_pop, z_dup2, z_goto, z_tsw, z_cases, z_geti, z_getr, z_puti, z_putz, z_ald, z_iast, z_bast, z_zast, z_alen, z_acopy, z_mmax, z_mmin, z_mabs, z_mabsL, z_iret, z_zret, z_nret, z_lret, z_aret, z_vret, z_cat, z_ldcs, z_strv, z_strc, z_gcs, z_gfm, z_sln, z_sald, z_ifeq, z_ifne, z_iflt, z_ifge, z_ifgt, z_ifle, z_iceq, z_icne, z_iclt, z_icge, z_icgt, z_icle, z_cs0, z_cs1, z_cs2, z_cs3, z_cs4, z_cs5, z_cs6, z_cs7, z_cv0, z_cv1, z_cv2, z_cv3, z_cv4, z_cv5, z_cv6, z_cv7, z_g0, z_s0, z_g1, z_s1, z_g2, z_s2, z_g3, z_s3, z_g4, z_s4, z_g5, z_s5, z_g6, z_s6, z_g7, z_s7, z_g8, z_s8, z_g9, z_s9, z_g10, z_s10, z_g11, z_s11, z_g12, z_s12, z_g13, z_s13, z_b0, z_b1, z_b0n, z_b1n, z_up_far1, z_up_far2, z_up_far3, z_up_far4, z_up_far5, z_up_far6, Classical.not_not, not_true_eq_false, z_in, z_inL, Int.cast_ofNat_Int, Nat.reduceLeDiff, List.length_cons, List.length_nil, Nat.reduceAdd, Nat.zero_add, Nat.le_refl, true_and, and_true, List.length, Nat.reduceLT, true_or, or_true, false_or, or_false, false_and, and_false, not_true_eq_false, not_false_eq_true, forall_const, false_implies, true_implies, Int.reduceEq, Int.reduceLT, Int.reduceLE, Int.reduceAdd, Int.reduceSub, Int.reduceMul, Int.reduceNeg, Int.reduceToNat, Int.toNat_natCast, ↓reduceIte, reduceIte, Nat.reduceEqDiff, Nat.reduceSub, Nat.reduceMul, ne_eq, Int.zero_add, Int.add_zero, Int.sub_zero, Nat.add_zero, Int.ofNat_eq_natCast, tX9_sharedDivisor_7]
      repeat' (first | (intro _) | (with_reducible assumption) | (refine And.intro ?_ ?_))
      all_goals first | omega | assumption | (refine z_fin h ?_ rfl; first | rfl | omega | (split <;> omega) | (split <;> split <;> omega)) | skip
    | succ d ih =>
      intro i a b v hi hba ha hab hg
      by_cases hb : b = 0
      · subst hb
        rw [Nat.gcd_zero_right] at hg
        subst hg
        refine h7 _ _ _ ?_
        simp only [z_push, z_lpush, z_iload, z_lload, z_aload, z_istore, z_istoreP, z_lstore, z_astore, z_iinc, z_iincP, z_iadd, z_isub, z_imul, z_iaddW, z_isubW, z_imulW, z_idiv, z_irem, z_iand, z_ior, z_ixor, z_ishl, z_ishr, z_iushr, z_ineg, z_i2l, z_i2b, z_i2s, z_i2c, z_l2i, z_ladd, z_lsub, z_land, z_lor, z_lshl, z_lshr, z_lcmp, z_dup, z_pop, z_dup2, z_goto, z_tsw, z_cases, z_geti, z_getr, z_puti, z_putz, z_ald, z_iast, z_bast, z_zast, z_alen, z_acopy, z_mmax, z_mmin, z_mabs, z_mabsL, z_iret, z_zret, z_nret, z_lret, z_aret, z_vret, z_cat, z_ldcs, z_strv, z_strc, z_gcs, z_gfm, z_sln, z_sald, z_ifeq, z_ifne, z_iflt, z_ifge, z_ifgt, z_ifle, z_iceq, z_icne, z_iclt, z_icge, z_icgt, z_icle, z_cs0, z_cs1, z_cs2, z_cs3, z_cs4, z_cs5, z_cs6, z_cs7, z_cv0, z_cv1, z_cv2, z_cv3, z_cv4, z_cv5, z_cv6, z_cv7, z_g0, z_s0, z_g1, z_s1, z_g2, z_s2, z_g3, z_s3, z_g4, z_s4, z_g5, z_s5, z_g6, z_s6, z_g7, z_s7, z_g8, z_s8, z_g9, z_s9, z_g10, z_s10, z_g11, z_s11, z_g12, z_s12, z_g13, z_s13, z_b0, z_b1, z_b0n, z_b1n, z_up_far1, z_up_far2, z_up_far3, z_up_far4, z_up_far5, z_up_far6, Classical.not_not, not_true_eq_false, z_in, z_inL, Int.cast_ofNat_Int, Nat.reduceLeDiff, List.length_cons, List.length_nil, Nat.reduceAdd, Nat.zero_add, Nat.le_refl, true_and, and_true, List.length, Nat.reduceLT, true_or, or_true, false_or, or_false, false_and, and_false, not_true_eq_false, not_false_eq_true, forall_const, false_implies, true_implies, Int.reduceEq, Int.reduceLT, Int.reduceLE, Int.reduceAdd, Int.reduceSub, Int.reduceMul, Int.reduceNeg, Int.reduceToNat, Int.toNat_natCast, ↓reduceIte, reduceIte, Nat.reduceEqDiff, Nat.reduceSub, Nat.reduceMul, ne_eq, Int.zero_add, Int.add_zero, Int.sub_zero, Nat.add_zero, Int.ofNat_eq_natCast, tX9_sharedDivisor_7]
        repeat' (first | (intro _) | (with_reducible assumption) | (refine And.intro ?_ ?_))
        all_goals first | omega | assumption | (refine z_fin h ?_ rfl; first | rfl | omega | (split <;> omega) | (split <;> split <;> omega)) | skip
      · have e1 := Nat.mod_add_div a b
        have e2 : b * 1 ≤ b * (a / b) := Nat.mul_le_mul (Nat.le_refl _) (Nat.div_pos hba (by omega))
        have e3 := Nat.mod_lt a (show b > 0 by omega)
        have e4 : b * (2 * (a % b)) ≤ b * a := Nat.mul_le_mul (Nat.le_refl _) (by omega)
        have e5 : b * (2 * (a % b)) = 2 * (b * (a % b)) := by rw [← Nat.mul_assoc, Nat.mul_comm b 2, Nat.mul_assoc]
        have e6 : b * a = a * b := Nat.mul_comm _ _
        have e7 : 2 ^ (d + 1) = 2 * 2 ^ d := by rw [Nat.pow_succ, Nat.mul_comm]
        have nx := fun v => ih (i + 1) b (a % b) v (by omega) (by omega) (by omega) (by omega) (by rw [← hg, Nat.gcd_comm b, ← Nat.gcd_rec, Nat.gcd_comm])
        obtain ⟨m1, m2⟩ := q_mod_nat a b
        have m3 := Nat.div_le_self a b
        have m4 : (0 : Int) ≤ ((a / b : Nat) : Int) := Int.natCast_nonneg _
        refine h7 _ _ _ ?_
        simp only [z_push, z_lpush, z_iload, z_lload, z_aload, z_istore, z_istoreP, z_lstore, z_astore, z_iinc, z_iincP, z_iadd, z_isub, z_imul, z_iaddW, z_isubW, z_imulW, z_idiv, z_irem, z_iand, z_ior, z_ixor, z_ishl, z_ishr, z_iushr, z_ineg, z_i2l, z_i2b, z_i2s, z_i2c, z_l2i, z_ladd, z_lsub, z_land, z_lor, z_lshl, z_lshr, z_lcmp, z_dup, z_pop, z_dup2, z_goto, z_tsw, z_cases, z_geti, z_getr, z_puti, z_putz, z_ald, z_iast, z_bast, z_zast, z_alen, z_acopy, z_mmax, z_mmin, z_mabs, z_mabsL, z_iret, z_zret, z_nret, z_lret, z_aret, z_vret, z_cat, z_ldcs, z_strv, z_strc, z_gcs, z_gfm, z_sln, z_sald, z_ifeq, z_ifne, z_iflt, z_ifge, z_ifgt, z_ifle, z_iceq, z_icne, z_iclt, z_icge, z_icgt, z_icle, z_cs0, z_cs1, z_cs2, z_cs3, z_cs4, z_cs5, z_cs6, z_cs7, z_cv0, z_cv1, z_cv2, z_cv3, z_cv4, z_cv5, z_cv6, z_cv7, z_g0, z_s0, z_g1, z_s1, z_g2, z_s2, z_g3, z_s3, z_g4, z_s4, z_g5, z_s5, z_g6, z_s6, z_g7, z_s7, z_g8, z_s8, z_g9, z_s9, z_g10, z_s10, z_g11, z_s11, z_g12, z_s12, z_g13, z_s13, z_b0, z_b1, z_b0n, z_b1n, z_up_far1, z_up_far2, z_up_far3, z_up_far4, z_up_far5, z_up_far6, Classical.not_not, not_true_eq_false, z_in, z_inL, Int.cast_ofNat_Int, Nat.reduceLeDiff, List.length_cons, List.length_nil, Nat.reduceAdd, Nat.zero_add, Nat.le_refl, true_and, and_true, List.length, Nat.reduceLT, true_or, or_true, false_or, or_false, false_and, and_false, not_true_eq_false, not_false_eq_true, forall_const, false_implies, true_implies, Int.reduceEq, Int.reduceLT, Int.reduceLE, Int.reduceAdd, Int.reduceSub, Int.reduceMul, Int.reduceNeg, Int.reduceToNat, Int.toNat_natCast, ↓reduceIte, reduceIte, Nat.reduceEqDiff, Nat.reduceSub, Nat.reduceMul, ne_eq, Int.zero_add, Int.add_zero, Int.sub_zero, Nat.add_zero, Int.ofNat_eq_natCast, tX9_sharedDivisor_7, m1, m2]
        repeat' (first | (intro _) | (with_reducible assumption) | (refine And.intro ?_ ?_))
        all_goals first | omega | assumption | (refine z_fin h ?_ rfl; first | rfl | omega | (split <;> omega) | (split <;> split <;> omega)) | skip
        all_goals exact nx _
  refine h0 _ _ _ ?_
  simp only [z_push, z_lpush, z_iload, z_lload, z_aload, z_istore, z_istoreP, z_lstore, z_astore, z_iinc, z_iincP, z_iadd, z_isub, z_imul, z_iaddW, z_isubW, z_imulW, z_idiv, z_irem, z_iand, z_ior, z_ixor, z_ishl, z_ishr, z_iushr, z_ineg, z_i2l, z_i2b, z_i2s, z_i2c, z_l2i, z_ladd, z_lsub, z_land, z_lor, z_lshl, z_lshr, z_lcmp, z_dup, z_pop, z_dup2, z_goto, z_tsw, z_cases, z_geti, z_getr, z_puti, z_putz, z_ald, z_iast, z_bast, z_zast, z_alen, z_acopy, z_mmax, z_mmin, z_mabs, z_mabsL, z_iret, z_zret, z_nret, z_lret, z_aret, z_vret, z_cat, z_ldcs, z_strv, z_strc, z_gcs, z_gfm, z_sln, z_sald, z_ifeq, z_ifne, z_iflt, z_ifge, z_ifgt, z_ifle, z_iceq, z_icne, z_iclt, z_icge, z_icgt, z_icle, z_cs0, z_cs1, z_cs2, z_cs3, z_cs4, z_cs5, z_cs6, z_cs7, z_cv0, z_cv1, z_cv2, z_cv3, z_cv4, z_cv5, z_cv6, z_cv7, z_g0, z_s0, z_g1, z_s1, z_g2, z_s2, z_g3, z_s3, z_g4, z_s4, z_g5, z_s5, z_g6, z_s6, z_g7, z_s7, z_g8, z_s8, z_g9, z_s9, z_g10, z_s10, z_g11, z_s11, z_g12, z_s12, z_g13, z_s13, z_b0, z_b1, z_b0n, z_b1n, z_up_far1, z_up_far2, z_up_far3, z_up_far4, z_up_far5, z_up_far6, Classical.not_not, not_true_eq_false, z_in, z_inL, Int.cast_ofNat_Int, Nat.reduceLeDiff, List.length_cons, List.length_nil, Nat.reduceAdd, Nat.zero_add, Nat.le_refl, true_and, and_true, List.length, Nat.reduceLT, true_or, or_true, false_or, or_false, false_and, and_false, not_true_eq_false, not_false_eq_true, forall_const, false_implies, true_implies, Int.reduceEq, Int.reduceLT, Int.reduceLE, Int.reduceAdd, Int.reduceSub, Int.reduceMul, Int.reduceNeg, Int.reduceToNat, Int.toNat_natCast, ↓reduceIte, reduceIte, Nat.reduceEqDiff, Nat.reduceSub, Nat.reduceMul, ne_eq, Int.zero_add, Int.add_zero, Int.sub_zero, Nat.add_zero, Int.ofNat_eq_natCast, tX9_sharedDivisor_0]
  refine L7 64 0 q p none (by omega) (by omega) (by omega) ?_ (Nat.gcd_comm _ _)
  have : q * p ≤ 600 * 600 := Nat.mul_le_mul (by omega) (by omega)
  exact Nat.lt_of_le_of_lt this (by decide)
theorem dX9_sharedDivisor_0 : decode cX9_sharedDivisor 0 = .ok (.iload_n 1, 1) := by decide +kernel
theorem dX9_sharedDivisor_1 : decode cX9_sharedDivisor 1 = .ok (.istore_n 2, 1) := by decide +kernel
theorem dX9_sharedDivisor_2 : decode cX9_sharedDivisor 2 = .ok (.iload_n 0, 1) := by decide +kernel
theorem dX9_sharedDivisor_3 : decode cX9_sharedDivisor 3 = .ok (.istore_n 3, 1) := by decide +kernel
theorem dX9_sharedDivisor_4 : decode cX9_sharedDivisor 4 = .ok (.iconst 0, 1) := by decide +kernel
theorem dX9_sharedDivisor_5 : decode cX9_sharedDivisor 5 = .ok (.istore 4, 2) := by decide +kernel
theorem dX9_sharedDivisor_7 : decode cX9_sharedDivisor 7 = .ok (.iload 4, 2) := by decide +kernel
theorem dX9_sharedDivisor_9 : decode cX9_sharedDivisor 9 = .ok (.bipush 64, 2) := by decide +kernel
theorem dX9_sharedDivisor_11 : decode cX9_sharedDivisor 11 = .ok (.if_icmp .ge 23, 3) := by decide +kernel
theorem dX9_sharedDivisor_14 : decode cX9_sharedDivisor 14 = .ok (.iload_n 3, 1) := by decide +kernel
theorem dX9_sharedDivisor_15 : decode cX9_sharedDivisor 15 = .ok (.ifCond .eq 19, 3) := by decide +kernel
theorem dX9_sharedDivisor_18 : decode cX9_sharedDivisor 18 = .ok (.iload_n 2, 1) := by decide +kernel
theorem dX9_sharedDivisor_19 : decode cX9_sharedDivisor 19 = .ok (.iload_n 3, 1) := by decide +kernel
theorem dX9_sharedDivisor_20 : decode cX9_sharedDivisor 20 = .ok (.irem, 1) := by decide +kernel
theorem dX9_sharedDivisor_21 : decode cX9_sharedDivisor 21 = .ok (.istore 5, 2) := by decide +kernel
theorem dX9_sharedDivisor_23 : decode cX9_sharedDivisor 23 = .ok (.iload_n 3, 1) := by decide +kernel
theorem dX9_sharedDivisor_24 : decode cX9_sharedDivisor 24 = .ok (.istore_n 2, 1) := by decide +kernel
theorem dX9_sharedDivisor_25 : decode cX9_sharedDivisor 25 = .ok (.iload 5, 2) := by decide +kernel
theorem dX9_sharedDivisor_27 : decode cX9_sharedDivisor 27 = .ok (.istore_n 3, 1) := by decide +kernel
theorem dX9_sharedDivisor_28 : decode cX9_sharedDivisor 28 = .ok (.iinc 4 1, 3) := by decide +kernel
theorem dX9_sharedDivisor_31 : decode cX9_sharedDivisor 31 = .ok (.goto (-24), 3) := by decide +kernel
theorem dX9_sharedDivisor_34 : decode cX9_sharedDivisor 34 = .ok (.iload_n 2, 1) := by decide +kernel
theorem dX9_sharedDivisor_35 : decode cX9_sharedDivisor 35 = .ok (.ireturn, 1) := by decide +kernel
set_option maxRecDepth 100000 in
theorem rX9_sharedDivisor_0 {p : Program} {l : Launch} {e : Env} {s : State} {m : MethodId} {args : Array Value} {below : List Frame} {meth : Method} {c : Code} {D : va_G} {cA : Nat → ClassId} {ad : Nat → Nat} {Ret : zR} (C : z_Cx p { frames := 0, cells := 0, slots := 0, locals := 0 } s m args c cX9_sharedDivisor yX9_sharedDivisor.cls 6 D cA ad) (hr : meth.sig.returnType = (some .int)) (hlocks : meth.locks = false) : ∀ L st σ, tX9_sharedDivisor_0 (z_X p l e { frames := 0, cells := 0, slots := 0, locals := 0 } s m args below meth c (MQ below (z_Qc D cA ad Ret) args s 0 0 (z_A ad)) 6 D cA ad true) Ret L st σ → z_X p l e { frames := 0, cells := 0, slots := 0, locals := 0 } s m args below meth c (MQ below (z_Qc D cA ad Ret) args s 0 0 (z_A ad)) 6 D cA ad true 0 L st σ := (s_iload_n C dX9_sharedDivisor_0 rfl (s_istore_n C dX9_sharedDivisor_1 (by decide) rfl rfl (s_iload_n C dX9_sharedDivisor_2 rfl (s_istore_n C dX9_sharedDivisor_3 (by decide) rfl rfl (s_iconst C dX9_sharedDivisor_4 rfl ⟨by decide, by decide⟩ (s_istore C dX9_sharedDivisor_5 (by decide) rfl (fun _ _ _ h => h)))))))
set_option maxRecDepth 100000 in
theorem rX9_sharedDivisor_7 {p : Program} {l : Launch} {e : Env} {s : State} {m : MethodId} {args : Array Value} {below : List Frame} {meth : Method} {c : Code} {D : va_G} {cA : Nat → ClassId} {ad : Nat → Nat} {Ret : zR} (C : z_Cx p { frames := 0, cells := 0, slots := 0, locals := 0 } s m args c cX9_sharedDivisor yX9_sharedDivisor.cls 6 D cA ad) (hr : meth.sig.returnType = (some .int)) (hlocks : meth.locks = false) : ∀ L st σ, tX9_sharedDivisor_7 (z_X p l e { frames := 0, cells := 0, slots := 0, locals := 0 } s m args below meth c (MQ below (z_Qc D cA ad Ret) args s 0 0 (z_A ad)) 6 D cA ad true) Ret L st σ → z_X p l e { frames := 0, cells := 0, slots := 0, locals := 0 } s m args below meth c (MQ below (z_Qc D cA ad Ret) args s 0 0 (z_A ad)) 6 D cA ad true 7 L st σ := (s_iload C dX9_sharedDivisor_7 (s_bipush C dX9_sharedDivisor_9 rfl ⟨by decide, by decide⟩ (s_icge C dX9_sharedDivisor_11 (by decide) (s_iload_n C dX9_sharedDivisor_34 rfl (s_iret C dX9_sharedDivisor_35 hr hlocks)) (s_iload_n C dX9_sharedDivisor_14 rfl (s_ifeq C dX9_sharedDivisor_15 (by decide) (s_iload_n C dX9_sharedDivisor_34 rfl (s_iret C dX9_sharedDivisor_35 hr hlocks)) (s_iload_n C dX9_sharedDivisor_18 rfl (s_iload_n C dX9_sharedDivisor_19 rfl (s_irem C dX9_sharedDivisor_20 (s_istore C dX9_sharedDivisor_21 (by decide) rfl (s_iload_n C dX9_sharedDivisor_23 rfl (s_istore_n C dX9_sharedDivisor_24 (by decide) rfl rfl (s_iload C dX9_sharedDivisor_25 (s_istore_n C dX9_sharedDivisor_27 (by decide) rfl rfl (s_iinc C dX9_sharedDivisor_28 (by decide) rfl (s_goto C dX9_sharedDivisor_31 (by decide) (fun _ _ _ h => h))))))))))))))))
theorem okX9_sharedDivisor (l : Launch) : z_OK l yX9_sharedDivisor cX9_sharedDivisor 6 (some .int) 0 0 SX9_sharedDivisor := by
  refine z_ok_of true (by decide +kernel) ?_ ?_
  · intro as σ Ret h
    obtain ⟨x1, x2, rfl⟩ := pX9_sharedDivisor h
    exact ⟨Nat.le_of_ble_eq_true rfl, by simp⟩
  · intro p e s m args below meth c D cA ad Ret C hr hlocks as σ has hσ h
    obtain ⟨x1, x2, rfl⟩ := pX9_sharedDivisor h
    exact vX9_sharedDivisor (rX9_sharedDivisor_0 C hr hlocks) (rX9_sharedDivisor_7 C hr hlocks) x1 x2 σ (has _ (List.mem_of_getElem? (i := 0) rfl)) (has _ (List.mem_of_getElem? (i := 1) rfl)) hσ h
def SX9_plays : zS := fun as σ Ret => match as with
  | [.inr (.inr (9, 0, _)), .inl x, .inl t, .inl w] => q_S9 (q_gPlays x t w) q_fId σ Ret
  | _ => False
def tX9_plays_0 (X : Nat → zB) (Ret : zR) (L : zL) (st : List zV) (σ : zM) : Prop := (z_aload 0 (z_getr 9 8 8 0 (z_geti 8 7 (z_ifne (z_iload 1 (z_cs1 SX9_isSlack (z_ifeq (z_push (-1000001) (z_iret Ret)) (z_iload 2 (z_cs1 SX9_isApart (z_ifeq (z_push (-1000001) (z_iret Ret)) (z_iload 3 (z_iflt (z_push (-1000001) (z_iret Ret)) (z_iload 3 (z_push 1 (z_icle (z_push 0 (z_istore 4 (z_push 0 (z_istore 5 (z_push 0 (z_istore 6 (X 48))))))) (z_push (-1000001) (z_iret Ret))))))))))))) (z_push (-1000002) (z_iret Ret)))))) L st σ
def tX9_plays_48 (X : Nat → zB) (Ret : zR) (L : zL) (st : List zV) (σ : zM) : Prop := (z_iload 6 (z_aload 0 (z_getr 9 8 8 0 (z_getr 8 8 7 0 (z_geti 7 3 (z_icge (z_iload 4 (z_iload 5 (z_cs2 SX9_sharedDivisor (z_istore 6 (z_iload 6 (z_push 1 (z_icge (z_iload 3 (z_ifne (z_iload 5 (z_iload 6 (z_idiv (z_iret Ret)))) (z_iload 4 (z_goto (z_iload 6 (z_idiv (z_iret Ret))))))) (z_push (-1000000) (z_iret Ret))))))))) (z_iload 5 (z_aload 0 (z_getr 9 8 8 0 (z_getr 8 8 7 0 (z_getr 7 3 100 6 (z_iload 6 (z_ald 0 (z_iadd (z_istore 5 (z_aload 0 (z_aload 0 (z_getr 9 8 8 0 (z_iload 6 (z_iload 2 (z_cv3 9 SX9_slipsIn (z_iload 1 (z_icgt (z_iinc 6 1 (z_goto (X 48))) (z_iload 4 (z_aload 0 (z_getr 9 8 8 0 (z_getr 8 8 7 0 (z_getr 7 3 100 6 (z_iload 6 (z_ald 0 (z_iadd (z_istore 4 (z_iinc 6 1 (z_goto (X 48))))))))))))))))))))))))))))))))))) L st σ
theorem pX9_plays {as : List zV} {σ : zM} {Ret : zR} (h : SX9_plays as σ Ret) : ∃ (k0 : Nat) (x1 : Int) (x2 : Int) (x3 : Int), as = [.inr (.inr (9, 0, k0)), .inl x1, .inl x2, .inl x3] := by
  unfold SX9_plays at h
  split at h
  · exact ⟨_, _, _, _, rfl⟩
  · exact h.elim
set_option maxRecDepth 10000 in
set_option maxHeartbeats 4000000 in
theorem vX9_plays {X : Nat → zB} {Ret : zR} (h0 : ∀ L st σ, tX9_plays_0 X Ret L st σ → X 0 L st σ) (h48 : ∀ L st σ, tX9_plays_48 X Ret L st σ → X 48 L st σ) (k0 : Nat) (x1 : Int) (x2 : Int) (x3 : Int) (σ : zM) (hk0 : z_kd k0 = (9, 0)) (hx1 : -2147483648 ≤ x1 ∧ x1 ≤ 2147483647) (hx2 : -2147483648 ≤ x2 ∧ x2 ≤ 2147483647) (hx3 : -2147483648 ≤ x3 ∧ x3 ≤ 2147483647) (hσ : z_okm σ) (h : SX9_plays [.inr (.inr (9, 0, k0)), .inl x1, .inl x2, .inl x3] σ Ret) : X 0 [some (.inr (.inr (9, 0, k0))), some (.inl x1), some (.inl x2), some (.inl x3), none, none, none] [] σ := by
  obtain ⟨⟨R, m⟩, h⟩ := h
  obtain rfl := z_kd9 hk0
  have WW := R.2.2.2.2.1
  have W := WW.1
  have W3 := WW.2.2
  have K := m.2.1.1
  have W1 : σ 16 3 = σ 93 1 := W.1.2.1.1
  have K1 := K.1.2.1
  by_cases c1 : σ 89 7 = 0
  · have fin := h σ (fun _ _ => rfl) R
    simp only [q_gPlays, if_pos c1] at fin
    rw [c1] at W3
    refine h0 _ _ _ ?_
    simp only [z_push, z_lpush, z_iload, z_lload, z_aload, z_istore, z_istoreP, z_lstore, z_astore, z_iinc, z_iincP, z_iadd, z_isub, z_imul, z_iaddW, z_isubW, z_imulW, z_idiv, z_irem, z_iand, z_ior, z_ixor, z_ishl, z_ishr, z_iushr, z_ineg, z_i2l, z_i2b, z_i2s, z_i2c, z_l2i, z_ladd, z_lsub, z_land, z_lor, z_lshl, z_lshr, z_lcmp, z_dup, z_pop, z_dup2, z_goto, z_tsw, z_cases, z_geti, z_getr, z_puti, z_putz, z_ald, z_iast, z_bast, z_zast, z_alen, z_acopy, z_mmax, z_mmin, z_mabs, z_mabsL, z_iret, z_zret, z_nret, z_lret, z_aret, z_vret, z_cat, z_ldcs, z_strv, z_strc, z_gcs, z_gfm, z_sln, z_sald, z_ifeq, z_ifne, z_iflt, z_ifge, z_ifgt, z_ifle, z_iceq, z_icne, z_iclt, z_icge, z_icgt, z_icle, z_cs0, z_cs1, z_cs2, z_cs3, z_cs4, z_cs5, z_cs6, z_cs7, z_cv0, z_cv1, z_cv2, z_cv3, z_cv4, z_cv5, z_cv6, z_cv7, z_g0, z_s0, z_g1, z_s1, z_g2, z_s2, z_g3, z_s3, z_g4, z_s4, z_g5, z_s5, z_g6, z_s6, z_g7, z_s7, z_g8, z_s8, z_g9, z_s9, z_g10, z_s10, z_g11, z_s11, z_g12, z_s12, z_g13, z_s13, z_b0, z_b1, z_b0n, z_b1n, z_up_far1, z_up_far2, z_up_far3, z_up_far4, z_up_far5, z_up_far6, Classical.not_not, not_true_eq_false, z_in, z_inL, Int.cast_ofNat_Int, Nat.reduceLeDiff, List.length_cons, List.length_nil, Nat.reduceAdd, Nat.zero_add, Nat.le_refl, true_and, and_true, List.length, Nat.reduceLT, true_or, or_true, false_or, or_false, false_and, and_false, not_true_eq_false, not_false_eq_true, forall_const, false_implies, true_implies, Int.reduceEq, Int.reduceLT, Int.reduceLE, Int.reduceAdd, Int.reduceSub, Int.reduceMul, Int.reduceNeg, Int.reduceToNat, Int.toNat_natCast, ↓reduceIte, reduceIte, Nat.reduceEqDiff, Nat.reduceSub, Nat.reduceMul, ne_eq, Int.zero_add, Int.add_zero, Int.sub_zero, Nat.add_zero, Int.ofNat_eq_natCast, tX9_plays_0, W3]
    repeat' (first | (intro _) | (with_reducible assumption) | (refine And.intro ?_ ?_))
    all_goals first | omega | assumption | (refine z_fin fin ?_ rfl; first | rfl | omega | (split <;> omega) | (split <;> split <;> omega)) | skip
  by_cases c : ¬ ((0 ≤ x1 ∧ x1 ≤ 20) ∧ (0 ≤ x2 ∧ x2 ≤ 99) ∧ 0 ≤ x3 ∧ x3 ≤ 1)
  · have fin := h σ (fun _ _ => rfl) R
    simp only [q_gPlays, if_neg c1, if_pos c] at fin
    refine h0 _ _ _ ?_
    simp only [z_push, z_lpush, z_iload, z_lload, z_aload, z_istore, z_istoreP, z_lstore, z_astore, z_iinc, z_iincP, z_iadd, z_isub, z_imul, z_iaddW, z_isubW, z_imulW, z_idiv, z_irem, z_iand, z_ior, z_ixor, z_ishl, z_ishr, z_iushr, z_ineg, z_i2l, z_i2b, z_i2s, z_i2c, z_l2i, z_ladd, z_lsub, z_land, z_lor, z_lshl, z_lshr, z_lcmp, z_dup, z_pop, z_dup2, z_goto, z_tsw, z_cases, z_geti, z_getr, z_puti, z_putz, z_ald, z_iast, z_bast, z_zast, z_alen, z_acopy, z_mmax, z_mmin, z_mabs, z_mabsL, z_iret, z_zret, z_nret, z_lret, z_aret, z_vret, z_cat, z_ldcs, z_strv, z_strc, z_gcs, z_gfm, z_sln, z_sald, z_ifeq, z_ifne, z_iflt, z_ifge, z_ifgt, z_ifle, z_iceq, z_icne, z_iclt, z_icge, z_icgt, z_icle, z_cs0, z_cs1, z_cs2, z_cs3, z_cs4, z_cs5, z_cs6, z_cs7, z_cv0, z_cv1, z_cv2, z_cv3, z_cv4, z_cv5, z_cv6, z_cv7, z_g0, z_s0, z_g1, z_s1, z_g2, z_s2, z_g3, z_s3, z_g4, z_s4, z_g5, z_s5, z_g6, z_s6, z_g7, z_s7, z_g8, z_s8, z_g9, z_s9, z_g10, z_s10, z_g11, z_s11, z_g12, z_s12, z_g13, z_s13, z_b0, z_b1, z_b0n, z_b1n, z_up_far1, z_up_far2, z_up_far3, z_up_far4, z_up_far5, z_up_far6, Classical.not_not, not_true_eq_false, z_in, z_inL, Int.cast_ofNat_Int, Nat.reduceLeDiff, List.length_cons, List.length_nil, Nat.reduceAdd, Nat.zero_add, Nat.le_refl, true_and, and_true, List.length, Nat.reduceLT, true_or, or_true, false_or, or_false, false_and, and_false, not_true_eq_false, not_false_eq_true, forall_const, false_implies, true_implies, Int.reduceEq, Int.reduceLT, Int.reduceLE, Int.reduceAdd, Int.reduceSub, Int.reduceMul, Int.reduceNeg, Int.reduceToNat, Int.toNat_natCast, ↓reduceIte, reduceIte, Nat.reduceEqDiff, Nat.reduceSub, Nat.reduceMul, ne_eq, Int.zero_add, Int.add_zero, Int.sub_zero, Nat.add_zero, Int.ofNat_eq_natCast, tX9_plays_0, SX9_isSlack, SX9_isApart, W3, c1]
    repeat' (first | (intro _) | (with_reducible assumption) | (refine And.intro ?_ ?_))
    all_goals first | omega | assumption | (refine z_fin fin ?_ rfl; first | rfl | omega | (split <;> omega) | (split <;> split <;> omega)) | skip
  obtain ⟨N, hN⟩ := z_nat K1.1
  have pl := q_pl_in K (x := x1) (t := x2)
  have key : ∀ σ1 : zM, (∀ c j, ¬ (80 ≤ c ∧ c ≤ 83) → σ1 c j = σ c j) → Ret (some (.inl (q_gPlays x1 x2 x3 σ))) σ1 := by
    intro σ1 f1
    have e9 : ∀ c, 89 ≤ c → σ1 c = σ c := fun c hc => funext fun j => f1 c j (by omega)
    have fin := h σ1 e9 (q_R2_id R (fun c j hc => f1 c j (by unfold q_lastP at hc; omega)))
    unfold q_gPlays at fin ⊢
    rw [e9 93 (by omega), e9 89 (by omega)] at fin
    exact fin
  unfold q_gPlays at key
  rw [if_neg c1, if_neg c, hN, Int.toNat_natCast] at key
  have L48 : ∀ (d i : Nat) (σ1 : zM), i + d = N → (∀ c j, ¬ (80 ≤ c ∧ c ≤ 83) → σ1 c j = σ c j) → X 48 [some (.inr (.inr (9, 0, 0))), some (.inl x1), some (.inl x2), some (.inl x3), some (.inl (q_plA (σ 93) x1 x2 i)), some (.inl (q_plB (σ 93) i)), some (.inl (i : Int))] [] σ1 := by
    intro d
    induction d with
    | zero =>
      intro i σ1 hi f1
      obtain rfl : i = N := by omega
      have fin := key σ1 f1
      have p := pl i (by omega)
      have e0 : σ1 16 3 = i := by rw [f1 _ _ (by omega), W1, hN]
      obtain ⟨A, hA⟩ := z_nat p.1
      obtain ⟨B, hB⟩ := z_nat (show 0 ≤ q_plB (σ 93) i by omega)
      rw [hA, hB, Int.toNat_natCast, Int.toNat_natCast] at fin
      refine h48 _ _ _ ?_
      rw [hA, hB]
      have cA : 0 ≤ (A : Int) ∧ (A : Int) ≤ B ∧ (B : Int) ≤ 600 := by omega
      have dv : ∀ a : Nat, a ≤ 600 → (0 : Int) ≤ (a : Int).tdiv (Nat.gcd A B : Int) ∧ (a : Int).tdiv (Nat.gcd A B : Int) ≤ 600 := by
        intro a ha
        rw [(q_mod_nat a _).2]
        have := Nat.div_le_self a (Nat.gcd A B)
        generalize a / Nat.gcd A B = z at this ⊢
        omega
      have dA := dv A (by omega)
      have dB := dv B (by omega)
      have gp : (B : Int) = 0 ∨ 1 ≤ Nat.gcd A B := by
        rcases Nat.eq_zero_or_pos B with e | e
        · left; omega
        · right; exact Nat.gcd_pos_of_pos_right _ e
      have g0 : (B : Int) = 0 → Nat.gcd A B = 0 := by
        intro e
        obtain rfl : B = 0 := by omega
        obtain rfl : A = 0 := by omega
        rfl
      have g1 : Nat.gcd A B ≤ 600 := by
        rcases Nat.eq_zero_or_pos B with e | e
        · rw [g0 (by omega)]; omega
        · exact Nat.le_trans (Nat.le_of_dvd e (Nat.gcd_dvd_right _ _)) (by omega)
      by_cases b0 : (B : Int) = 0
      · rw [if_pos b0] at fin
        have g2 := g0 b0
        simp only [z_push, z_lpush, z_iload, z_lload, z_aload, z_istore, z_istoreP, z_lstore, z_astore, z_iinc, z_iincP, z_iadd, z_isub, z_imul, z_iaddW, z_isubW, z_imulW, z_idiv, z_irem, z_iand, z_ior, z_ixor, z_ishl, z_ishr, z_iushr, z_ineg, z_i2l, z_i2b, z_i2s, z_i2c, z_l2i, z_ladd, z_lsub, z_land, z_lor, z_lshl, z_lshr, z_lcmp, z_dup, z_pop, z_dup2, z_goto, z_tsw, z_cases, z_geti, z_getr, z_puti, z_putz, z_ald, z_iast, z_bast, z_zast, z_alen, z_acopy, z_mmax, z_mmin, z_mabs, z_mabsL, z_iret, z_zret, z_nret, z_lret, z_aret, z_vret, z_cat, z_ldcs, z_strv, z_strc, z_gcs, z_gfm, z_sln, z_sald, z_ifeq, z_ifne, z_iflt, z_ifge, z_ifgt, z_ifle, z_iceq, z_icne, z_iclt, z_icge, z_icgt, z_icle, z_cs0, z_cs1, z_cs2, z_cs3, z_cs4, z_cs5, z_cs6, z_cs7, z_cv0, z_cv1, z_cv2, z_cv3, z_cv4, z_cv5, z_cv6, z_cv7, z_g0, z_s0, z_g1, z_s1, z_g2, z_s2, z_g3, z_s3, z_g4, z_s4, z_g5, z_s5, z_g6, z_s6, z_g7, z_s7, z_g8, z_s8, z_g9, z_s9, z_g10, z_s10, z_g11, z_s11, z_g12, z_s12, z_g13, z_s13, z_b0, z_b1, z_b0n, z_b1n, z_up_far1, z_up_far2, z_up_far3, z_up_far4, z_up_far5, z_up_far6, Classical.not_not, not_true_eq_false, z_in, z_inL, Int.cast_ofNat_Int, Nat.reduceLeDiff, List.length_cons, List.length_nil, Nat.reduceAdd, Nat.zero_add, Nat.le_refl, true_and, and_true, List.length, Nat.reduceLT, true_or, or_true, false_or, or_false, false_and, and_false, not_true_eq_false, not_false_eq_true, forall_const, false_implies, true_implies, Int.reduceEq, Int.reduceLT, Int.reduceLE, Int.reduceAdd, Int.reduceSub, Int.reduceMul, Int.reduceNeg, Int.reduceToNat, Int.toNat_natCast, ↓reduceIte, reduceIte, Nat.reduceEqDiff, Nat.reduceSub, Nat.reduceMul, ne_eq, Int.zero_add, Int.add_zero, Int.sub_zero, Nat.add_zero, Int.ofNat_eq_natCast, tX9_plays_48, SX9_sharedDivisor, e0, g2]
        repeat' (first | (intro _) | (with_reducible assumption) | (refine And.intro ?_ ?_))
        all_goals first | omega | assumption | (refine z_fin fin ?_ rfl; first | rfl | omega | (split <;> omega) | (split <;> split <;> omega)) | skip
      · rw [if_neg b0] at fin
        by_cases w0 : x3 = 0
        · rw [if_pos w0] at fin
          simp only [z_push, z_lpush, z_iload, z_lload, z_aload, z_istore, z_istoreP, z_lstore, z_astore, z_iinc, z_iincP, z_iadd, z_isub, z_imul, z_iaddW, z_isubW, z_imulW, z_idiv, z_irem, z_iand, z_ior, z_ixor, z_ishl, z_ishr, z_iushr, z_ineg, z_i2l, z_i2b, z_i2s, z_i2c, z_l2i, z_ladd, z_lsub, z_land, z_lor, z_lshl, z_lshr, z_lcmp, z_dup, z_pop, z_dup2, z_goto, z_tsw, z_cases, z_geti, z_getr, z_puti, z_putz, z_ald, z_iast, z_bast, z_zast, z_alen, z_acopy, z_mmax, z_mmin, z_mabs, z_mabsL, z_iret, z_zret, z_nret, z_lret, z_aret, z_vret, z_cat, z_ldcs, z_strv, z_strc, z_gcs, z_gfm, z_sln, z_sald, z_ifeq, z_ifne, z_iflt, z_ifge, z_ifgt, z_ifle, z_iceq, z_icne, z_iclt, z_icge, z_icgt, z_icle, z_cs0, z_cs1, z_cs2, z_cs3, z_cs4, z_cs5, z_cs6, z_cs7, z_cv0, z_cv1, z_cv2, z_cv3, z_cv4, z_cv5, z_cv6, z_cv7, z_g0, z_s0, z_g1, z_s1, z_g2, z_s2, z_g3, z_s3, z_g4, z_s4, z_g5, z_s5, z_g6, z_s6, z_g7, z_s7, z_g8, z_s8, z_g9, z_s9, z_g10, z_s10, z_g11, z_s11, z_g12, z_s12, z_g13, z_s13, z_b0, z_b1, z_b0n, z_b1n, z_up_far1, z_up_far2, z_up_far3, z_up_far4, z_up_far5, z_up_far6, Classical.not_not, not_true_eq_false, z_in, z_inL, Int.cast_ofNat_Int, Nat.reduceLeDiff, List.length_cons, List.length_nil, Nat.reduceAdd, Nat.zero_add, Nat.le_refl, true_and, and_true, List.length, Nat.reduceLT, true_or, or_true, false_or, or_false, false_and, and_false, not_true_eq_false, not_false_eq_true, forall_const, false_implies, true_implies, Int.reduceEq, Int.reduceLT, Int.reduceLE, Int.reduceAdd, Int.reduceSub, Int.reduceMul, Int.reduceNeg, Int.reduceToNat, Int.toNat_natCast, ↓reduceIte, reduceIte, Nat.reduceEqDiff, Nat.reduceSub, Nat.reduceMul, ne_eq, Int.zero_add, Int.add_zero, Int.sub_zero, Nat.add_zero, Int.ofNat_eq_natCast, tX9_plays_48, SX9_sharedDivisor, e0]
          repeat' (first | (intro _) | (with_reducible assumption) | (refine And.intro ?_ ?_))
          all_goals first | omega | assumption | (refine z_fin fin ?_ rfl; first | rfl | omega | (split <;> omega) | (split <;> split <;> omega)) | skip
        · rw [if_neg w0] at fin
          simp only [z_push, z_lpush, z_iload, z_lload, z_aload, z_istore, z_istoreP, z_lstore, z_astore, z_iinc, z_iincP, z_iadd, z_isub, z_imul, z_iaddW, z_isubW, z_imulW, z_idiv, z_irem, z_iand, z_ior, z_ixor, z_ishl, z_ishr, z_iushr, z_ineg, z_i2l, z_i2b, z_i2s, z_i2c, z_l2i, z_ladd, z_lsub, z_land, z_lor, z_lshl, z_lshr, z_lcmp, z_dup, z_pop, z_dup2, z_goto, z_tsw, z_cases, z_geti, z_getr, z_puti, z_putz, z_ald, z_iast, z_bast, z_zast, z_alen, z_acopy, z_mmax, z_mmin, z_mabs, z_mabsL, z_iret, z_zret, z_nret, z_lret, z_aret, z_vret, z_cat, z_ldcs, z_strv, z_strc, z_gcs, z_gfm, z_sln, z_sald, z_ifeq, z_ifne, z_iflt, z_ifge, z_ifgt, z_ifle, z_iceq, z_icne, z_iclt, z_icge, z_icgt, z_icle, z_cs0, z_cs1, z_cs2, z_cs3, z_cs4, z_cs5, z_cs6, z_cs7, z_cv0, z_cv1, z_cv2, z_cv3, z_cv4, z_cv5, z_cv6, z_cv7, z_g0, z_s0, z_g1, z_s1, z_g2, z_s2, z_g3, z_s3, z_g4, z_s4, z_g5, z_s5, z_g6, z_s6, z_g7, z_s7, z_g8, z_s8, z_g9, z_s9, z_g10, z_s10, z_g11, z_s11, z_g12, z_s12, z_g13, z_s13, z_b0, z_b1, z_b0n, z_b1n, z_up_far1, z_up_far2, z_up_far3, z_up_far4, z_up_far5, z_up_far6, Classical.not_not, not_true_eq_false, z_in, z_inL, Int.cast_ofNat_Int, Nat.reduceLeDiff, List.length_cons, List.length_nil, Nat.reduceAdd, Nat.zero_add, Nat.le_refl, true_and, and_true, List.length, Nat.reduceLT, true_or, or_true, false_or, or_false, false_and, and_false, not_true_eq_false, not_false_eq_true, forall_const, false_implies, true_implies, Int.reduceEq, Int.reduceLT, Int.reduceLE, Int.reduceAdd, Int.reduceSub, Int.reduceMul, Int.reduceNeg, Int.reduceToNat, Int.toNat_natCast, ↓reduceIte, reduceIte, Nat.reduceEqDiff, Nat.reduceSub, Nat.reduceMul, ne_eq, Int.zero_add, Int.add_zero, Int.sub_zero, Nat.add_zero, Int.ofNat_eq_natCast, tX9_plays_48, SX9_sharedDivisor, e0]
          repeat' (first | (intro _) | (with_reducible assumption) | (refine And.intro ?_ ?_))
          all_goals first | omega | assumption | (refine z_fin fin ?_ rfl; first | rfl | omega | (split <;> omega) | (split <;> split <;> omega)) | skip
    | succ d ih =>
      intro i σ1 hi f1
      have e0 : σ1 16 3 = N := by rw [f1 _ _ (by omega), W1, hN]
      have o1 : σ1 19 i = σ 93 (78 + 3 * i + 2) := by rw [f1 _ _ (by omega)]; exact W.2.2.1 i 2 (by omega) (by omega)
      have p := pl i (by omega)
      have p2 := pl (i + 1) (by omega)
      have q := K.2.2.1 i (by omega)
      have g1 : q_wd σ1 8 (σ 93) := W.fr (fun c j h1 h2 => f1 c j (by omega))
      refine h48 _ _ _ ?_
      simp only [z_push, z_lpush, z_iload, z_lload, z_aload, z_istore, z_istoreP, z_lstore, z_astore, z_iinc, z_iincP, z_iadd, z_isub, z_imul, z_iaddW, z_isubW, z_imulW, z_idiv, z_irem, z_iand, z_ior, z_ixor, z_ishl, z_ishr, z_iushr, z_ineg, z_i2l, z_i2b, z_i2s, z_i2c, z_l2i, z_ladd, z_lsub, z_land, z_lor, z_lshl, z_lshr, z_lcmp, z_dup, z_pop, z_dup2, z_goto, z_tsw, z_cases, z_geti, z_getr, z_puti, z_putz, z_ald, z_iast, z_bast, z_zast, z_alen, z_acopy, z_mmax, z_mmin, z_mabs, z_mabsL, z_iret, z_zret, z_nret, z_lret, z_aret, z_vret, z_cat, z_ldcs, z_strv, z_strc, z_gcs, z_gfm, z_sln, z_sald, z_ifeq, z_ifne, z_iflt, z_ifge, z_ifgt, z_ifle, z_iceq, z_icne, z_iclt, z_icge, z_icgt, z_icle, z_cs0, z_cs1, z_cs2, z_cs3, z_cs4, z_cs5, z_cs6, z_cs7, z_cv0, z_cv1, z_cv2, z_cv3, z_cv4, z_cv5, z_cv6, z_cv7, z_g0, z_s0, z_g1, z_s1, z_g2, z_s2, z_g3, z_s3, z_g4, z_s4, z_g5, z_s5, z_g6, z_s6, z_g7, z_s7, z_g8, z_s8, z_g9, z_s9, z_g10, z_s10, z_g11, z_s11, z_g12, z_s12, z_g13, z_s13, z_b0, z_b1, z_b0n, z_b1n, z_up_far1, z_up_far2, z_up_far3, z_up_far4, z_up_far5, z_up_far6, Classical.not_not, not_true_eq_false, z_in, z_inL, Int.cast_ofNat_Int, Nat.reduceLeDiff, List.length_cons, List.length_nil, Nat.reduceAdd, Nat.zero_add, Nat.le_refl, true_and, and_true, List.length, Nat.reduceLT, true_or, or_true, false_or, or_false, false_and, and_false, not_true_eq_false, not_false_eq_true, forall_const, false_implies, true_implies, Int.reduceEq, Int.reduceLT, Int.reduceLE, Int.reduceAdd, Int.reduceSub, Int.reduceMul, Int.reduceNeg, Int.reduceToNat, Int.toNat_natCast, ↓reduceIte, reduceIte, Nat.reduceEqDiff, Nat.reduceSub, Nat.reduceMul, ne_eq, Int.zero_add, Int.add_zero, Int.sub_zero, Nat.add_zero, Int.ofNat_eq_natCast, tX9_plays_48, SX9_slipsIn, e0, o1]
      refine fun _ => ⟨fun e => absurd e (by omega), fun _ => ⟨by omega, fun _ => ⟨by omega, ⟨σ 93, ⟨g1, K, by omega⟩, fun σ2 f2 => ?_⟩⟩⟩⟩
      have f12 : ∀ c j, ¬ (80 ≤ c ∧ c ≤ 83) → σ2 c j = σ c j := fun c j hc => by rw [f2 c j hc, f1 c j hc]
      have nx := ih (i + 1) σ2 (by omega) f12
      rw [q_plA, q_plB] at nx p2
      have o2 : σ2 19 i = σ 93 (78 + 3 * i + 2) := by rw [f2 _ _ (by omega)]; exact o1
      rw [o2]
      refine ⟨fun e => ?_, fun e => ?_⟩
      · rw [if_neg (by omega), Int.add_zero] at nx
        repeat' (first | (intro _) | (with_reducible assumption) | (refine And.intro ?_ ?_))
        all_goals first | omega | assumption | (refine z_fin nx ?_ rfl; first | rfl | omega | (split <;> omega) | (split <;> split <;> omega)) | skip
      · rw [if_pos (by omega)] at nx p2
        repeat' (first | (intro _) | (with_reducible assumption) | (refine And.intro ?_ ?_))
        all_goals first | omega | assumption | (refine z_fin nx ?_ rfl; first | rfl | omega | (split <;> omega) | (split <;> split <;> omega)) | skip
  have nx := L48 N 0 σ (by omega) (fun _ _ _ => rfl)
  refine h0 _ _ _ ?_
  simp only [z_push, z_lpush, z_iload, z_lload, z_aload, z_istore, z_istoreP, z_lstore, z_astore, z_iinc, z_iincP, z_iadd, z_isub, z_imul, z_iaddW, z_isubW, z_imulW, z_idiv, z_irem, z_iand, z_ior, z_ixor, z_ishl, z_ishr, z_iushr, z_ineg, z_i2l, z_i2b, z_i2s, z_i2c, z_l2i, z_ladd, z_lsub, z_land, z_lor, z_lshl, z_lshr, z_lcmp, z_dup, z_pop, z_dup2, z_goto, z_tsw, z_cases, z_geti, z_getr, z_puti, z_putz, z_ald, z_iast, z_bast, z_zast, z_alen, z_acopy, z_mmax, z_mmin, z_mabs, z_mabsL, z_iret, z_zret, z_nret, z_lret, z_aret, z_vret, z_cat, z_ldcs, z_strv, z_strc, z_gcs, z_gfm, z_sln, z_sald, z_ifeq, z_ifne, z_iflt, z_ifge, z_ifgt, z_ifle, z_iceq, z_icne, z_iclt, z_icge, z_icgt, z_icle, z_cs0, z_cs1, z_cs2, z_cs3, z_cs4, z_cs5, z_cs6, z_cs7, z_cv0, z_cv1, z_cv2, z_cv3, z_cv4, z_cv5, z_cv6, z_cv7, z_g0, z_s0, z_g1, z_s1, z_g2, z_s2, z_g3, z_s3, z_g4, z_s4, z_g5, z_s5, z_g6, z_s6, z_g7, z_s7, z_g8, z_s8, z_g9, z_s9, z_g10, z_s10, z_g11, z_s11, z_g12, z_s12, z_g13, z_s13, z_b0, z_b1, z_b0n, z_b1n, z_up_far1, z_up_far2, z_up_far3, z_up_far4, z_up_far5, z_up_far6, Classical.not_not, not_true_eq_false, z_in, z_inL, Int.cast_ofNat_Int, Nat.reduceLeDiff, List.length_cons, List.length_nil, Nat.reduceAdd, Nat.zero_add, Nat.le_refl, true_and, and_true, List.length, Nat.reduceLT, true_or, or_true, false_or, or_false, false_and, and_false, not_true_eq_false, not_false_eq_true, forall_const, false_implies, true_implies, Int.reduceEq, Int.reduceLT, Int.reduceLE, Int.reduceAdd, Int.reduceSub, Int.reduceMul, Int.reduceNeg, Int.reduceToNat, Int.toNat_natCast, ↓reduceIte, reduceIte, Nat.reduceEqDiff, Nat.reduceSub, Nat.reduceMul, ne_eq, Int.zero_add, Int.add_zero, Int.sub_zero, Nat.add_zero, Int.ofNat_eq_natCast, tX9_plays_0, SX9_isSlack, SX9_isApart, W3, c1]
  repeat' (first | (intro _) | (with_reducible assumption) | (refine And.intro ?_ ?_))
  all_goals first | omega | assumption | (refine z_fin nx ?_ rfl; first | rfl | omega | (split <;> omega) | (split <;> split <;> omega)) | skip
theorem dX9_plays_0 : decode cX9_plays 0 = .ok (.aload_n 0, 1) := by decide +kernel
theorem dX9_plays_1 : decode cX9_plays 1 = .ok (.getfield 26, 3) := by decide +kernel
theorem dX9_plays_4 : decode cX9_plays 4 = .ok (.getfield 141, 3) := by decide +kernel
theorem dX9_plays_7 : decode cX9_plays 7 = .ok (.ifCond .ne 6, 3) := by decide +kernel
theorem dX9_plays_10 : decode cX9_plays 10 = .ok (.ldc 144, 2) := by decide +kernel
theorem dX9_plays_12 : decode cX9_plays 12 = .ok (.ireturn, 1) := by decide +kernel
theorem dX9_plays_13 : decode cX9_plays 13 = .ok (.iload_n 1, 1) := by decide +kernel
theorem dX9_plays_14 : decode cX9_plays 14 = .ok (.invokestatic 217, 3) := by decide +kernel
theorem dX9_plays_17 : decode cX9_plays 17 = .ok (.ifCond .eq 19, 3) := by decide +kernel
theorem dX9_plays_20 : decode cX9_plays 20 = .ok (.iload_n 2, 1) := by decide +kernel
theorem dX9_plays_21 : decode cX9_plays 21 = .ok (.invokestatic 210, 3) := by decide +kernel
theorem dX9_plays_24 : decode cX9_plays 24 = .ok (.ifCond .eq 12, 3) := by decide +kernel
theorem dX9_plays_27 : decode cX9_plays 27 = .ok (.iload_n 3, 1) := by decide +kernel
theorem dX9_plays_28 : decode cX9_plays 28 = .ok (.ifCond .lt 8, 3) := by decide +kernel
theorem dX9_plays_31 : decode cX9_plays 31 = .ok (.iload_n 3, 1) := by decide +kernel
theorem dX9_plays_32 : decode cX9_plays 32 = .ok (.iconst 1, 1) := by decide +kernel
theorem dX9_plays_33 : decode cX9_plays 33 = .ok (.if_icmp .le 6, 3) := by decide +kernel
theorem dX9_plays_36 : decode cX9_plays 36 = .ok (.ldc 75, 2) := by decide +kernel
theorem dX9_plays_38 : decode cX9_plays 38 = .ok (.ireturn, 1) := by decide +kernel
theorem dX9_plays_39 : decode cX9_plays 39 = .ok (.iconst 0, 1) := by decide +kernel
theorem dX9_plays_40 : decode cX9_plays 40 = .ok (.istore 4, 2) := by decide +kernel
theorem dX9_plays_42 : decode cX9_plays 42 = .ok (.iconst 0, 1) := by decide +kernel
theorem dX9_plays_43 : decode cX9_plays 43 = .ok (.istore 5, 2) := by decide +kernel
theorem dX9_plays_45 : decode cX9_plays 45 = .ok (.iconst 0, 1) := by decide +kernel
theorem dX9_plays_46 : decode cX9_plays 46 = .ok (.istore 6, 2) := by decide +kernel
theorem dX9_plays_48 : decode cX9_plays 48 = .ok (.iload 6, 2) := by decide +kernel
theorem dX9_plays_50 : decode cX9_plays 50 = .ok (.aload_n 0, 1) := by decide +kernel
theorem dX9_plays_51 : decode cX9_plays 51 = .ok (.getfield 26, 3) := by decide +kernel
theorem dX9_plays_54 : decode cX9_plays 54 = .ok (.getfield 194, 3) := by decide +kernel
theorem dX9_plays_57 : decode cX9_plays 57 = .ok (.getfield 231, 3) := by decide +kernel
theorem dX9_plays_60 : decode cX9_plays 60 = .ok (.if_icmp .ge 60, 3) := by decide +kernel
theorem dX9_plays_63 : decode cX9_plays 63 = .ok (.iload 5, 2) := by decide +kernel
theorem dX9_plays_65 : decode cX9_plays 65 = .ok (.aload_n 0, 1) := by decide +kernel
theorem dX9_plays_66 : decode cX9_plays 66 = .ok (.getfield 26, 3) := by decide +kernel
theorem dX9_plays_69 : decode cX9_plays 69 = .ok (.getfield 194, 3) := by decide +kernel
theorem dX9_plays_72 : decode cX9_plays 72 = .ok (.getfield 232, 3) := by decide +kernel
theorem dX9_plays_75 : decode cX9_plays 75 = .ok (.iload 6, 2) := by decide +kernel
theorem dX9_plays_77 : decode cX9_plays 77 = .ok (.iaload, 1) := by decide +kernel
theorem dX9_plays_78 : decode cX9_plays 78 = .ok (.iadd, 1) := by decide +kernel
theorem dX9_plays_79 : decode cX9_plays 79 = .ok (.istore 5, 2) := by decide +kernel
theorem dX9_plays_81 : decode cX9_plays 81 = .ok (.aload_n 0, 1) := by decide +kernel
theorem dX9_plays_82 : decode cX9_plays 82 = .ok (.aload_n 0, 1) := by decide +kernel
theorem dX9_plays_83 : decode cX9_plays 83 = .ok (.getfield 26, 3) := by decide +kernel
theorem dX9_plays_86 : decode cX9_plays 86 = .ok (.iload 6, 2) := by decide +kernel
theorem dX9_plays_88 : decode cX9_plays 88 = .ok (.iload_n 2, 1) := by decide +kernel
theorem dX9_plays_89 : decode cX9_plays 89 = .ok (.invokevirtual 213, 3) := by decide +kernel
theorem dX9_plays_92 : decode cX9_plays 92 = .ok (.iload_n 1, 1) := by decide +kernel
theorem dX9_plays_93 : decode cX9_plays 93 = .ok (.if_icmp .gt 21, 3) := by decide +kernel
theorem dX9_plays_96 : decode cX9_plays 96 = .ok (.iload 4, 2) := by decide +kernel
theorem dX9_plays_98 : decode cX9_plays 98 = .ok (.aload_n 0, 1) := by decide +kernel
theorem dX9_plays_99 : decode cX9_plays 99 = .ok (.getfield 26, 3) := by decide +kernel
theorem dX9_plays_102 : decode cX9_plays 102 = .ok (.getfield 194, 3) := by decide +kernel
theorem dX9_plays_105 : decode cX9_plays 105 = .ok (.getfield 232, 3) := by decide +kernel
theorem dX9_plays_108 : decode cX9_plays 108 = .ok (.iload 6, 2) := by decide +kernel
theorem dX9_plays_110 : decode cX9_plays 110 = .ok (.iaload, 1) := by decide +kernel
theorem dX9_plays_111 : decode cX9_plays 111 = .ok (.iadd, 1) := by decide +kernel
theorem dX9_plays_112 : decode cX9_plays 112 = .ok (.istore 4, 2) := by decide +kernel
theorem dX9_plays_114 : decode cX9_plays 114 = .ok (.iinc 6 1, 3) := by decide +kernel
theorem dX9_plays_117 : decode cX9_plays 117 = .ok (.goto (-69), 3) := by decide +kernel
theorem dX9_plays_120 : decode cX9_plays 120 = .ok (.iload 4, 2) := by decide +kernel
theorem dX9_plays_122 : decode cX9_plays 122 = .ok (.iload 5, 2) := by decide +kernel
theorem dX9_plays_124 : decode cX9_plays 124 = .ok (.invokestatic 235, 3) := by decide +kernel
theorem dX9_plays_127 : decode cX9_plays 127 = .ok (.istore 6, 2) := by decide +kernel
theorem dX9_plays_129 : decode cX9_plays 129 = .ok (.iload 6, 2) := by decide +kernel
theorem dX9_plays_131 : decode cX9_plays 131 = .ok (.iconst 1, 1) := by decide +kernel
theorem dX9_plays_132 : decode cX9_plays 132 = .ok (.if_icmp .ge 6, 3) := by decide +kernel
theorem dX9_plays_135 : decode cX9_plays 135 = .ok (.ldc 209, 2) := by decide +kernel
theorem dX9_plays_137 : decode cX9_plays 137 = .ok (.ireturn, 1) := by decide +kernel
theorem dX9_plays_138 : decode cX9_plays 138 = .ok (.iload_n 3, 1) := by decide +kernel
theorem dX9_plays_139 : decode cX9_plays 139 = .ok (.ifCond .ne 8, 3) := by decide +kernel
theorem dX9_plays_142 : decode cX9_plays 142 = .ok (.iload 4, 2) := by decide +kernel
theorem dX9_plays_144 : decode cX9_plays 144 = .ok (.goto 5, 3) := by decide +kernel
theorem dX9_plays_147 : decode cX9_plays 147 = .ok (.iload 5, 2) := by decide +kernel
theorem dX9_plays_149 : decode cX9_plays 149 = .ok (.iload 6, 2) := by decide +kernel
theorem dX9_plays_151 : decode cX9_plays 151 = .ok (.idiv, 1) := by decide +kernel
theorem dX9_plays_152 : decode cX9_plays 152 = .ok (.ireturn, 1) := by decide +kernel
set_option maxRecDepth 100000 in
theorem rX9_plays_0 {p : Program} {l : Launch} {e : Env} {s : State} {m : MethodId} {args : Array Value} {below : List Frame} {meth : Method} {c : Code} {D : va_G} {cA : Nat → ClassId} {ad : Nat → Nat} {Ret : zR} (C : z_Cx p { frames := 4, cells := 0, slots := 0, locals := 94 } s m args c cX9_plays yX9_plays.cls 7 D cA ad) (hr : meth.sig.returnType = (some .int)) (hlocks : meth.locks = false) : ∀ L st σ, tX9_plays_0 (z_X p l e { frames := 4, cells := 0, slots := 0, locals := 94 } s m args below meth c (MQ below (z_Qc D cA ad Ret) args s 0 0 (z_A ad)) 7 D cA ad true) Ret L st σ → z_X p l e { frames := 4, cells := 0, slots := 0, locals := 94 } s m args below meth c (MQ below (z_Qc D cA ad Ret) args s 0 0 (z_A ad)) 7 D cA ad true 0 L st σ := (s_aload_n C dX9_plays_0 rfl (s_getr C dX9_plays_1 (j := 2) cls_X9 (by decide) rfl (by decide) (by decide) (by decide +kernel) wd_359 (s_geti C dX9_plays_4 cls_X8 (by decide) rfl wd_274 (s_ifne C dX9_plays_7 (by decide) (s_iload_n C dX9_plays_13 rfl (s_cs1 C dX9_plays_14 (okX9_isSlack l) wd_770 wd_771 wd_75 wd_772 ⟨by decide, by decide, by decide +kernel⟩ ⟨by decide, by decide⟩ (s_ifeq C dX9_plays_17 (by decide) (s_ldc C dX9_plays_36 (v := -1000001) wd_404 ⟨by decide, by decide⟩ (s_iret C dX9_plays_38 hr hlocks)) (s_iload_n C dX9_plays_20 rfl (s_cs1 C dX9_plays_21 (okX9_isApart l) wd_748 wd_749 wd_75 wd_750 ⟨by decide, by decide, by decide +kernel⟩ ⟨by decide, by decide⟩ (s_ifeq C dX9_plays_24 (by decide) (s_ldc C dX9_plays_36 (v := -1000001) wd_404 ⟨by decide, by decide⟩ (s_iret C dX9_plays_38 hr hlocks)) (s_iload_n C dX9_plays_27 rfl (s_iflt C dX9_plays_28 (by decide) (s_ldc C dX9_plays_36 (v := -1000001) wd_404 ⟨by decide, by decide⟩ (s_iret C dX9_plays_38 hr hlocks)) (s_iload_n C dX9_plays_31 rfl (s_iconst C dX9_plays_32 rfl ⟨by decide, by decide⟩ (s_icle C dX9_plays_33 (by decide) (s_iconst C dX9_plays_39 rfl ⟨by decide, by decide⟩ (s_istore C dX9_plays_40 (by decide) rfl (s_iconst C dX9_plays_42 rfl ⟨by decide, by decide⟩ (s_istore C dX9_plays_43 (by decide) rfl (s_iconst C dX9_plays_45 rfl ⟨by decide, by decide⟩ (s_istore C dX9_plays_46 (by decide) rfl (fun _ _ _ h => h))))))) (s_ldc C dX9_plays_36 (v := -1000001) wd_404 ⟨by decide, by decide⟩ (s_iret C dX9_plays_38 hr hlocks))))))))))))) (s_ldc C dX9_plays_10 (v := -1000002) wd_630 ⟨by decide, by decide⟩ (s_iret C dX9_plays_12 hr hlocks))))))
set_option maxRecDepth 100000 in
theorem rX9_plays_48 {p : Program} {l : Launch} {e : Env} {s : State} {m : MethodId} {args : Array Value} {below : List Frame} {meth : Method} {c : Code} {D : va_G} {cA : Nat → ClassId} {ad : Nat → Nat} {Ret : zR} (C : z_Cx p { frames := 4, cells := 0, slots := 0, locals := 94 } s m args c cX9_plays yX9_plays.cls 7 D cA ad) (hr : meth.sig.returnType = (some .int)) (hlocks : meth.locks = false) : ∀ L st σ, tX9_plays_48 (z_X p l e { frames := 4, cells := 0, slots := 0, locals := 94 } s m args below meth c (MQ below (z_Qc D cA ad Ret) args s 0 0 (z_A ad)) 7 D cA ad true) Ret L st σ → z_X p l e { frames := 4, cells := 0, slots := 0, locals := 94 } s m args below meth c (MQ below (z_Qc D cA ad Ret) args s 0 0 (z_A ad)) 7 D cA ad true 48 L st σ := (s_iload C dX9_plays_48 (s_aload_n C dX9_plays_50 rfl (s_getr C dX9_plays_51 (j := 2) cls_X9 (by decide) rfl (by decide) (by decide) (by decide +kernel) wd_359 (s_getr C dX9_plays_54 (j := 1) cls_X8 (by decide) rfl (by decide) (by decide) (by decide +kernel) wd_261 (s_geti C dX9_plays_57 cls_X7 (by decide) rfl wd_219 (s_icge C dX9_plays_60 (by decide) (s_iload C dX9_plays_120 (s_iload C dX9_plays_122 (s_cs2 C dX9_plays_124 (okX9_sharedDivisor l) wd_805 wd_806 wd_75 wd_807 ⟨by decide, by decide, by decide +kernel⟩ ⟨by decide, by decide⟩ (s_istore C dX9_plays_127 (by decide) rfl (s_iload C dX9_plays_129 (s_iconst C dX9_plays_131 rfl ⟨by decide, by decide⟩ (s_icge C dX9_plays_132 (by decide) (s_iload_n C dX9_plays_138 rfl (s_ifne C dX9_plays_139 (by decide) (s_iload C dX9_plays_147 (s_iload C dX9_plays_149 (s_idiv C dX9_plays_151 (s_iret C dX9_plays_152 hr hlocks)))) (s_iload C dX9_plays_142 (s_goto C dX9_plays_144 (by decide) (s_iload C dX9_plays_149 (s_idiv C dX9_plays_151 (s_iret C dX9_plays_152 hr hlocks))))))) (s_ldc C dX9_plays_135 (v := -1000000) wd_743 ⟨by decide, by decide⟩ (s_iret C dX9_plays_137 hr hlocks))))))))) (s_iload C dX9_plays_63 (s_aload_n C dX9_plays_65 rfl (s_getr C dX9_plays_66 (j := 2) cls_X9 (by decide) rfl (by decide) (by decide) (by decide +kernel) wd_359 (s_getr C dX9_plays_69 (j := 1) cls_X8 (by decide) rfl (by decide) (by decide) (by decide +kernel) wd_261 (s_getr C dX9_plays_72 (j := 2) cls_X7 (by decide) rfl (by decide) (by decide) (by decide +kernel) wd_215 (s_iload C dX9_plays_75 (s_iald C dX9_plays_77 (s_iadd C dX9_plays_78 (s_istore C dX9_plays_79 (by decide) rfl (s_aload_n C dX9_plays_81 rfl (s_aload_n C dX9_plays_82 rfl (s_getr C dX9_plays_83 (j := 2) cls_X9 (by decide) rfl (by decide) (by decide) (by decide +kernel) wd_359 (s_iload C dX9_plays_86 (s_iload_n C dX9_plays_88 rfl (s_cv3 C dX9_plays_89 (okX9_slipsIn l) cls_X9 wd_751 wd_753 wd_18 wd_75 wd_754 ⟨by decide, by decide, by decide +kernel⟩ ⟨by decide, by decide⟩ (s_iload_n C dX9_plays_92 rfl (s_icgt C dX9_plays_93 (by decide) (s_iinc C dX9_plays_114 (by decide) rfl (s_goto C dX9_plays_117 (by decide) (fun _ _ _ h => h))) (s_iload C dX9_plays_96 (s_aload_n C dX9_plays_98 rfl (s_getr C dX9_plays_99 (j := 2) cls_X9 (by decide) rfl (by decide) (by decide) (by decide +kernel) wd_359 (s_getr C dX9_plays_102 (j := 1) cls_X8 (by decide) rfl (by decide) (by decide) (by decide +kernel) wd_261 (s_getr C dX9_plays_105 (j := 2) cls_X7 (by decide) rfl (by decide) (by decide) (by decide +kernel) wd_215 (s_iload C dX9_plays_108 (s_iald C dX9_plays_110 (s_iadd C dX9_plays_111 (s_istore C dX9_plays_112 (by decide) rfl (s_iinc C dX9_plays_114 (by decide) rfl (s_goto C dX9_plays_117 (by decide) (fun _ _ _ h => h)))))))))))))))))))))))))))))))))))
theorem okX9_plays (l : Launch) : z_OK l yX9_plays cX9_plays 7 (some .int) 4 94 SX9_plays := by
  refine z_ok_of true (by decide +kernel) ?_ ?_
  · intro as σ Ret h
    obtain ⟨k0, x1, x2, x3, rfl⟩ := pX9_plays h
    exact ⟨Nat.le_of_ble_eq_true rfl, by simp⟩
  · intro p e s m args below meth c D cA ad Ret C hr hlocks as σ has hσ h
    obtain ⟨k0, x1, x2, x3, rfl⟩ := pX9_plays h
    exact vX9_plays (rX9_plays_0 C hr hlocks) (rX9_plays_48 C hr hlocks) k0 x1 x2 x3 σ (has _ (List.mem_of_getElem? (i := 0) rfl)) (has _ (List.mem_of_getElem? (i := 1) rfl)) (has _ (List.mem_of_getElem? (i := 2) rfl)) (has _ (List.mem_of_getElem? (i := 3) rfl)) hσ h
def SX10_plays : zS := fun as σ Ret => match as with
  | [.inr (.inr (10, 0, _)), .inl x, .inl t, .inl w] => q_S10 (q_gPlays x t w) q_fId σ Ret
  | _ => False
def tX10_plays_0 (X : Nat → zB) (Ret : zR) (L : zL) (st : List zV) (σ : zM) : Prop := (z_aload 0 (z_push 0 (z_puti 10 0 (z_aload 0 (z_geti 10 7 (z_ifne (z_iload 1 (z_cs1 SX10_isSlips (z_ifeq (z_push (-1000001) (z_iret Ret)) (z_iload 2 (z_cs1 SX10_isApart (z_ifeq (z_push (-1000001) (z_iret Ret)) (z_iload 3 (z_i2l (z_lpush 0 (z_lpush 1 (z_cs3 SX10_in (z_ifne (z_push 0 (z_istore 4 (z_push 0 (z_istore 5 (z_aload 0 (z_cv0 10 SX10_layLengths (z_push 0 (z_istore 6 (X 55))))))))) (z_push (-1000001) (z_iret Ret)))))))))))))) (z_push (-1000002) (z_iret Ret)))))))) L st σ
def tX10_plays_55 (X : Nat → zB) (Ret : zR) (L : zL) (st : List zV) (σ : zM) : Prop := (z_iload 6 (z_aload 0 (z_getr 10 4 100 106 (z_push 1 (z_ald 0 (z_icge (z_iload 4 (z_istore 6 (z_iload 5 (z_istore 7 (X 125))))) (z_aload 0 (z_getr 10 4 100 106 (z_push 78 (z_push 3 (z_iload 6 (z_imul (z_iadd (z_push 2 (z_iadd (z_ald 0 (z_istore 7 (z_iload 4 (z_aload 0 (z_iload 6 (z_iload 2 (z_cv2 10 SX10_slipsIn (z_iload 1 (z_icgt (z_push 0 (z_iadd (z_istore 4 (z_iload 5 (z_iload 7 (z_iadd (z_istore 5 (z_iinc 6 1 (z_goto (X 55)))))))))) (z_iload 7 (z_goto (z_iadd (z_istore 4 (z_iload 5 (z_iload 7 (z_iadd (z_istore 5 (z_iinc 6 1 (z_goto (X 55))))))))))))))))))))))))))))))))))) L st σ
def tX10_plays_125 (X : Nat → zB) (Ret : zR) (L : zL) (st : List zV) (σ : zM) : Prop := (z_iload 7 (z_ifeq (z_iload 5 (z_ifne (z_iload 3 (z_ifne (z_iload 5 (z_iload 6 (z_idiv (z_iret Ret)))) (z_iload 4 (z_goto (z_iload 6 (z_idiv (z_iret Ret))))))) (z_push (-1000000) (z_goto (z_iret Ret))))) (z_iload 6 (z_iload 7 (z_irem (z_istore 8 (z_iload 7 (z_istore 6 (z_iload 8 (z_istore 7 (z_goto (X 125)))))))))))) L st σ
theorem pX10_plays {as : List zV} {σ : zM} {Ret : zR} (h : SX10_plays as σ Ret) : ∃ (k0 : Nat) (x1 : Int) (x2 : Int) (x3 : Int), as = [.inr (.inr (10, 0, k0)), .inl x1, .inl x2, .inl x3] := by
  unfold SX10_plays at h
  split at h
  · exact ⟨_, _, _, _, rfl⟩
  · exact h.elim
set_option maxRecDepth 10000 in
set_option maxHeartbeats 4000000 in
theorem vX10_plays {X : Nat → zB} {Ret : zR} (h0 : ∀ L st σ, tX10_plays_0 X Ret L st σ → X 0 L st σ) (h55 : ∀ L st σ, tX10_plays_55 X Ret L st σ → X 55 L st σ) (h125 : ∀ L st σ, tX10_plays_125 X Ret L st σ → X 125 L st σ) (k0 : Nat) (x1 : Int) (x2 : Int) (x3 : Int) (σ : zM) (hk0 : z_kd k0 = (10, 0)) (hx1 : -2147483648 ≤ x1 ∧ x1 ≤ 2147483647) (hx2 : -2147483648 ≤ x2 ∧ x2 ≤ 2147483647) (hx3 : -2147483648 ≤ x3 ∧ x3 ≤ 2147483647) (hσ : z_okm σ) (h : SX10_plays [.inr (.inr (10, 0, k0)), .inl x1, .inl x2, .inl x3] σ Ret) : X 0 [some (.inr (.inr (10, 0, k0))), some (.inl x1), some (.inl x2), some (.inl x3), none, none, none, none, none] [] σ := by
  obtain ⟨m, h⟩ := h
  obtain rfl := z_kd10 hk0
  have K := m.2.1.1
  have K0 := K.1.1
  have K1 := K.1.2.1
  have e7 : z_up σ 89 0 0 89 7 = σ 89 7 := z_up_ne (by omega)
  by_cases c1 : σ 89 7 = 0
  · have fin := h (z_up σ 89 0 0) q_th.1 q_th.2
    simp only [q_gPlays, if_pos c1] at fin
    rw [c1] at e7
    refine h0 _ _ _ ?_
    simp only [z_push, z_lpush, z_iload, z_lload, z_aload, z_istore, z_istoreP, z_lstore, z_astore, z_iinc, z_iincP, z_iadd, z_isub, z_imul, z_iaddW, z_isubW, z_imulW, z_idiv, z_irem, z_iand, z_ior, z_ixor, z_ishl, z_ishr, z_iushr, z_ineg, z_i2l, z_i2b, z_i2s, z_i2c, z_l2i, z_ladd, z_lsub, z_land, z_lor, z_lshl, z_lshr, z_lcmp, z_dup, z_pop, z_dup2, z_goto, z_tsw, z_cases, z_geti, z_getr, z_puti, z_putz, z_ald, z_iast, z_bast, z_zast, z_alen, z_acopy, z_mmax, z_mmin, z_mabs, z_mabsL, z_iret, z_zret, z_nret, z_lret, z_aret, z_vret, z_cat, z_ldcs, z_strv, z_strc, z_gcs, z_gfm, z_sln, z_sald, z_ifeq, z_ifne, z_iflt, z_ifge, z_ifgt, z_ifle, z_iceq, z_icne, z_iclt, z_icge, z_icgt, z_icle, z_cs0, z_cs1, z_cs2, z_cs3, z_cs4, z_cs5, z_cs6, z_cs7, z_cv0, z_cv1, z_cv2, z_cv3, z_cv4, z_cv5, z_cv6, z_cv7, z_g0, z_s0, z_g1, z_s1, z_g2, z_s2, z_g3, z_s3, z_g4, z_s4, z_g5, z_s5, z_g6, z_s6, z_g7, z_s7, z_g8, z_s8, z_g9, z_s9, z_g10, z_s10, z_g11, z_s11, z_g12, z_s12, z_g13, z_s13, z_b0, z_b1, z_b0n, z_b1n, z_up_far1, z_up_far2, z_up_far3, z_up_far4, z_up_far5, z_up_far6, Classical.not_not, not_true_eq_false, z_in, z_inL, Int.cast_ofNat_Int, Nat.reduceLeDiff, List.length_cons, List.length_nil, Nat.reduceAdd, Nat.zero_add, Nat.le_refl, true_and, and_true, List.length, Nat.reduceLT, true_or, or_true, false_or, or_false, false_and, and_false, not_true_eq_false, not_false_eq_true, forall_const, false_implies, true_implies, Int.reduceEq, Int.reduceLT, Int.reduceLE, Int.reduceAdd, Int.reduceSub, Int.reduceMul, Int.reduceNeg, Int.reduceToNat, Int.toNat_natCast, ↓reduceIte, reduceIte, Nat.reduceEqDiff, Nat.reduceSub, Nat.reduceMul, ne_eq, Int.zero_add, Int.add_zero, Int.sub_zero, Nat.add_zero, Int.ofNat_eq_natCast, tX10_plays_0, e7]
    repeat' (first | (intro _) | (with_reducible assumption) | (refine And.intro ?_ ?_))
    all_goals first | omega | assumption | (refine z_fin fin ?_ rfl; first | rfl | omega | (split <;> omega) | (split <;> split <;> omega)) | skip
  by_cases c : ¬ ((0 ≤ x1 ∧ x1 ≤ 20) ∧ (0 ≤ x2 ∧ x2 ≤ 99) ∧ 0 ≤ x3 ∧ x3 ≤ 1)
  · have fin := h (z_up σ 89 0 0) q_th.1 q_th.2
    simp only [q_gPlays, if_neg c1, if_pos c] at fin
    refine h0 _ _ _ ?_
    simp only [z_push, z_lpush, z_iload, z_lload, z_aload, z_istore, z_istoreP, z_lstore, z_astore, z_iinc, z_iincP, z_iadd, z_isub, z_imul, z_iaddW, z_isubW, z_imulW, z_idiv, z_irem, z_iand, z_ior, z_ixor, z_ishl, z_ishr, z_iushr, z_ineg, z_i2l, z_i2b, z_i2s, z_i2c, z_l2i, z_ladd, z_lsub, z_land, z_lor, z_lshl, z_lshr, z_lcmp, z_dup, z_pop, z_dup2, z_goto, z_tsw, z_cases, z_geti, z_getr, z_puti, z_putz, z_ald, z_iast, z_bast, z_zast, z_alen, z_acopy, z_mmax, z_mmin, z_mabs, z_mabsL, z_iret, z_zret, z_nret, z_lret, z_aret, z_vret, z_cat, z_ldcs, z_strv, z_strc, z_gcs, z_gfm, z_sln, z_sald, z_ifeq, z_ifne, z_iflt, z_ifge, z_ifgt, z_ifle, z_iceq, z_icne, z_iclt, z_icge, z_icgt, z_icle, z_cs0, z_cs1, z_cs2, z_cs3, z_cs4, z_cs5, z_cs6, z_cs7, z_cv0, z_cv1, z_cv2, z_cv3, z_cv4, z_cv5, z_cv6, z_cv7, z_g0, z_s0, z_g1, z_s1, z_g2, z_s2, z_g3, z_s3, z_g4, z_s4, z_g5, z_s5, z_g6, z_s6, z_g7, z_s7, z_g8, z_s8, z_g9, z_s9, z_g10, z_s10, z_g11, z_s11, z_g12, z_s12, z_g13, z_s13, z_b0, z_b1, z_b0n, z_b1n, z_up_far1, z_up_far2, z_up_far3, z_up_far4, z_up_far5, z_up_far6, Classical.not_not, not_true_eq_false, z_in, z_inL, Int.cast_ofNat_Int, Nat.reduceLeDiff, List.length_cons, List.length_nil, Nat.reduceAdd, Nat.zero_add, Nat.le_refl, true_and, and_true, List.length, Nat.reduceLT, true_or, or_true, false_or, or_false, false_and, and_false, not_true_eq_false, not_false_eq_true, forall_const, false_implies, true_implies, Int.reduceEq, Int.reduceLT, Int.reduceLE, Int.reduceAdd, Int.reduceSub, Int.reduceMul, Int.reduceNeg, Int.reduceToNat, Int.toNat_natCast, ↓reduceIte, reduceIte, Nat.reduceEqDiff, Nat.reduceSub, Nat.reduceMul, ne_eq, Int.zero_add, Int.add_zero, Int.sub_zero, Nat.add_zero, Int.ofNat_eq_natCast, tX10_plays_0, SX10_isSlips, SX10_isApart, SX10_in, e7, c1]
    repeat' (first | (intro _) | (with_reducible assumption) | (refine And.intro ?_ ?_))
    all_goals first | omega | assumption | (refine z_fin fin ?_ rfl; first | rfl | omega | (split <;> omega) | (split <;> split <;> omega)) | skip
  obtain ⟨N, hN⟩ := z_nat K1.1
  have pl := q_pl_in K (x := x1) (t := x2)
  have key : ∀ σ1 : zM, (∀ c j, ¬ (c = 89 ∧ (j = 24 ∨ j = 0) ∨ 98 ≤ c ∧ c ≤ 102) → σ1 c j = σ c j) → Ret (some (.inl (q_gPlays x1 x2 x3 σ))) σ1 := by
    intro σ1 f1
    exact h σ1 (fun c hc => funext fun j => f1 c j (by omega)) (fun c j hc => by
      unfold q_last at hc
      exact f1 c j (by omega))
  unfold q_gPlays at key
  rw [if_neg c1, if_neg c, hN, Int.toNat_natCast] at key
  have L125 : ∀ (n a b : Nat) (r6 r9 : Option zV) (σ1 : zM), b ≤ n → a ≤ 600 → b ≤ 600 → (∀ c j, ¬ (c = 89 ∧ (j = 24 ∨ j = 0) ∨ 98 ≤ c ∧ c ≤ 102) → σ1 c j = σ c j) → Nat.gcd a b = Nat.gcd (q_plA (σ 93) x1 x2 N).toNat (q_plB (σ 93) N).toNat → X 125 [some (.inr (.inr (10, 0, 89))), some (.inl x1), some (.inl x2), some (.inl x3), some (.inl (q_plA (σ 93) x1 x2 N)), some (.inl (q_plB (σ 93) N)), some (.inl (a : Int)), some (.inl (b : Int)), r9] [] σ1 := by
    intro n
    induction n with
    | zero =>
      intro a b r6 r9 σ1 hb ha hb2 f1 hg
      obtain rfl : b = 0 := by omega
      rw [Nat.gcd_zero_right] at hg
      have fin := key σ1 f1
      rw [← hg] at fin
      have p := pl N (by omega)
      have hg2 : ¬ q_plB (σ 93) N = 0 → ¬ a = 0 := by
        intro e e2
        have := Nat.gcd_pos_of_pos_right (q_plA (σ 93) x1 x2 N).toNat (show 0 < (q_plB (σ 93) N).toNat by omega)
        omega
      have dv : ∀ z : Int, 0 ≤ z ∧ z ≤ 600 → (0 : Int) ≤ z.tdiv (a : Int) ∧ z.tdiv (a : Int) ≤ 600 := by
        intro z hz
        obtain ⟨y, rfl⟩ := z_nat hz.1
        rw [(q_mod_nat y _).2]
        have := Nat.div_le_self y a
        generalize y / a = z at this ⊢
        omega
      have dA := dv (q_plA (σ 93) x1 x2 N) (by omega)
      have dB := dv (q_plB (σ 93) N) (by omega)
      refine h125 _ _ _ ?_
      by_cases b0 : q_plB (σ 93) N = 0
      · rw [if_pos b0] at fin
        simp only [z_push, z_lpush, z_iload, z_lload, z_aload, z_istore, z_istoreP, z_lstore, z_astore, z_iinc, z_iincP, z_iadd, z_isub, z_imul, z_iaddW, z_isubW, z_imulW, z_idiv, z_irem, z_iand, z_ior, z_ixor, z_ishl, z_ishr, z_iushr, z_ineg, z_i2l, z_i2b, z_i2s, z_i2c, z_l2i, z_ladd, z_lsub, z_land, z_lor, z_lshl, z_lshr, z_lcmp, z_dup, z_pop, z_dup2, z_goto, z_tsw, z_cases, z_geti, z_getr, z_puti, z_putz, z_ald, z_iast, z_bast, z_zast, z_alen, z_acopy, z_mmax, z_mmin, z_mabs, z_mabsL, z_iret, z_zret, z_nret, z_lret, z_aret, z_vret, z_cat, z_ldcs, z_strv, z_strc, z_gcs, z_gfm, z_sln, z_sald, z_ifeq, z_ifne, z_iflt, z_ifge, z_ifgt, z_ifle, z_iceq, z_icne, z_iclt, z_icge, z_icgt, z_icle, z_cs0, z_cs1, z_cs2, z_cs3, z_cs4, z_cs5, z_cs6, z_cs7, z_cv0, z_cv1, z_cv2, z_cv3, z_cv4, z_cv5, z_cv6, z_cv7, z_g0, z_s0, z_g1, z_s1, z_g2, z_s2, z_g3, z_s3, z_g4, z_s4, z_g5, z_s5, z_g6, z_s6, z_g7, z_s7, z_g8, z_s8, z_g9, z_s9, z_g10, z_s10, z_g11, z_s11, z_g12, z_s12, z_g13, z_s13, z_b0, z_b1, z_b0n, z_b1n, z_up_far1, z_up_far2, z_up_far3, z_up_far4, z_up_far5, z_up_far6, Classical.not_not, not_true_eq_false, z_in, z_inL, Int.cast_ofNat_Int, Nat.reduceLeDiff, List.length_cons, List.length_nil, Nat.reduceAdd, Nat.zero_add, Nat.le_refl, true_and, and_true, List.length, Nat.reduceLT, true_or, or_true, false_or, or_false, false_and, and_false, not_true_eq_false, not_false_eq_true, forall_const, false_implies, true_implies, Int.reduceEq, Int.reduceLT, Int.reduceLE, Int.reduceAdd, Int.reduceSub, Int.reduceMul, Int.reduceNeg, Int.reduceToNat, Int.toNat_natCast, ↓reduceIte, reduceIte, Nat.reduceEqDiff, Nat.reduceSub, Nat.reduceMul, ne_eq, Int.zero_add, Int.add_zero, Int.sub_zero, Nat.add_zero, Int.ofNat_eq_natCast, tX10_plays_125]
        repeat' (first | (intro _) | (with_reducible assumption) | (refine And.intro ?_ ?_))
        all_goals first | omega | assumption | (refine z_fin fin ?_ rfl; first | rfl | omega | (split <;> omega) | (split <;> split <;> omega)) | skip
      · rw [if_neg b0] at fin
        by_cases w0 : x3 = 0
        · rw [if_pos w0] at fin
          simp only [z_push, z_lpush, z_iload, z_lload, z_aload, z_istore, z_istoreP, z_lstore, z_astore, z_iinc, z_iincP, z_iadd, z_isub, z_imul, z_iaddW, z_isubW, z_imulW, z_idiv, z_irem, z_iand, z_ior, z_ixor, z_ishl, z_ishr, z_iushr, z_ineg, z_i2l, z_i2b, z_i2s, z_i2c, z_l2i, z_ladd, z_lsub, z_land, z_lor, z_lshl, z_lshr, z_lcmp, z_dup, z_pop, z_dup2, z_goto, z_tsw, z_cases, z_geti, z_getr, z_puti, z_putz, z_ald, z_iast, z_bast, z_zast, z_alen, z_acopy, z_mmax, z_mmin, z_mabs, z_mabsL, z_iret, z_zret, z_nret, z_lret, z_aret, z_vret, z_cat, z_ldcs, z_strv, z_strc, z_gcs, z_gfm, z_sln, z_sald, z_ifeq, z_ifne, z_iflt, z_ifge, z_ifgt, z_ifle, z_iceq, z_icne, z_iclt, z_icge, z_icgt, z_icle, z_cs0, z_cs1, z_cs2, z_cs3, z_cs4, z_cs5, z_cs6, z_cs7, z_cv0, z_cv1, z_cv2, z_cv3, z_cv4, z_cv5, z_cv6, z_cv7, z_g0, z_s0, z_g1, z_s1, z_g2, z_s2, z_g3, z_s3, z_g4, z_s4, z_g5, z_s5, z_g6, z_s6, z_g7, z_s7, z_g8, z_s8, z_g9, z_s9, z_g10, z_s10, z_g11, z_s11, z_g12, z_s12, z_g13, z_s13, z_b0, z_b1, z_b0n, z_b1n, z_up_far1, z_up_far2, z_up_far3, z_up_far4, z_up_far5, z_up_far6, Classical.not_not, not_true_eq_false, z_in, z_inL, Int.cast_ofNat_Int, Nat.reduceLeDiff, List.length_cons, List.length_nil, Nat.reduceAdd, Nat.zero_add, Nat.le_refl, true_and, and_true, List.length, Nat.reduceLT, true_or, or_true, false_or, or_false, false_and, and_false, not_true_eq_false, not_false_eq_true, forall_const, false_implies, true_implies, Int.reduceEq, Int.reduceLT, Int.reduceLE, Int.reduceAdd, Int.reduceSub, Int.reduceMul, Int.reduceNeg, Int.reduceToNat, Int.toNat_natCast, ↓reduceIte, reduceIte, Nat.reduceEqDiff, Nat.reduceSub, Nat.reduceMul, ne_eq, Int.zero_add, Int.add_zero, Int.sub_zero, Nat.add_zero, Int.ofNat_eq_natCast, tX10_plays_125]
          repeat' (first | (intro _) | (with_reducible assumption) | (refine And.intro ?_ ?_))
          all_goals first | omega | assumption | (refine z_fin fin ?_ rfl; first | rfl | omega | (split <;> omega) | (split <;> split <;> omega)) | skip
        · rw [if_neg w0] at fin
          simp only [z_push, z_lpush, z_iload, z_lload, z_aload, z_istore, z_istoreP, z_lstore, z_astore, z_iinc, z_iincP, z_iadd, z_isub, z_imul, z_iaddW, z_isubW, z_imulW, z_idiv, z_irem, z_iand, z_ior, z_ixor, z_ishl, z_ishr, z_iushr, z_ineg, z_i2l, z_i2b, z_i2s, z_i2c, z_l2i, z_ladd, z_lsub, z_land, z_lor, z_lshl, z_lshr, z_lcmp, z_dup, z_pop, z_dup2, z_goto, z_tsw, z_cases, z_geti, z_getr, z_puti, z_putz, z_ald, z_iast, z_bast, z_zast, z_alen, z_acopy, z_mmax, z_mmin, z_mabs, z_mabsL, z_iret, z_zret, z_nret, z_lret, z_aret, z_vret, z_cat, z_ldcs, z_strv, z_strc, z_gcs, z_gfm, z_sln, z_sald, z_ifeq, z_ifne, z_iflt, z_ifge, z_ifgt, z_ifle, z_iceq, z_icne, z_iclt, z_icge, z_icgt, z_icle, z_cs0, z_cs1, z_cs2, z_cs3, z_cs4, z_cs5, z_cs6, z_cs7, z_cv0, z_cv1, z_cv2, z_cv3, z_cv4, z_cv5, z_cv6, z_cv7, z_g0, z_s0, z_g1, z_s1, z_g2, z_s2, z_g3, z_s3, z_g4, z_s4, z_g5, z_s5, z_g6, z_s6, z_g7, z_s7, z_g8, z_s8, z_g9, z_s9, z_g10, z_s10, z_g11, z_s11, z_g12, z_s12, z_g13, z_s13, z_b0, z_b1, z_b0n, z_b1n, z_up_far1, z_up_far2, z_up_far3, z_up_far4, z_up_far5, z_up_far6, Classical.not_not, not_true_eq_false, z_in, z_inL, Int.cast_ofNat_Int, Nat.reduceLeDiff, List.length_cons, List.length_nil, Nat.reduceAdd, Nat.zero_add, Nat.le_refl, true_and, and_true, List.length, Nat.reduceLT, true_or, or_true, false_or, or_false, false_and, and_false, not_true_eq_false, not_false_eq_true, forall_const, false_implies, true_implies, Int.reduceEq, Int.reduceLT, Int.reduceLE, Int.reduceAdd, Int.reduceSub, Int.reduceMul, Int.reduceNeg, Int.reduceToNat, Int.toNat_natCast, ↓reduceIte, reduceIte, Nat.reduceEqDiff, Nat.reduceSub, Nat.reduceMul, ne_eq, Int.zero_add, Int.add_zero, Int.sub_zero, Nat.add_zero, Int.ofNat_eq_natCast, tX10_plays_125]
          repeat' (first | (intro _) | (with_reducible assumption) | (refine And.intro ?_ ?_))
          all_goals first | omega | assumption | (refine z_fin fin ?_ rfl; first | rfl | omega | (split <;> omega) | (split <;> split <;> omega)) | skip
    | succ n ih =>
      intro a b r6 r9 σ1 hb ha hb2 f1 hg
      by_cases e : b ≤ n
      · exact ih a b r6 r9 σ1 e ha hb2 f1 hg
      · have e3 := Nat.mod_lt a (show b > 0 by omega)
        have nx := fun v => ih b (a % b) none v σ1 (by omega) hb2 (by omega) f1 (by rw [← hg, Nat.gcd_comm b, ← Nat.gcd_rec, Nat.gcd_comm])
        obtain ⟨m1, m2⟩ := q_mod_nat a b
        have m3 := Nat.div_le_self a b
        have m4 : (0 : Int) ≤ ((a / b : Nat) : Int) := Int.natCast_nonneg _
        refine h125 _ _ _ ?_
        simp only [z_push, z_lpush, z_iload, z_lload, z_aload, z_istore, z_istoreP, z_lstore, z_astore, z_iinc, z_iincP, z_iadd, z_isub, z_imul, z_iaddW, z_isubW, z_imulW, z_idiv, z_irem, z_iand, z_ior, z_ixor, z_ishl, z_ishr, z_iushr, z_ineg, z_i2l, z_i2b, z_i2s, z_i2c, z_l2i, z_ladd, z_lsub, z_land, z_lor, z_lshl, z_lshr, z_lcmp, z_dup, z_pop, z_dup2, z_goto, z_tsw, z_cases, z_geti, z_getr, z_puti, z_putz, z_ald, z_iast, z_bast, z_zast, z_alen, z_acopy, z_mmax, z_mmin, z_mabs, z_mabsL, z_iret, z_zret, z_nret, z_lret, z_aret, z_vret, z_cat, z_ldcs, z_strv, z_strc, z_gcs, z_gfm, z_sln, z_sald, z_ifeq, z_ifne, z_iflt, z_ifge, z_ifgt, z_ifle, z_iceq, z_icne, z_iclt, z_icge, z_icgt, z_icle, z_cs0, z_cs1, z_cs2, z_cs3, z_cs4, z_cs5, z_cs6, z_cs7, z_cv0, z_cv1, z_cv2, z_cv3, z_cv4, z_cv5, z_cv6, z_cv7, z_g0, z_s0, z_g1, z_s1, z_g2, z_s2, z_g3, z_s3, z_g4, z_s4, z_g5, z_s5, z_g6, z_s6, z_g7, z_s7, z_g8, z_s8, z_g9, z_s9, z_g10, z_s10, z_g11, z_s11, z_g12, z_s12, z_g13, z_s13, z_b0, z_b1, z_b0n, z_b1n, z_up_far1, z_up_far2, z_up_far3, z_up_far4, z_up_far5, z_up_far6, Classical.not_not, not_true_eq_false, z_in, z_inL, Int.cast_ofNat_Int, Nat.reduceLeDiff, List.length_cons, List.length_nil, Nat.reduceAdd, Nat.zero_add, Nat.le_refl, true_and, and_true, List.length, Nat.reduceLT, true_or, or_true, false_or, or_false, false_and, and_false, not_true_eq_false, not_false_eq_true, forall_const, false_implies, true_implies, Int.reduceEq, Int.reduceLT, Int.reduceLE, Int.reduceAdd, Int.reduceSub, Int.reduceMul, Int.reduceNeg, Int.reduceToNat, Int.toNat_natCast, ↓reduceIte, reduceIte, Nat.reduceEqDiff, Nat.reduceSub, Nat.reduceMul, ne_eq, Int.zero_add, Int.add_zero, Int.sub_zero, Nat.add_zero, Int.ofNat_eq_natCast, tX10_plays_125, m1, m2]
        repeat' (first | (intro _) | (with_reducible assumption) | (refine And.intro ?_ ?_))
        all_goals first | omega | assumption | (refine z_fin m3 ?_ rfl; first | rfl | omega | (split <;> omega) | (split <;> split <;> omega)) | skip
        all_goals first | exact nx _ | (exfalso; omega)
  have L55 : ∀ (d i : Nat) (r7 r8 : Option zV) (σ1 : zM), i + d = N → (∀ c j, ¬ (c = 89 ∧ (j = 24 ∨ j = 0) ∨ 98 ≤ c ∧ c ≤ 102) → σ1 c j = σ c j) → q_ly σ1 (σ 93) → X 55 [some (.inr (.inr (10, 0, 89))), some (.inl x1), some (.inl x2), some (.inl x3), some (.inl (q_plA (σ 93) x1 x2 i)), some (.inl (q_plB (σ 93) i)), some (.inl (i : Int)), r7, r8] [] σ1 := by
    intro d
    induction d with
    | zero =>
      intro i r7 r8 σ1 hi f1 ly
      obtain rfl : i = N := by omega
      have p := pl i (by omega)
      have e0 : σ1 93 1 = i := by rw [f1 _ _ (by omega), hN]
      have nx := L125 600 (q_plA (σ 93) x1 x2 i).toNat (q_plB (σ 93) i).toNat none r8 σ1 (by omega) (by omega) (by omega) f1 rfl
      rw [show (((q_plA (σ 93) x1 x2 i).toNat : Nat) : Int) = q_plA (σ 93) x1 x2 i by omega, show (((q_plB (σ 93) i).toNat : Nat) : Int) = q_plB (σ 93) i by omega] at nx
      refine h55 _ _ _ ?_
      simp only [z_push, z_lpush, z_iload, z_lload, z_aload, z_istore, z_istoreP, z_lstore, z_astore, z_iinc, z_iincP, z_iadd, z_isub, z_imul, z_iaddW, z_isubW, z_imulW, z_idiv, z_irem, z_iand, z_ior, z_ixor, z_ishl, z_ishr, z_iushr, z_ineg, z_i2l, z_i2b, z_i2s, z_i2c, z_l2i, z_ladd, z_lsub, z_land, z_lor, z_lshl, z_lshr, z_lcmp, z_dup, z_pop, z_dup2, z_goto, z_tsw, z_cases, z_geti, z_getr, z_puti, z_putz, z_ald, z_iast, z_bast, z_zast, z_alen, z_acopy, z_mmax, z_mmin, z_mabs, z_mabsL, z_iret, z_zret, z_nret, z_lret, z_aret, z_vret, z_cat, z_ldcs, z_strv, z_strc, z_gcs, z_gfm, z_sln, z_sald, z_ifeq, z_ifne, z_iflt, z_ifge, z_ifgt, z_ifle, z_iceq, z_icne, z_iclt, z_icge, z_icgt, z_icle, z_cs0, z_cs1, z_cs2, z_cs3, z_cs4, z_cs5, z_cs6, z_cs7, z_cv0, z_cv1, z_cv2, z_cv3, z_cv4, z_cv5, z_cv6, z_cv7, z_g0, z_s0, z_g1, z_s1, z_g2, z_s2, z_g3, z_s3, z_g4, z_s4, z_g5, z_s5, z_g6, z_s6, z_g7, z_s7, z_g8, z_s8, z_g9, z_s9, z_g10, z_s10, z_g11, z_s11, z_g12, z_s12, z_g13, z_s13, z_b0, z_b1, z_b0n, z_b1n, z_up_far1, z_up_far2, z_up_far3, z_up_far4, z_up_far5, z_up_far6, Classical.not_not, not_true_eq_false, z_in, z_inL, Int.cast_ofNat_Int, Nat.reduceLeDiff, List.length_cons, List.length_nil, Nat.reduceAdd, Nat.zero_add, Nat.le_refl, true_and, and_true, List.length, Nat.reduceLT, true_or, or_true, false_or, or_false, false_and, and_false, not_true_eq_false, not_false_eq_true, forall_const, false_implies, true_implies, Int.reduceEq, Int.reduceLT, Int.reduceLE, Int.reduceAdd, Int.reduceSub, Int.reduceMul, Int.reduceNeg, Int.reduceToNat, Int.toNat_natCast, ↓reduceIte, reduceIte, Nat.reduceEqDiff, Nat.reduceSub, Nat.reduceMul, ne_eq, Int.zero_add, Int.add_zero, Int.sub_zero, Nat.add_zero, Int.ofNat_eq_natCast, tX10_plays_55, e0]
      repeat' (first | (intro _) | (with_reducible assumption) | (refine And.intro ?_ ?_))
      all_goals first | omega | assumption | (refine z_fin nx ?_ rfl; first | rfl | omega | (split <;> omega) | (split <;> split <;> omega)) | skip
    | succ d ih =>
      intro i r7 r8 σ1 hi f1 ly
      have e0 : σ1 93 1 = N := by rw [f1 _ _ (by omega), hN]
      have e93 : σ1 93 = σ 93 := funext fun j => f1 93 j (by omega)
      have eo : (78 + 3 * (i : Int) + 2).toNat = 78 + 3 * i + 2 := by omega
      have o1 : σ1 93 (78 + 3 * i + 2) = σ 93 (78 + 3 * i + 2) := by rw [e93]
      have p := pl i (by omega)
      have p2 := pl (i + 1) (by omega)
      have q := K.2.2.1 i (by omega)
      refine h55 _ _ _ ?_
      simp only [z_push, z_lpush, z_iload, z_lload, z_aload, z_istore, z_istoreP, z_lstore, z_astore, z_iinc, z_iincP, z_iadd, z_isub, z_imul, z_iaddW, z_isubW, z_imulW, z_idiv, z_irem, z_iand, z_ior, z_ixor, z_ishl, z_ishr, z_iushr, z_ineg, z_i2l, z_i2b, z_i2s, z_i2c, z_l2i, z_ladd, z_lsub, z_land, z_lor, z_lshl, z_lshr, z_lcmp, z_dup, z_pop, z_dup2, z_goto, z_tsw, z_cases, z_geti, z_getr, z_puti, z_putz, z_ald, z_iast, z_bast, z_zast, z_alen, z_acopy, z_mmax, z_mmin, z_mabs, z_mabsL, z_iret, z_zret, z_nret, z_lret, z_aret, z_vret, z_cat, z_ldcs, z_strv, z_strc, z_gcs, z_gfm, z_sln, z_sald, z_ifeq, z_ifne, z_iflt, z_ifge, z_ifgt, z_ifle, z_iceq, z_icne, z_iclt, z_icge, z_icgt, z_icle, z_cs0, z_cs1, z_cs2, z_cs3, z_cs4, z_cs5, z_cs6, z_cs7, z_cv0, z_cv1, z_cv2, z_cv3, z_cv4, z_cv5, z_cv6, z_cv7, z_g0, z_s0, z_g1, z_s1, z_g2, z_s2, z_g3, z_s3, z_g4, z_s4, z_g5, z_s5, z_g6, z_s6, z_g7, z_s7, z_g8, z_s8, z_g9, z_s9, z_g10, z_s10, z_g11, z_s11, z_g12, z_s12, z_g13, z_s13, z_b0, z_b1, z_b0n, z_b1n, z_up_far1, z_up_far2, z_up_far3, z_up_far4, z_up_far5, z_up_far6, Classical.not_not, not_true_eq_false, z_in, z_inL, Int.cast_ofNat_Int, Nat.reduceLeDiff, List.length_cons, List.length_nil, Nat.reduceAdd, Nat.zero_add, Nat.le_refl, true_and, and_true, List.length, Nat.reduceLT, true_or, or_true, false_or, or_false, false_and, and_false, not_true_eq_false, not_false_eq_true, forall_const, false_implies, true_implies, Int.reduceEq, Int.reduceLT, Int.reduceLE, Int.reduceAdd, Int.reduceSub, Int.reduceMul, Int.reduceNeg, Int.reduceToNat, Int.toNat_natCast, ↓reduceIte, reduceIte, Nat.reduceEqDiff, Nat.reduceSub, Nat.reduceMul, ne_eq, Int.zero_add, Int.add_zero, Int.sub_zero, Nat.add_zero, Int.ofNat_eq_natCast, tX10_plays_55, SX10_slipsIn, e0, eo, o1]
      refine fun _ => ⟨fun e => absurd e (by omega), fun _ => ⟨by omega, by omega, by omega, by omega, fun _ => ⟨σ 93, ⟨by rw [e93]; exact K, K, ly, by omega, by omega⟩, fun σ2 f2 => ?_⟩⟩⟩
      have f12 : ∀ c j, ¬ (c = 89 ∧ (j = 24 ∨ j = 0) ∨ 98 ≤ c ∧ c ≤ 102) → σ2 c j = σ c j := fun c j hc => by rw [f2 c j (by omega), f1 c j hc]
      have ly2 : q_ly σ2 (σ 93) := ⟨fun j hj => by rw [f12 93 j (by omega)], fun t ht => by rw [f2 98 t (by omega)]; exact ly.2 t ht⟩
      have nx := fun r8 => ih (i + 1) (some (.inl (σ 93 (78 + 3 * i + 2)))) r8 σ2 (by omega) f12 ly2
      rw [q_plA, q_plB] at nx p2
      refine ⟨fun e => ?_, fun e => ?_⟩
      · rw [if_neg (by omega), Int.add_zero] at nx
        repeat' (first | (intro _) | (with_reducible assumption) | (refine And.intro ?_ ?_))
        all_goals first | omega | assumption | (refine z_fin q ?_ rfl; first | rfl | omega | (split <;> omega) | (split <;> split <;> omega)) | skip
        all_goals exact nx _
      · rw [if_pos (by omega)] at nx p2
        repeat' (first | (intro _) | (with_reducible assumption) | (refine And.intro ?_ ?_))
        all_goals first | omega | assumption | (refine z_fin q ?_ rfl; first | rfl | omega | (split <;> omega) | (split <;> split <;> omega)) | skip
        all_goals exact nx _
  refine h0 _ _ _ ?_
  simp only [z_push, z_lpush, z_iload, z_lload, z_aload, z_istore, z_istoreP, z_lstore, z_astore, z_iinc, z_iincP, z_iadd, z_isub, z_imul, z_iaddW, z_isubW, z_imulW, z_idiv, z_irem, z_iand, z_ior, z_ixor, z_ishl, z_ishr, z_iushr, z_ineg, z_i2l, z_i2b, z_i2s, z_i2c, z_l2i, z_ladd, z_lsub, z_land, z_lor, z_lshl, z_lshr, z_lcmp, z_dup, z_pop, z_dup2, z_goto, z_tsw, z_cases, z_geti, z_getr, z_puti, z_putz, z_ald, z_iast, z_bast, z_zast, z_alen, z_acopy, z_mmax, z_mmin, z_mabs, z_mabsL, z_iret, z_zret, z_nret, z_lret, z_aret, z_vret, z_cat, z_ldcs, z_strv, z_strc, z_gcs, z_gfm, z_sln, z_sald, z_ifeq, z_ifne, z_iflt, z_ifge, z_ifgt, z_ifle, z_iceq, z_icne, z_iclt, z_icge, z_icgt, z_icle, z_cs0, z_cs1, z_cs2, z_cs3, z_cs4, z_cs5, z_cs6, z_cs7, z_cv0, z_cv1, z_cv2, z_cv3, z_cv4, z_cv5, z_cv6, z_cv7, z_g0, z_s0, z_g1, z_s1, z_g2, z_s2, z_g3, z_s3, z_g4, z_s4, z_g5, z_s5, z_g6, z_s6, z_g7, z_s7, z_g8, z_s8, z_g9, z_s9, z_g10, z_s10, z_g11, z_s11, z_g12, z_s12, z_g13, z_s13, z_b0, z_b1, z_b0n, z_b1n, z_up_far1, z_up_far2, z_up_far3, z_up_far4, z_up_far5, z_up_far6, Classical.not_not, not_true_eq_false, z_in, z_inL, Int.cast_ofNat_Int, Nat.reduceLeDiff, List.length_cons, List.length_nil, Nat.reduceAdd, Nat.zero_add, Nat.le_refl, true_and, and_true, List.length, Nat.reduceLT, true_or, or_true, false_or, or_false, false_and, and_false, not_true_eq_false, not_false_eq_true, forall_const, false_implies, true_implies, Int.reduceEq, Int.reduceLT, Int.reduceLE, Int.reduceAdd, Int.reduceSub, Int.reduceMul, Int.reduceNeg, Int.reduceToNat, Int.toNat_natCast, ↓reduceIte, reduceIte, Nat.reduceEqDiff, Nat.reduceSub, Nat.reduceMul, ne_eq, Int.zero_add, Int.add_zero, Int.sub_zero, Nat.add_zero, Int.ofNat_eq_natCast, tX10_plays_0, SX10_isSlips, SX10_isApart, SX10_in, SX10_layLengths, e7, c1]
  refine fun _ => ⟨fun e => absurd e (by omega), fun _ => ⟨fun e => absurd e (by omega), fun _ => ⟨fun _ σ1 f1 f2 => ?_, fun e => absurd e (by omega)⟩⟩⟩
  refine L55 N 0 none none σ1 (by omega) (fun c j hc => by rw [f1 c j (by omega), z_up_ne (by omega)]) ?_
  exact q_ly_id K (fun j => by rw [f1 93 j (by omega), z_up_ne (by omega)]) (fun j hj => by rw [f2 j hj, z_up_ne (by omega), Nat.add_zero])
theorem dX10_plays_0 : decode cX10_plays 0 = .ok (.aload_n 0, 1) := by decide +kernel
theorem dX10_plays_1 : decode cX10_plays 1 = .ok (.iconst 0, 1) := by decide +kernel
theorem dX10_plays_2 : decode cX10_plays 2 = .ok (.putfield 65, 3) := by decide +kernel
theorem dX10_plays_5 : decode cX10_plays 5 = .ok (.aload_n 0, 1) := by decide +kernel
theorem dX10_plays_6 : decode cX10_plays 6 = .ok (.getfield 205, 3) := by decide +kernel
theorem dX10_plays_9 : decode cX10_plays 9 = .ok (.ifCond .ne 6, 3) := by decide +kernel
theorem dX10_plays_12 : decode cX10_plays 12 = .ok (.ldc 219, 2) := by decide +kernel
theorem dX10_plays_14 : decode cX10_plays 14 = .ok (.ireturn, 1) := by decide +kernel
theorem dX10_plays_15 : decode cX10_plays 15 = .ok (.iload_n 1, 1) := by decide +kernel
theorem dX10_plays_16 : decode cX10_plays 16 = .ok (.invokestatic 285, 3) := by decide +kernel
theorem dX10_plays_19 : decode cX10_plays 19 = .ok (.ifCond .eq 20, 3) := by decide +kernel
theorem dX10_plays_22 : decode cX10_plays 22 = .ok (.iload_n 2, 1) := by decide +kernel
theorem dX10_plays_23 : decode cX10_plays 23 = .ok (.invokestatic 273, 3) := by decide +kernel
theorem dX10_plays_26 : decode cX10_plays 26 = .ok (.ifCond .eq 13, 3) := by decide +kernel
theorem dX10_plays_29 : decode cX10_plays 29 = .ok (.iload_n 3, 1) := by decide +kernel
theorem dX10_plays_30 : decode cX10_plays 30 = .ok (.i2l, 1) := by decide +kernel
theorem dX10_plays_31 : decode cX10_plays 31 = .ok (.lconst 0, 1) := by decide +kernel
theorem dX10_plays_32 : decode cX10_plays 32 = .ok (.lconst 1, 1) := by decide +kernel
theorem dX10_plays_33 : decode cX10_plays 33 = .ok (.invokestatic 75, 3) := by decide +kernel
theorem dX10_plays_36 : decode cX10_plays 36 = .ok (.ifCond .ne 6, 3) := by decide +kernel
theorem dX10_plays_39 : decode cX10_plays 39 = .ok (.ldc 85, 2) := by decide +kernel
theorem dX10_plays_41 : decode cX10_plays 41 = .ok (.ireturn, 1) := by decide +kernel
theorem dX10_plays_42 : decode cX10_plays 42 = .ok (.iconst 0, 1) := by decide +kernel
theorem dX10_plays_43 : decode cX10_plays 43 = .ok (.istore 4, 2) := by decide +kernel
theorem dX10_plays_45 : decode cX10_plays 45 = .ok (.iconst 0, 1) := by decide +kernel
theorem dX10_plays_46 : decode cX10_plays 46 = .ok (.istore 5, 2) := by decide +kernel
theorem dX10_plays_48 : decode cX10_plays 48 = .ok (.aload_n 0, 1) := by decide +kernel
theorem dX10_plays_49 : decode cX10_plays 49 = .ok (.invokevirtual 232, 3) := by decide +kernel
theorem dX10_plays_52 : decode cX10_plays 52 = .ok (.iconst 0, 1) := by decide +kernel
theorem dX10_plays_53 : decode cX10_plays 53 = .ok (.istore 6, 2) := by decide +kernel
theorem dX10_plays_55 : decode cX10_plays 55 = .ok (.iload 6, 2) := by decide +kernel
theorem dX10_plays_57 : decode cX10_plays 57 = .ok (.aload_n 0, 1) := by decide +kernel
theorem dX10_plays_58 : decode cX10_plays 58 = .ok (.getfield 19, 3) := by decide +kernel
theorem dX10_plays_61 : decode cX10_plays 61 = .ok (.iconst 1, 1) := by decide +kernel
theorem dX10_plays_62 : decode cX10_plays 62 = .ok (.iaload, 1) := by decide +kernel
theorem dX10_plays_63 : decode cX10_plays 63 = .ok (.if_icmp .ge 54, 3) := by decide +kernel
theorem dX10_plays_66 : decode cX10_plays 66 = .ok (.aload_n 0, 1) := by decide +kernel
theorem dX10_plays_67 : decode cX10_plays 67 = .ok (.getfield 19, 3) := by decide +kernel
theorem dX10_plays_70 : decode cX10_plays 70 = .ok (.bipush 78, 2) := by decide +kernel
theorem dX10_plays_72 : decode cX10_plays 72 = .ok (.iconst 3, 1) := by decide +kernel
theorem dX10_plays_73 : decode cX10_plays 73 = .ok (.iload 6, 2) := by decide +kernel
theorem dX10_plays_75 : decode cX10_plays 75 = .ok (.imul, 1) := by decide +kernel
theorem dX10_plays_76 : decode cX10_plays 76 = .ok (.iadd, 1) := by decide +kernel
theorem dX10_plays_77 : decode cX10_plays 77 = .ok (.iconst 2, 1) := by decide +kernel
theorem dX10_plays_78 : decode cX10_plays 78 = .ok (.iadd, 1) := by decide +kernel
theorem dX10_plays_79 : decode cX10_plays 79 = .ok (.iaload, 1) := by decide +kernel
theorem dX10_plays_80 : decode cX10_plays 80 = .ok (.istore 7, 2) := by decide +kernel
theorem dX10_plays_82 : decode cX10_plays 82 = .ok (.iload 4, 2) := by decide +kernel
theorem dX10_plays_84 : decode cX10_plays 84 = .ok (.aload_n 0, 1) := by decide +kernel
theorem dX10_plays_85 : decode cX10_plays 85 = .ok (.iload 6, 2) := by decide +kernel
theorem dX10_plays_87 : decode cX10_plays 87 = .ok (.iload_n 2, 1) := by decide +kernel
theorem dX10_plays_88 : decode cX10_plays 88 = .ok (.invokevirtual 276, 3) := by decide +kernel
theorem dX10_plays_91 : decode cX10_plays 91 = .ok (.iload_n 1, 1) := by decide +kernel
theorem dX10_plays_92 : decode cX10_plays 92 = .ok (.if_icmp .gt 8, 3) := by decide +kernel
theorem dX10_plays_95 : decode cX10_plays 95 = .ok (.iload 7, 2) := by decide +kernel
theorem dX10_plays_97 : decode cX10_plays 97 = .ok (.goto 4, 3) := by decide +kernel
theorem dX10_plays_100 : decode cX10_plays 100 = .ok (.iconst 0, 1) := by decide +kernel
theorem dX10_plays_101 : decode cX10_plays 101 = .ok (.iadd, 1) := by decide +kernel
theorem dX10_plays_102 : decode cX10_plays 102 = .ok (.istore 4, 2) := by decide +kernel
theorem dX10_plays_104 : decode cX10_plays 104 = .ok (.iload 5, 2) := by decide +kernel
theorem dX10_plays_106 : decode cX10_plays 106 = .ok (.iload 7, 2) := by decide +kernel
theorem dX10_plays_108 : decode cX10_plays 108 = .ok (.iadd, 1) := by decide +kernel
theorem dX10_plays_109 : decode cX10_plays 109 = .ok (.istore 5, 2) := by decide +kernel
theorem dX10_plays_111 : decode cX10_plays 111 = .ok (.iinc 6 1, 3) := by decide +kernel
theorem dX10_plays_114 : decode cX10_plays 114 = .ok (.goto (-59), 3) := by decide +kernel
theorem dX10_plays_117 : decode cX10_plays 117 = .ok (.iload 4, 2) := by decide +kernel
theorem dX10_plays_119 : decode cX10_plays 119 = .ok (.istore 6, 2) := by decide +kernel
theorem dX10_plays_121 : decode cX10_plays 121 = .ok (.iload 5, 2) := by decide +kernel
theorem dX10_plays_123 : decode cX10_plays 123 = .ok (.istore 7, 2) := by decide +kernel
theorem dX10_plays_125 : decode cX10_plays 125 = .ok (.iload 7, 2) := by decide +kernel
theorem dX10_plays_127 : decode cX10_plays 127 = .ok (.ifCond .eq 21, 3) := by decide +kernel
theorem dX10_plays_130 : decode cX10_plays 130 = .ok (.iload 6, 2) := by decide +kernel
theorem dX10_plays_132 : decode cX10_plays 132 = .ok (.iload 7, 2) := by decide +kernel
theorem dX10_plays_134 : decode cX10_plays 134 = .ok (.irem, 1) := by decide +kernel
theorem dX10_plays_135 : decode cX10_plays 135 = .ok (.istore 8, 2) := by decide +kernel
theorem dX10_plays_137 : decode cX10_plays 137 = .ok (.iload 7, 2) := by decide +kernel
theorem dX10_plays_139 : decode cX10_plays 139 = .ok (.istore 6, 2) := by decide +kernel
theorem dX10_plays_141 : decode cX10_plays 141 = .ok (.iload 8, 2) := by decide +kernel
theorem dX10_plays_143 : decode cX10_plays 143 = .ok (.istore 7, 2) := by decide +kernel
theorem dX10_plays_145 : decode cX10_plays 145 = .ok (.goto (-20), 3) := by decide +kernel
theorem dX10_plays_148 : decode cX10_plays 148 = .ok (.iload 5, 2) := by decide +kernel
theorem dX10_plays_150 : decode cX10_plays 150 = .ok (.ifCond .ne 8, 3) := by decide +kernel
theorem dX10_plays_153 : decode cX10_plays 153 = .ok (.ldc 101, 2) := by decide +kernel
theorem dX10_plays_155 : decode cX10_plays 155 = .ok (.goto 17, 3) := by decide +kernel
theorem dX10_plays_158 : decode cX10_plays 158 = .ok (.iload_n 3, 1) := by decide +kernel
theorem dX10_plays_159 : decode cX10_plays 159 = .ok (.ifCond .ne 8, 3) := by decide +kernel
theorem dX10_plays_162 : decode cX10_plays 162 = .ok (.iload 4, 2) := by decide +kernel
theorem dX10_plays_164 : decode cX10_plays 164 = .ok (.goto 5, 3) := by decide +kernel
theorem dX10_plays_167 : decode cX10_plays 167 = .ok (.iload 5, 2) := by decide +kernel
theorem dX10_plays_169 : decode cX10_plays 169 = .ok (.iload 6, 2) := by decide +kernel
theorem dX10_plays_171 : decode cX10_plays 171 = .ok (.idiv, 1) := by decide +kernel
theorem dX10_plays_172 : decode cX10_plays 172 = .ok (.ireturn, 1) := by decide +kernel
set_option maxRecDepth 100000 in
theorem rX10_plays_0 {p : Program} {l : Launch} {e : Env} {s : State} {m : MethodId} {args : Array Value} {below : List Frame} {meth : Method} {c : Code} {D : va_G} {cA : Nat → ClassId} {ad : Nat → Nat} {Ret : zR} (C : z_Cx p { frames := 4, cells := 0, slots := 0, locals := 90 } s m args c cX10_plays yX10_plays.cls 9 D cA ad) (hr : meth.sig.returnType = (some .int)) (hlocks : meth.locks = false) : ∀ L st σ, tX10_plays_0 (z_X p l e { frames := 4, cells := 0, slots := 0, locals := 90 } s m args below meth c (MQ below (z_Qc D cA ad Ret) args s 0 0 (z_A ad)) 9 D cA ad true) Ret L st σ → z_X p l e { frames := 4, cells := 0, slots := 0, locals := 90 } s m args below meth c (MQ below (z_Qc D cA ad Ret) args s 0 0 (z_A ad)) 9 D cA ad true 0 L st σ := (s_aload_n C dX10_plays_0 rfl (s_iconst C dX10_plays_1 rfl ⟨by decide, by decide⟩ (s_puti C dX10_plays_2 cls_X10 (by decide) rfl wd_968 rfl rfl (s_aload_n C dX10_plays_5 rfl (s_geti C dX10_plays_6 cls_X10 (by decide) rfl wd_975 (s_ifne C dX10_plays_9 (by decide) (s_iload_n C dX10_plays_15 rfl (s_cs1 C dX10_plays_16 (okX10_isSlips l) wd_1296 wd_1297 wd_85 wd_1298 ⟨by decide, by decide, by decide +kernel⟩ ⟨by decide, by decide⟩ (s_ifeq C dX10_plays_19 (by decide) (s_ldc C dX10_plays_39 (v := -1000001) wd_1086 ⟨by decide, by decide⟩ (s_iret C dX10_plays_41 hr hlocks)) (s_iload_n C dX10_plays_22 rfl (s_cs1 C dX10_plays_23 (okX10_isApart l) wd_1273 wd_1274 wd_85 wd_1275 ⟨by decide, by decide, by decide +kernel⟩ ⟨by decide, by decide⟩ (s_ifeq C dX10_plays_26 (by decide) (s_ldc C dX10_plays_39 (v := -1000001) wd_1086 ⟨by decide, by decide⟩ (s_iret C dX10_plays_41 hr hlocks)) (s_iload_n C dX10_plays_29 rfl (s_i2l C dX10_plays_30 (s_lconst C dX10_plays_31 (v := 0) rfl ⟨by decide, by decide⟩ (s_lconst C dX10_plays_32 (v := 1) rfl ⟨by decide, by decide⟩ (s_cs3 C dX10_plays_33 (okX10_in l) wd_1082 wd_1083 wd_85 wd_1084 ⟨by decide, by decide, by decide +kernel⟩ ⟨by decide, by decide⟩ (s_ifne C dX10_plays_36 (by decide) (s_iconst C dX10_plays_42 rfl ⟨by decide, by decide⟩ (s_istore C dX10_plays_43 (by decide) rfl (s_iconst C dX10_plays_45 rfl ⟨by decide, by decide⟩ (s_istore C dX10_plays_46 (by decide) rfl (s_aload_n C dX10_plays_48 rfl (s_cv0 C dX10_plays_49 (okX10_layLengths l) cls_X10 wd_1228 wd_1230 wd_54 wd_85 wd_1231 ⟨by decide, by decide, by decide +kernel⟩ ⟨by decide, by decide⟩ (s_iconst C dX10_plays_52 rfl ⟨by decide, by decide⟩ (s_istore C dX10_plays_53 (by decide) rfl (fun _ _ _ h => h))))))))) (s_ldc C dX10_plays_39 (v := -1000001) wd_1086 ⟨by decide, by decide⟩ (s_iret C dX10_plays_41 hr hlocks)))))))))))))) (s_ldc C dX10_plays_12 (v := -1000002) wd_1191 ⟨by decide, by decide⟩ (s_iret C dX10_plays_14 hr hlocks))))))))
set_option maxRecDepth 100000 in
theorem rX10_plays_55 {p : Program} {l : Launch} {e : Env} {s : State} {m : MethodId} {args : Array Value} {below : List Frame} {meth : Method} {c : Code} {D : va_G} {cA : Nat → ClassId} {ad : Nat → Nat} {Ret : zR} (C : z_Cx p { frames := 4, cells := 0, slots := 0, locals := 90 } s m args c cX10_plays yX10_plays.cls 9 D cA ad) (hr : meth.sig.returnType = (some .int)) (hlocks : meth.locks = false) : ∀ L st σ, tX10_plays_55 (z_X p l e { frames := 4, cells := 0, slots := 0, locals := 90 } s m args below meth c (MQ below (z_Qc D cA ad Ret) args s 0 0 (z_A ad)) 9 D cA ad true) Ret L st σ → z_X p l e { frames := 4, cells := 0, slots := 0, locals := 90 } s m args below meth c (MQ below (z_Qc D cA ad Ret) args s 0 0 (z_A ad)) 9 D cA ad true 55 L st σ := (s_iload C dX10_plays_55 (s_aload_n C dX10_plays_57 rfl (s_getr C dX10_plays_58 (j := 5) cls_X10 (by decide) rfl (by decide) (by decide) (by decide +kernel) wd_973 (s_iconst C dX10_plays_61 rfl ⟨by decide, by decide⟩ (s_iald C dX10_plays_62 (s_icge C dX10_plays_63 (by decide) (s_iload C dX10_plays_117 (s_istore C dX10_plays_119 (by decide) rfl (s_iload C dX10_plays_121 (s_istore C dX10_plays_123 (by decide) rfl (fun _ _ _ h => h))))) (s_aload_n C dX10_plays_66 rfl (s_getr C dX10_plays_67 (j := 5) cls_X10 (by decide) rfl (by decide) (by decide) (by decide +kernel) wd_973 (s_bipush C dX10_plays_70 rfl ⟨by decide, by decide⟩ (s_iconst C dX10_plays_72 rfl ⟨by decide, by decide⟩ (s_iload C dX10_plays_73 (s_imul C dX10_plays_75 (s_iadd C dX10_plays_76 (s_iconst C dX10_plays_77 rfl ⟨by decide, by decide⟩ (s_iadd C dX10_plays_78 (s_iald C dX10_plays_79 (s_istore C dX10_plays_80 (by decide) rfl (s_iload C dX10_plays_82 (s_aload_n C dX10_plays_84 rfl (s_iload C dX10_plays_85 (s_iload_n C dX10_plays_87 rfl (s_cv2 C dX10_plays_88 (okX10_slipsIn l) cls_X10 wd_1277 wd_1279 wd_62 wd_85 wd_1280 ⟨by decide, by decide, by decide +kernel⟩ ⟨by decide, by decide⟩ (s_iload_n C dX10_plays_91 rfl (s_icgt C dX10_plays_92 (by decide) (s_iconst C dX10_plays_100 rfl ⟨by decide, by decide⟩ (s_iadd C dX10_plays_101 (s_istore C dX10_plays_102 (by decide) rfl (s_iload C dX10_plays_104 (s_iload C dX10_plays_106 (s_iadd C dX10_plays_108 (s_istore C dX10_plays_109 (by decide) rfl (s_iinc C dX10_plays_111 (by decide) rfl (s_goto C dX10_plays_114 (by decide) (fun _ _ _ h => h)))))))))) (s_iload C dX10_plays_95 (s_goto C dX10_plays_97 (by decide) (s_iadd C dX10_plays_101 (s_istore C dX10_plays_102 (by decide) rfl (s_iload C dX10_plays_104 (s_iload C dX10_plays_106 (s_iadd C dX10_plays_108 (s_istore C dX10_plays_109 (by decide) rfl (s_iinc C dX10_plays_111 (by decide) rfl (s_goto C dX10_plays_114 (by decide) (fun _ _ _ h => h)))))))))))))))))))))))))))))))))))
set_option maxRecDepth 100000 in
theorem rX10_plays_125 {p : Program} {l : Launch} {e : Env} {s : State} {m : MethodId} {args : Array Value} {below : List Frame} {meth : Method} {c : Code} {D : va_G} {cA : Nat → ClassId} {ad : Nat → Nat} {Ret : zR} (C : z_Cx p { frames := 4, cells := 0, slots := 0, locals := 90 } s m args c cX10_plays yX10_plays.cls 9 D cA ad) (hr : meth.sig.returnType = (some .int)) (hlocks : meth.locks = false) : ∀ L st σ, tX10_plays_125 (z_X p l e { frames := 4, cells := 0, slots := 0, locals := 90 } s m args below meth c (MQ below (z_Qc D cA ad Ret) args s 0 0 (z_A ad)) 9 D cA ad true) Ret L st σ → z_X p l e { frames := 4, cells := 0, slots := 0, locals := 90 } s m args below meth c (MQ below (z_Qc D cA ad Ret) args s 0 0 (z_A ad)) 9 D cA ad true 125 L st σ := (s_iload C dX10_plays_125 (s_ifeq C dX10_plays_127 (by decide) (s_iload C dX10_plays_148 (s_ifne C dX10_plays_150 (by decide) (s_iload_n C dX10_plays_158 rfl (s_ifne C dX10_plays_159 (by decide) (s_iload C dX10_plays_167 (s_iload C dX10_plays_169 (s_idiv C dX10_plays_171 (s_iret C dX10_plays_172 hr hlocks)))) (s_iload C dX10_plays_162 (s_goto C dX10_plays_164 (by decide) (s_iload C dX10_plays_169 (s_idiv C dX10_plays_171 (s_iret C dX10_plays_172 hr hlocks))))))) (s_ldc C dX10_plays_153 (v := -1000000) wd_1127 ⟨by decide, by decide⟩ (s_goto C dX10_plays_155 (by decide) (s_iret C dX10_plays_172 hr hlocks))))) (s_iload C dX10_plays_130 (s_iload C dX10_plays_132 (s_irem C dX10_plays_134 (s_istore C dX10_plays_135 (by decide) rfl (s_iload C dX10_plays_137 (s_istore C dX10_plays_139 (by decide) rfl (s_iload C dX10_plays_141 (s_istore C dX10_plays_143 (by decide) rfl (s_goto C dX10_plays_145 (by decide) (fun _ _ _ h => h))))))))))))
theorem okX10_plays (l : Launch) : z_OK l yX10_plays cX10_plays 9 (some .int) 4 90 SX10_plays := by
  refine z_ok_of true (by decide +kernel) ?_ ?_
  · intro as σ Ret h
    obtain ⟨k0, x1, x2, x3, rfl⟩ := pX10_plays h
    exact ⟨Nat.le_of_ble_eq_true rfl, by simp⟩
  · intro p e s m args below meth c D cA ad Ret C hr hlocks as σ has hσ h
    obtain ⟨k0, x1, x2, x3, rfl⟩ := pX10_plays h
    exact vX10_plays (rX10_plays_0 C hr hlocks) (rX10_plays_55 C hr hlocks) (rX10_plays_125 C hr hlocks) k0 x1 x2 x3 σ (has _ (List.mem_of_getElem? (i := 0) rfl)) (has _ (List.mem_of_getElem? (i := 1) rfl)) (has _ (List.mem_of_getElem? (i := 2) rfl)) (has _ (List.mem_of_getElem? (i := 3) rfl)) hσ h
