/-! in which year it must be tuned: both -/
theorem q_Dok_3 {D : Nat → Int} (k : q_Dok D) (v : Int) : q_Dok (q_d1 D 3 v) := by
  obtain ⟨⟨a0, a1, a2, a4, a5⟩, hT, hW, hJ⟩ := k
  have ne : ∀ j, j ≠ 3 → q_d1 D 3 v j = D j := fun j hj => if_neg hj
  unfold q_Dok
  rw [ne 0 (by omega), ne 1 (by omega), ne 2 (by omega), ne 4 (by omega), ne 5 (by omega)]
  refine ⟨⟨a0, a1, a2, a4, a5⟩, fun t' h1 => ?_, fun w h1 => ?_, fun j h1 => ?_⟩
  · rw [ne _ (by omega), ne _ (by omega), ne _ (by omega), ne _ (by omega), ne _ (by omega), ne _ (by omega)]
    exact hT t' h1
  · rw [ne _ (by omega), ne _ (by omega), ne _ (by omega)]
    exact hW w h1
  · rw [ne _ (by omega)]
    exact hJ j h1
theorem q_gwD_ne {D : Nat → Int} {n : Int} {j : Nat} (h : ¬ (6 ≤ j ∧ (j : Int) < 6 + 6 * D 0 ∧ j % 6 = 0)) : q_gwD D n j = D j := by
  unfold q_gwD
  rw [if_neg (fun q => h q.1)]
theorem q_gwD_ok {D : Nat → Int} (k : q_Dok D) (n : Int) : q_Dok (q_gwD D n) := by
  have k0 := k.1.1
  have k1 := k.1.2.1
  have k2 := k.1.2.2.1
  obtain ⟨⟨a0, a1, a2, a4, a5⟩, hT, hW, hJ⟩ := k
  have k : q_Dok D := ⟨⟨a0, a1, a2, a4, a5⟩, hT, hW, hJ⟩
  unfold q_Dok
  rw [q_gwD_ne (j := 0) (by omega), q_gwD_ne (j := 1) (by omega), q_gwD_ne (j := 2) (by omega), q_gwD_ne (j := 4) (by omega), q_gwD_ne (j := 5) (by omega)]
  refine ⟨⟨a0, a1, a2, a4, a5⟩, fun t h1 => ?_, fun w h1 => ?_, fun j h1 => ?_⟩
  · have q := q_gwD_in (n := n) k h1
    rw [q_gwD_ne (j := 6 + 6 * t + 1) (by omega), q_gwD_ne (j := 6 + 6 * t + 2) (by omega), q_gwD_ne (j := 6 + 6 * t + 3) (by omega), q_gwD_ne (j := 6 + 6 * t + 4) (by omega), q_gwD_ne (j := 6 + 6 * t + 5) (by omega)]
    exact ⟨q, (hT t h1).2⟩
  · rw [q_gwD_ne (by omega), q_gwD_ne (by omega), q_gwD_ne (by omega)]
    exact hW w h1
  · rw [q_gwD_ne (by omega)]
    exact hJ j h1
theorem q_gwD_S {D : Nat → Int} (k : q_Dok D) {n v : Int} (hn : 0 ≤ n) (j : Nat) (hj : j ≠ 3) : q_gwD (q_d1 (q_gwD D n) 3 v) 1 j = q_gwD D (n + 1) j := by
  have e0 : q_d1 (q_gwD D n) 3 v 0 = D 0 := by rw [q_d1_ne (by omega), q_gwD_ne (by omega)]
  by_cases c : 6 ≤ j ∧ (j : Int) < 6 + 6 * D 0 ∧ j % 6 = 0
  · obtain ⟨t, ht⟩ : ∃ t, j = 6 + 6 * t + 0 := ⟨(j - 6) / 6, by omega⟩
    subst ht
    have ht : (t : Int) < D 0 := by omega
    have q := k.2.1 t ht
    rw [q_gwD_at (D := q_d1 (q_gwD D n) 3 v) (by rw [e0]; exact ht), q_gwD_at (n := n + 1) ht]
    rw [q_d1_ne (show 6 + 6 * t + 4 ≠ 3 by omega), q_d1_ne (show 6 + 6 * t + 5 ≠ 3 by omega), q_d1_ne (show 6 + 6 * t + 3 ≠ 3 by omega), q_d1_ne (show 6 + 6 * t + 0 ≠ 3 by omega)]
    rw [q_gwD_ne (j := 6 + 6 * t + 4) (by omega), q_gwD_ne (j := 6 + 6 * t + 5) (by omega), q_gwD_ne (j := 6 + 6 * t + 3) (by omega), q_gwD_at ht]
    have hm : (n + 1) * D (6 + 6 * t + 3) = n * D (6 + 6 * t + 3) + D (6 + 6 * t + 3) := by rw [Int.add_mul, Int.one_mul]
    have hp : 0 ≤ n * D (6 + 6 * t + 3) := Int.mul_nonneg hn (by omega)
    rw [hm, Int.one_mul]
    generalize n * D (6 + 6 * t + 3) = y at hp
    by_cases c : D (6 + 6 * t + 4) = 0 ∧ D (6 + 6 * t + 5) = 0
    · rw [if_pos c, if_pos c, if_pos c]
      omega
    · rw [if_neg c, if_neg c, if_neg c]
  · rw [q_gwD_ne (D := q_d1 (q_gwD D n) 3 v) (by rw [e0]; exact c), q_d1_ne hj, q_gwD_ne c, q_gwD_ne c]
theorem q_slD_cg {D E : Nat → Int} (h : ∀ j, j ≠ 3 → E j = D j) (w : Nat) (t : Int) : q_slD E w t = q_slD D w t := by
  have sd : ∀ i, q_sdD E w i = q_sdD D w i := fun i => by
    unfold q_sdD
    rw [h _ (by omega), h _ (by omega), h _ (by omega), h _ (by omega), h _ (by omega), h _ (by omega)]
  have ls : q_lsD E w = q_lsD D w := by
    unfold q_lsD
    rw [h 0 (by omega)]
    exact q_ls_cg _ (fun i _ => sd i)
  have tn : ∀ i, q_tnD E i = q_tnD D i := fun i => by
    unfold q_tnD
    rw [h _ (by omega), h _ (by omega), h _ (by omega)]
  unfold q_slD
  rw [ls, h 2 (by omega)]
  refine q_dp_cg _ _ (fun i j _ _ => q_c_cg (tn _) (h _ (by omega)))
def q_tnd (D : Nat → Int) (w : Nat) (x t : Int) : Nat → Nat → Int
  | 0, _ => -1000000
  | d + 1, y => if x < q_slD (q_gwD D y) w t then y else q_tnd D w x t d (y + 1)
def q_gTuned (w x t : Int) (τ : zM) : Int := if ¬ ((0 ≤ w ∧ w < τ 93 1) ∧ (0 ≤ x ∧ x ≤ 20) ∧ 0 ≤ t ∧ t ≤ 99) then -1000001 else q_tnd (τ 93) w.toNat x t 61 0
def SX9_tuned : zS := fun as σ Ret => match as with
  | [.inr (.inr (9, 0, _)), .inl w, .inl x, .inl t] => q_S9 (q_gTuned w x t) q_fId σ Ret
  | _ => False
def tX9_tuned_0 (X : Nat → zB) (Ret : zR) (L : zL) (st : List zV) (σ : zM) : Prop := (z_aload 0 (z_getr 9 8 8 0 (z_getr 8 8 7 0 (z_iload 1 (z_cv1 7 SX7_has (z_ifeq (z_push (-1000001) (z_iret Ret)) (z_iload 2 (z_cs1 SX9_isSlack (z_ifeq (z_push (-1000001) (z_iret Ret)) (z_iload 3 (z_cs1 SX9_isApart (z_ifne (z_aload 0 (z_getr 9 25 8 0 (z_aload 0 (z_getr 9 8 8 0 (z_cv1 8 SX8_takeOver (z_push 0 (z_istore 4 (X 45)))))))) (z_push (-1000001) (z_iret Ret)))))))))))))) L st σ
def tX9_tuned_45 (X : Nat → zB) (Ret : zR) (L : zL) (st : List zV) (σ : zM) : Prop := (z_iload 4 (z_push 60 (z_icgt (z_push (-1000000) (z_iret Ret)) (z_aload 0 (z_aload 0 (z_getr 9 25 8 0 (z_iload 1 (z_iload 3 (z_cv3 9 SX9_slipsIn (z_iload 2 (z_icle (z_aload 0 (z_getr 9 25 8 0 (z_push 1 (z_cv1 8 SX8_grow (z_iinc 4 1 (z_goto (X 45))))))) (z_iload 4 (z_iret Ret))))))))))))) L st σ
theorem pX9_tuned {as : List zV} {σ : zM} {Ret : zR} (h : SX9_tuned as σ Ret) : ∃ (k0 : Nat) (x1 : Int) (x2 : Int) (x3 : Int), as = [.inr (.inr (9, 0, k0)), .inl x1, .inl x2, .inl x3] := by
  unfold SX9_tuned at h
  split at h
  · exact ⟨_, _, _, _, rfl⟩
  · exact h.elim
set_option maxRecDepth 10000 in
set_option maxHeartbeats 4000000 in
theorem vX9_tuned {X : Nat → zB} {Ret : zR} (h0 : ∀ L st σ, tX9_tuned_0 X Ret L st σ → X 0 L st σ) (h45 : ∀ L st σ, tX9_tuned_45 X Ret L st σ → X 45 L st σ) (k0 : Nat) (x1 : Int) (x2 : Int) (x3 : Int) (σ : zM) (hk0 : z_kd k0 = (9, 0)) (hx1 : -2147483648 ≤ x1 ∧ x1 ≤ 2147483647) (hx2 : -2147483648 ≤ x2 ∧ x2 ≤ 2147483647) (hx3 : -2147483648 ≤ x3 ∧ x3 ≤ 2147483647) (hσ : z_okm σ) (h : SX9_tuned [.inr (.inr (9, 0, k0)), .inl x1, .inl x2, .inl x3] σ Ret) : X 0 [some (.inr (.inr (9, 0, k0))), some (.inl x1), some (.inl x2), some (.inl x3), none] [] σ := by
  obtain ⟨⟨R, m⟩, h⟩ := h
  obtain rfl := z_kd9 hk0
  have WW := R.2.2.2.2.1
  have W := WW.1
  have K := m.2.1.1
  have W1 : σ 16 3 = σ 93 1 := W.1.2.1.1
  have K0 := K.1.1
  have K1 := K.1.2.1
  have h7 := m.2.1.2.2.1
  by_cases c : ¬ ((0 ≤ x1 ∧ x1 < σ 93 1) ∧ (0 ≤ x2 ∧ x2 ≤ 20) ∧ 0 ≤ x3 ∧ x3 ≤ 99)
  · have fin := h σ (fun _ _ => rfl) R
    simp only [q_gTuned, if_pos c] at fin
    refine h0 _ _ _ ?_
    simp only [z_push, z_lpush, z_iload, z_lload, z_aload, z_istore, z_istoreP, z_lstore, z_astore, z_iinc, z_iincP, z_iadd, z_isub, z_imul, z_iaddW, z_isubW, z_imulW, z_idiv, z_irem, z_iand, z_ior, z_ixor, z_ishl, z_ishr, z_iushr, z_ineg, z_i2l, z_i2b, z_i2s, z_i2c, z_l2i, z_ladd, z_lsub, z_land, z_lor, z_lshl, z_lshr, z_lcmp, z_dup, z_pop, z_dup2, z_goto, z_tsw, z_cases, z_geti, z_getr, z_puti, z_putz, z_ald, z_iast, z_bast, z_zast, z_alen, z_acopy, z_mmax, z_mmin, z_mabs, z_mabsL, z_iret, z_zret, z_nret, z_lret, z_aret, z_vret, z_cat, z_ldcs, z_strv, z_strc, z_gcs, z_gfm, z_sln, z_sald, z_ifeq, z_ifne, z_iflt, z_ifge, z_ifgt, z_ifle, z_iceq, z_icne, z_iclt, z_icge, z_icgt, z_icle, z_cs0, z_cs1, z_cs2, z_cs3, z_cs4, z_cs5, z_cs6, z_cs7, z_cv0, z_cv1, z_cv2, z_cv3, z_cv4, z_cv5, z_cv6, z_cv7, z_g0, z_s0, z_g1, z_s1, z_g2, z_s2, z_g3, z_s3, z_g4, z_s4, z_g5, z_s5, z_g6, z_s6, z_g7, z_s7, z_g8, z_s8, z_g9, z_s9, z_g10, z_s10, z_g11, z_s11, z_g12, z_s12, z_g13, z_s13, z_b0, z_b1, z_b0n, z_b1n, z_up_far1, z_up_far2, z_up_far3, z_up_far4, z_up_far5, z_up_far6, Classical.not_not, not_true_eq_false, z_in, z_inL, Int.cast_ofNat_Int, Nat.reduceLeDiff, List.length_cons, List.length_nil, Nat.reduceAdd, Nat.zero_add, Nat.le_refl, true_and, and_true, List.length, Nat.reduceLT, true_or, or_true, false_or, or_false, false_and, and_false, not_true_eq_false, not_false_eq_true, forall_const, false_implies, true_implies, Int.reduceEq, Int.reduceLT, Int.reduceLE, Int.reduceAdd, Int.reduceSub, Int.reduceMul, Int.reduceNeg, Int.reduceToNat, Int.toNat_natCast, ↓reduceIte, reduceIte, Nat.reduceEqDiff, Nat.reduceSub, Nat.reduceMul, ne_eq, Int.zero_add, Int.add_zero, Int.sub_zero, Nat.add_zero, Int.ofNat_eq_natCast, tX9_tuned_0, SX7_has, SX9_isSlack, SX9_isApart, W1]
    repeat' (first | (intro _) | (with_reducible assumption) | (refine And.intro ?_ ?_))
    all_goals first | omega | assumption | (refine z_fin fin ?_ rfl; first | rfl | omega | (split <;> omega) | (split <;> split <;> omega)) | skip
  obtain ⟨w, rfl⟩ := z_nat (show 0 ≤ x1 by omega)
  have key : ∀ v, q_tnd (σ 93) w x2 x3 61 0 = v → ∀ σ1 : zM, (∀ c j, ¬ (25 ≤ c ∧ c ≤ 41 ∨ 80 ≤ c ∧ c ≤ 83) → σ1 c j = σ c j) → Ret (some (.inl v)) σ1 := by
    intro v hv σ1 f1
    have e9 : ∀ c, 89 ≤ c → σ1 c = σ c := fun c hc => funext fun j => f1 c j (by omega)
    have fin := h σ1 e9 (q_R2_id R (fun c j hc => f1 c j (by unfold q_lastP at hc; omega)))
    simp only [q_gTuned, e9 93 (by omega), if_neg c, Int.toNat_natCast] at fin
    rw [hv] at fin
    exact fin
  have L45 : ∀ (d y : Nat) (yr : Int) (σ1 : zM), y + d = 61 → (∀ c j, ¬ (25 ≤ c ∧ c ≤ 41 ∨ 80 ≤ c ∧ c ≤ 83) → σ1 c j = σ c j) → q_wd σ1 25 (q_d1 (q_gwD (σ 93) y) 3 yr) → q_tnd (σ 93) w x2 x3 d y = q_tnd (σ 93) w x2 x3 61 0 → X 45 [some (.inr (.inr (9, 0, 0))), some (.inl (w : Int)), some (.inl x2), some (.inl x3), some (.inl (y : Int))] [] σ1 := by
    intro d
    induction d with
    | zero =>
      intro y yr σ1 hy f1 g1 hq
      have fin := key _ hq.symm σ1 f1
      refine h45 _ _ _ ?_
      simp only [z_push, z_lpush, z_iload, z_lload, z_aload, z_istore, z_istoreP, z_lstore, z_astore, z_iinc, z_iincP, z_iadd, z_isub, z_imul, z_iaddW, z_isubW, z_imulW, z_idiv, z_irem, z_iand, z_ior, z_ixor, z_ishl, z_ishr, z_iushr, z_ineg, z_i2l, z_i2b, z_i2s, z_i2c, z_l2i, z_ladd, z_lsub, z_land, z_lor, z_lshl, z_lshr, z_lcmp, z_dup, z_pop, z_dup2, z_goto, z_tsw, z_cases, z_geti, z_getr, z_puti, z_putz, z_ald, z_iast, z_bast, z_zast, z_alen, z_acopy, z_mmax, z_mmin, z_mabs, z_mabsL, z_iret, z_zret, z_nret, z_lret, z_aret, z_vret, z_cat, z_ldcs, z_strv, z_strc, z_gcs, z_gfm, z_sln, z_sald, z_ifeq, z_ifne, z_iflt, z_ifge, z_ifgt, z_ifle, z_iceq, z_icne, z_iclt, z_icge, z_icgt, z_icle, z_cs0, z_cs1, z_cs2, z_cs3, z_cs4, z_cs5, z_cs6, z_cs7, z_cv0, z_cv1, z_cv2, z_cv3, z_cv4, z_cv5, z_cv6, z_cv7, z_g0, z_s0, z_g1, z_s1, z_g2, z_s2, z_g3, z_s3, z_g4, z_s4, z_g5, z_s5, z_g6, z_s6, z_g7, z_s7, z_g8, z_s8, z_g9, z_s9, z_g10, z_s10, z_g11, z_s11, z_g12, z_s12, z_g13, z_s13, z_b0, z_b1, z_b0n, z_b1n, z_up_far1, z_up_far2, z_up_far3, z_up_far4, z_up_far5, z_up_far6, Classical.not_not, not_true_eq_false, z_in, z_inL, Int.cast_ofNat_Int, Nat.reduceLeDiff, List.length_cons, List.length_nil, Nat.reduceAdd, Nat.zero_add, Nat.le_refl, true_and, and_true, List.length, Nat.reduceLT, true_or, or_true, false_or, or_false, false_and, and_false, not_true_eq_false, not_false_eq_true, forall_const, false_implies, true_implies, Int.reduceEq, Int.reduceLT, Int.reduceLE, Int.reduceAdd, Int.reduceSub, Int.reduceMul, Int.reduceNeg, Int.reduceToNat, Int.toNat_natCast, ↓reduceIte, reduceIte, Nat.reduceEqDiff, Nat.reduceSub, Nat.reduceMul, ne_eq, Int.zero_add, Int.add_zero, Int.sub_zero, Nat.add_zero, Int.ofNat_eq_natCast, tX9_tuned_45]
      repeat' (first | (intro _) | (with_reducible assumption) | (refine And.intro ?_ ?_))
      all_goals first | omega | assumption | (refine z_fin fin ?_ rfl; first | rfl | omega | (split <;> omega) | (split <;> split <;> omega)) | skip
    | succ d ih =>
      intro y yr σ1 hy f1 g1 hq
      rw [q_tnd] at hq
      have Dk := q_Dok_3 (q_gwD_ok K y) yr
      have e1 : q_d1 (q_gwD (σ 93) y) 3 yr 1 = σ 93 1 := by rw [q_d1_ne (by omega), q_gwD_ne (by omega)]
      have sl : q_slD (q_d1 (q_gwD (σ 93) y) 3 yr) w x3 = q_slD (q_gwD (σ 93) y) w x3 := q_slD_cg (fun j hj => q_d1_ne hj) w x3
      refine h45 _ _ _ ?_
      simp only [z_push, z_lpush, z_iload, z_lload, z_aload, z_istore, z_istoreP, z_lstore, z_astore, z_iinc, z_iincP, z_iadd, z_isub, z_imul, z_iaddW, z_isubW, z_imulW, z_idiv, z_irem, z_iand, z_ior, z_ixor, z_ishl, z_ishr, z_iushr, z_ineg, z_i2l, z_i2b, z_i2s, z_i2c, z_l2i, z_ladd, z_lsub, z_land, z_lor, z_lshl, z_lshr, z_lcmp, z_dup, z_pop, z_dup2, z_goto, z_tsw, z_cases, z_geti, z_getr, z_puti, z_putz, z_ald, z_iast, z_bast, z_zast, z_alen, z_acopy, z_mmax, z_mmin, z_mabs, z_mabsL, z_iret, z_zret, z_nret, z_lret, z_aret, z_vret, z_cat, z_ldcs, z_strv, z_strc, z_gcs, z_gfm, z_sln, z_sald, z_ifeq, z_ifne, z_iflt, z_ifge, z_ifgt, z_ifle, z_iceq, z_icne, z_iclt, z_icge, z_icgt, z_icle, z_cs0, z_cs1, z_cs2, z_cs3, z_cs4, z_cs5, z_cs6, z_cs7, z_cv0, z_cv1, z_cv2, z_cv3, z_cv4, z_cv5, z_cv6, z_cv7, z_g0, z_s0, z_g1, z_s1, z_g2, z_s2, z_g3, z_s3, z_g4, z_s4, z_g5, z_s5, z_g6, z_s6, z_g7, z_s7, z_g8, z_s8, z_g9, z_s9, z_g10, z_s10, z_g11, z_s11, z_g12, z_s12, z_g13, z_s13, z_b0, z_b1, z_b0n, z_b1n, z_up_far1, z_up_far2, z_up_far3, z_up_far4, z_up_far5, z_up_far6, Classical.not_not, not_true_eq_false, z_in, z_inL, Int.cast_ofNat_Int, Nat.reduceLeDiff, List.length_cons, List.length_nil, Nat.reduceAdd, Nat.zero_add, Nat.le_refl, true_and, and_true, List.length, Nat.reduceLT, true_or, or_true, false_or, or_false, false_and, and_false, not_true_eq_false, not_false_eq_true, forall_const, false_implies, true_implies, Int.reduceEq, Int.reduceLT, Int.reduceLE, Int.reduceAdd, Int.reduceSub, Int.reduceMul, Int.reduceNeg, Int.reduceToNat, Int.toNat_natCast, ↓reduceIte, reduceIte, Nat.reduceEqDiff, Nat.reduceSub, Nat.reduceMul, ne_eq, Int.zero_add, Int.add_zero, Int.sub_zero, Nat.add_zero, Int.ofNat_eq_natCast, tX9_tuned_45, SX9_slipsIn, SX8_grow]
      refine ⟨fun e => absurd e (by omega), fun _ => ⟨_, ⟨g1, Dk, by rw [e1]; omega⟩, fun σ2 f2 => ?_⟩⟩
      rw [sl]
      have f12 : ∀ c j, ¬ (25 ≤ c ∧ c ≤ 41 ∨ 80 ≤ c ∧ c ≤ 83) → σ2 c j = σ c j := fun c j hc => by rw [f2 c j (by omega), f1 c j hc]
      have g2 : q_wd σ2 25 (q_d1 (q_gwD (σ 93) y) 3 yr) := g1.fr (fun c j h1 h2 => f2 c j (by omega))
      refine ⟨fun e => ?_, fun e => ?_⟩
      · rw [if_neg (by omega)] at hq
        have t0 : σ2 26 6 = q_d1 (q_gwD (σ 93) y) 3 yr 0 := g2.1.1.1
        have d0 := Dk.1.1
        refine ⟨⟨by omega, fun j hj => ?_⟩, by omega, ?_⟩
        · have q := Dk.2.1 j (by omega)
          have T0 : σ2 27 j = _ := g2.2.1 j 0 (by omega) (by omega)
          have T3 : σ2 30 j = _ := g2.2.1 j 3 (by omega) (by omega)
          rw [T0, T3]
          exact ⟨by omega, by omega⟩
        · refine ih (y + 1) (z_wr (σ2 25 5 + 1)) _ (by omega) (fun c j hc => ?_) ?_ hq
          · rw [z_up_ne (by omega), q_grow_ne (by omega)]
            exact f12 c j hc
          · have g3 := q_gwD_wd (y := 1) (v := z_wr (σ2 25 5 + 1)) (σ' := z_up (q_grow σ2 26 1 (σ2 26 6).toNat) 25 5 (z_wr (σ2 25 5 + 1))) g2 (fun c j hc => by rw [z_up_ne (by omega), q_grow_ne (by omega)]) (fun t ht => by
              rw [z_up_ne (by omega)]
              unfold q_grow
              by_cases c : σ2 (25 + 6) t = 0 ∧ σ2 (25 + 7) t = 0
              · rw [if_pos c, if_pos ⟨rfl, by omega, c⟩]
              · rw [if_neg c, if_neg (fun q => c q.2.2)]) z_up_eq
            have ef : q_d1 (q_gwD (q_d1 (q_gwD (σ 93) y) 3 yr) 1) 3 (z_wr (σ2 25 5 + 1)) = q_d1 (q_gwD (σ 93) ((y + 1 : Nat) : Int)) 3 (z_wr (σ2 25 5 + 1)) := by
              funext j
              by_cases e : j = 3
              · subst e; rw [q_d1_eq, q_d1_eq]
              · rw [q_d1_ne e, q_d1_ne e, q_gwD_S K (by omega) j e]; rfl
            rw [ef] at g3
            exact g3
      · rw [if_pos (by omega)] at hq
        exact key _ hq.symm σ2 f12
  refine h0 _ _ _ ?_
  simp only [z_push, z_lpush, z_iload, z_lload, z_aload, z_istore, z_istoreP, z_lstore, z_astore, z_iinc, z_iincP, z_iadd, z_isub, z_imul, z_iaddW, z_isubW, z_imulW, z_idiv, z_irem, z_iand, z_ior, z_ixor, z_ishl, z_ishr, z_iushr, z_ineg, z_i2l, z_i2b, z_i2s, z_i2c, z_l2i, z_ladd, z_lsub, z_land, z_lor, z_lshl, z_lshr, z_lcmp, z_dup, z_pop, z_dup2, z_goto, z_tsw, z_cases, z_geti, z_getr, z_puti, z_putz, z_ald, z_iast, z_bast, z_zast, z_alen, z_acopy, z_mmax, z_mmin, z_mabs, z_mabsL, z_iret, z_zret, z_nret, z_lret, z_aret, z_vret, z_cat, z_ldcs, z_strv, z_strc, z_gcs, z_gfm, z_sln, z_sald, z_ifeq, z_ifne, z_iflt, z_ifge, z_ifgt, z_ifle, z_iceq, z_icne, z_iclt, z_icge, z_icgt, z_icle, z_cs0, z_cs1, z_cs2, z_cs3, z_cs4, z_cs5, z_cs6, z_cs7, z_cv0, z_cv1, z_cv2, z_cv3, z_cv4, z_cv5, z_cv6, z_cv7, z_g0, z_s0, z_g1, z_s1, z_g2, z_s2, z_g3, z_s3, z_g4, z_s4, z_g5, z_s5, z_g6, z_s6, z_g7, z_s7, z_g8, z_s8, z_g9, z_s9, z_g10, z_s10, z_g11, z_s11, z_g12, z_s12, z_g13, z_s13, z_b0, z_b1, z_b0n, z_b1n, z_up_far1, z_up_far2, z_up_far3, z_up_far4, z_up_far5, z_up_far6, Classical.not_not, not_true_eq_false, z_in, z_inL, Int.cast_ofNat_Int, Nat.reduceLeDiff, List.length_cons, List.length_nil, Nat.reduceAdd, Nat.zero_add, Nat.le_refl, true_and, and_true, List.length, Nat.reduceLT, true_or, or_true, false_or, or_false, false_and, and_false, not_true_eq_false, not_false_eq_true, forall_const, false_implies, true_implies, Int.reduceEq, Int.reduceLT, Int.reduceLE, Int.reduceAdd, Int.reduceSub, Int.reduceMul, Int.reduceNeg, Int.reduceToNat, Int.toNat_natCast, ↓reduceIte, reduceIte, Nat.reduceEqDiff, Nat.reduceSub, Nat.reduceMul, ne_eq, Int.zero_add, Int.add_zero, Int.sub_zero, Nat.add_zero, Int.ofNat_eq_natCast, tX9_tuned_0, SX7_has, SX9_isSlack, SX9_isApart, SX8_takeOver, W1]
  have W3 := WW.2.2
  refine ⟨fun e => absurd e (by omega), fun _ => ⟨fun e => absurd e (by omega), fun _ => ⟨fun _ => ⟨by omega, fun σ1 f1 f2 => ?_⟩, fun e => absurd e (by omega)⟩⟩⟩
  have g1 : q_wd σ1 25 (σ 93) := (q_W_take WW (fun i j hv => f2 i j hv)).1
  have g2 : q_wd σ1 25 (q_d1 (q_gwD (σ 93) ((0 : Nat) : Int)) 3 (σ 93 3)) := by
    have ef : q_d1 (q_gwD (σ 93) ((0 : Nat) : Int)) 3 (σ 93 3) = σ 93 := by
      funext j
      by_cases e : j = 3
      · subst e; rw [q_d1_eq]
      · rw [q_d1_ne e]
        by_cases c : 6 ≤ j ∧ (j : Int) < 6 + 6 * σ 93 0 ∧ j % 6 = 0
        · obtain ⟨t, ht⟩ : ∃ t, j = 6 + 6 * t + 0 := ⟨(j - 6) / 6, by omega⟩
          subst ht
          exact q_gwD_0 K (by omega)
        · exact q_gwD_ne c
    rw [ef]
    exact g1
  exact L45 61 0 (σ 93 3) σ1 (by omega) (fun c j hc => f1 c j (by omega)) g2 rfl
theorem dX9_tuned_0 : decode cX9_tuned 0 = .ok (.aload_n 0, 1) := by decide +kernel
theorem dX9_tuned_1 : decode cX9_tuned 1 = .ok (.getfield 26, 3) := by decide +kernel
theorem dX9_tuned_4 : decode cX9_tuned 4 = .ok (.getfield 194, 3) := by decide +kernel
theorem dX9_tuned_7 : decode cX9_tuned 7 = .ok (.iload_n 1, 1) := by decide +kernel
theorem dX9_tuned_8 : decode cX9_tuned 8 = .ok (.invokevirtual 198, 3) := by decide +kernel
theorem dX9_tuned_11 : decode cX9_tuned 11 = .ok (.ifCond .eq 17, 3) := by decide +kernel
theorem dX9_tuned_14 : decode cX9_tuned 14 = .ok (.iload_n 2, 1) := by decide +kernel
theorem dX9_tuned_15 : decode cX9_tuned 15 = .ok (.invokestatic 217, 3) := by decide +kernel
theorem dX9_tuned_18 : decode cX9_tuned 18 = .ok (.ifCond .eq 10, 3) := by decide +kernel
theorem dX9_tuned_21 : decode cX9_tuned 21 = .ok (.iload_n 3, 1) := by decide +kernel
theorem dX9_tuned_22 : decode cX9_tuned 22 = .ok (.invokestatic 210, 3) := by decide +kernel
theorem dX9_tuned_25 : decode cX9_tuned 25 = .ok (.ifCond .ne 6, 3) := by decide +kernel
theorem dX9_tuned_28 : decode cX9_tuned 28 = .ok (.ldc 75, 2) := by decide +kernel
theorem dX9_tuned_30 : decode cX9_tuned 30 = .ok (.ireturn, 1) := by decide +kernel
theorem dX9_tuned_31 : decode cX9_tuned 31 = .ok (.aload_n 0, 1) := by decide +kernel
theorem dX9_tuned_32 : decode cX9_tuned 32 = .ok (.getfield 30, 3) := by decide +kernel
theorem dX9_tuned_35 : decode cX9_tuned 35 = .ok (.aload_n 0, 1) := by decide +kernel
theorem dX9_tuned_36 : decode cX9_tuned 36 = .ok (.getfield 26, 3) := by decide +kernel
theorem dX9_tuned_39 : decode cX9_tuned 39 = .ok (.invokevirtual 129, 3) := by decide +kernel
theorem dX9_tuned_42 : decode cX9_tuned 42 = .ok (.iconst 0, 1) := by decide +kernel
theorem dX9_tuned_43 : decode cX9_tuned 43 = .ok (.istore 4, 2) := by decide +kernel
theorem dX9_tuned_45 : decode cX9_tuned 45 = .ok (.iload 4, 2) := by decide +kernel
theorem dX9_tuned_47 : decode cX9_tuned 47 = .ok (.bipush 60, 2) := by decide +kernel
theorem dX9_tuned_49 : decode cX9_tuned 49 = .ok (.if_icmp .gt 34, 3) := by decide +kernel
theorem dX9_tuned_52 : decode cX9_tuned 52 = .ok (.aload_n 0, 1) := by decide +kernel
theorem dX9_tuned_53 : decode cX9_tuned 53 = .ok (.aload_n 0, 1) := by decide +kernel
theorem dX9_tuned_54 : decode cX9_tuned 54 = .ok (.getfield 30, 3) := by decide +kernel
theorem dX9_tuned_57 : decode cX9_tuned 57 = .ok (.iload_n 1, 1) := by decide +kernel
theorem dX9_tuned_58 : decode cX9_tuned 58 = .ok (.iload_n 3, 1) := by decide +kernel
theorem dX9_tuned_59 : decode cX9_tuned 59 = .ok (.invokevirtual 213, 3) := by decide +kernel
theorem dX9_tuned_62 : decode cX9_tuned 62 = .ok (.iload_n 2, 1) := by decide +kernel
theorem dX9_tuned_63 : decode cX9_tuned 63 = .ok (.if_icmp .le 6, 3) := by decide +kernel
theorem dX9_tuned_66 : decode cX9_tuned 66 = .ok (.iload 4, 2) := by decide +kernel
theorem dX9_tuned_68 : decode cX9_tuned 68 = .ok (.ireturn, 1) := by decide +kernel
theorem dX9_tuned_69 : decode cX9_tuned 69 = .ok (.aload_n 0, 1) := by decide +kernel
theorem dX9_tuned_70 : decode cX9_tuned 70 = .ok (.getfield 30, 3) := by decide +kernel
theorem dX9_tuned_73 : decode cX9_tuned 73 = .ok (.iconst 1, 1) := by decide +kernel
theorem dX9_tuned_74 : decode cX9_tuned 74 = .ok (.invokevirtual 163, 3) := by decide +kernel
theorem dX9_tuned_77 : decode cX9_tuned 77 = .ok (.iinc 4 1, 3) := by decide +kernel
theorem dX9_tuned_80 : decode cX9_tuned 80 = .ok (.goto (-35), 3) := by decide +kernel
theorem dX9_tuned_83 : decode cX9_tuned 83 = .ok (.ldc 209, 2) := by decide +kernel
theorem dX9_tuned_85 : decode cX9_tuned 85 = .ok (.ireturn, 1) := by decide +kernel
set_option maxRecDepth 100000 in
theorem rX9_tuned_0 {p : Program} {l : Launch} {e : Env} {s : State} {m : MethodId} {args : Array Value} {below : List Frame} {meth : Method} {c : Code} {D : va_G} {cA : Nat → ClassId} {ad : Nat → Nat} {Ret : zR} (C : z_Cx p { frames := 5, cells := 0, slots := 0, locals := 108 } s m args c cX9_tuned yX9_tuned.cls 5 D cA ad) (hr : meth.sig.returnType = (some .int)) (hlocks : meth.locks = false) : ∀ L st σ, tX9_tuned_0 (z_X p l e { frames := 5, cells := 0, slots := 0, locals := 108 } s m args below meth c (MQ below (z_Qc D cA ad Ret) args s 0 0 (z_A ad)) 5 D cA ad true) Ret L st σ → z_X p l e { frames := 5, cells := 0, slots := 0, locals := 108 } s m args below meth c (MQ below (z_Qc D cA ad Ret) args s 0 0 (z_A ad)) 5 D cA ad true 0 L st σ := (s_aload_n C dX9_tuned_0 rfl (s_getr C dX9_tuned_1 (j := 2) cls_X9 (by decide) rfl (by decide) (by decide) (by decide +kernel) wd_359 (s_getr C dX9_tuned_4 (j := 1) cls_X8 (by decide) rfl (by decide) (by decide) (by decide +kernel) wd_261 (s_iload_n C dX9_tuned_7 rfl (s_cv1 C dX9_tuned_8 (okX7_has l) cls_X7 wd_726 wd_727 wd_728 wd_80 wd_729 ⟨by decide, by decide, by decide +kernel⟩ ⟨by decide, by decide⟩ (s_ifeq C dX9_tuned_11 (by decide) (s_ldc C dX9_tuned_28 (v := -1000001) wd_404 ⟨by decide, by decide⟩ (s_iret C dX9_tuned_30 hr hlocks)) (s_iload_n C dX9_tuned_14 rfl (s_cs1 C dX9_tuned_15 (okX9_isSlack l) wd_770 wd_771 wd_75 wd_772 ⟨by decide, by decide, by decide +kernel⟩ ⟨by decide, by decide⟩ (s_ifeq C dX9_tuned_18 (by decide) (s_ldc C dX9_tuned_28 (v := -1000001) wd_404 ⟨by decide, by decide⟩ (s_iret C dX9_tuned_30 hr hlocks)) (s_iload_n C dX9_tuned_21 rfl (s_cs1 C dX9_tuned_22 (okX9_isApart l) wd_748 wd_749 wd_75 wd_750 ⟨by decide, by decide, by decide +kernel⟩ ⟨by decide, by decide⟩ (s_ifne C dX9_tuned_25 (by decide) (s_aload_n C dX9_tuned_31 rfl (s_getr C dX9_tuned_32 (j := 3) cls_X9 (by decide) rfl (by decide) (by decide) (by decide +kernel) wd_360 (s_aload_n C dX9_tuned_35 rfl (s_getr C dX9_tuned_36 (j := 2) cls_X9 (by decide) rfl (by decide) (by decide) (by decide +kernel) wd_359 (s_cv1 C dX9_tuned_39 (okX8_takeOver l) cls_X8 wd_606 wd_607 wd_608 wd_78 wd_609 ⟨by decide, by decide, by decide +kernel⟩ ⟨by decide, by decide⟩ (s_iconst C dX9_tuned_42 rfl ⟨by decide, by decide⟩ (s_istore C dX9_tuned_43 (by decide) rfl (fun _ _ _ h => h)))))))) (s_ldc C dX9_tuned_28 (v := -1000001) wd_404 ⟨by decide, by decide⟩ (s_iret C dX9_tuned_30 hr hlocks))))))))))))))
set_option maxRecDepth 100000 in
theorem rX9_tuned_45 {p : Program} {l : Launch} {e : Env} {s : State} {m : MethodId} {args : Array Value} {below : List Frame} {meth : Method} {c : Code} {D : va_G} {cA : Nat → ClassId} {ad : Nat → Nat} {Ret : zR} (C : z_Cx p { frames := 5, cells := 0, slots := 0, locals := 108 } s m args c cX9_tuned yX9_tuned.cls 5 D cA ad) (hr : meth.sig.returnType = (some .int)) (hlocks : meth.locks = false) : ∀ L st σ, tX9_tuned_45 (z_X p l e { frames := 5, cells := 0, slots := 0, locals := 108 } s m args below meth c (MQ below (z_Qc D cA ad Ret) args s 0 0 (z_A ad)) 5 D cA ad true) Ret L st σ → z_X p l e { frames := 5, cells := 0, slots := 0, locals := 108 } s m args below meth c (MQ below (z_Qc D cA ad Ret) args s 0 0 (z_A ad)) 5 D cA ad true 45 L st σ := (s_iload C dX9_tuned_45 (s_bipush C dX9_tuned_47 rfl ⟨by decide, by decide⟩ (s_icgt C dX9_tuned_49 (by decide) (s_ldc C dX9_tuned_83 (v := -1000000) wd_743 ⟨by decide, by decide⟩ (s_iret C dX9_tuned_85 hr hlocks)) (s_aload_n C dX9_tuned_52 rfl (s_aload_n C dX9_tuned_53 rfl (s_getr C dX9_tuned_54 (j := 3) cls_X9 (by decide) rfl (by decide) (by decide) (by decide +kernel) wd_360 (s_iload_n C dX9_tuned_57 rfl (s_iload_n C dX9_tuned_58 rfl (s_cv3 C dX9_tuned_59 (okX9_slipsIn l) cls_X9 wd_751 wd_753 wd_18 wd_75 wd_754 ⟨by decide, by decide, by decide +kernel⟩ ⟨by decide, by decide⟩ (s_iload_n C dX9_tuned_62 rfl (s_icle C dX9_tuned_63 (by decide) (s_aload_n C dX9_tuned_69 rfl (s_getr C dX9_tuned_70 (j := 3) cls_X9 (by decide) rfl (by decide) (by decide) (by decide +kernel) wd_360 (s_iconst C dX9_tuned_73 rfl ⟨by decide, by decide⟩ (s_cv1 C dX9_tuned_74 (okX8_grow l) cls_X8 wd_701 wd_702 wd_703 wd_78 wd_704 ⟨by decide, by decide, by decide +kernel⟩ ⟨by decide, by decide⟩ (s_iinc C dX9_tuned_77 (by decide) rfl (s_goto C dX9_tuned_80 (by decide) (fun _ _ _ h => h))))))) (s_iload C dX9_tuned_66 (s_iret C dX9_tuned_68 hr hlocks)))))))))))))
theorem okX9_tuned (l : Launch) : z_OK l yX9_tuned cX9_tuned 5 (some .int) 5 108 SX9_tuned := by
  refine z_ok_of true (by decide +kernel) ?_ ?_
  · intro as σ Ret h
    obtain ⟨k0, x1, x2, x3, rfl⟩ := pX9_tuned h
    exact ⟨Nat.le_of_ble_eq_true rfl, by simp⟩
  · intro p e s m args below meth c D cA ad Ret C hr hlocks as σ has hσ h
    obtain ⟨k0, x1, x2, x3, rfl⟩ := pX9_tuned h
    exact vX9_tuned (rX9_tuned_0 C hr hlocks) (rX9_tuned_45 C hr hlocks) k0 x1 x2 x3 σ (has _ (List.mem_of_getElem? (i := 0) rfl)) (has _ (List.mem_of_getElem? (i := 1) rfl)) (has _ (List.mem_of_getElem? (i := 2) rfl)) (has _ (List.mem_of_getElem? (i := 3) rfl)) hσ h
def SX10_tuned : zS := fun as σ Ret => match as with
  | [.inr (.inr (10, 0, _)), .inl w, .inl x, .inl t] => q_S10 (q_gTuned w x t) q_fId σ Ret
  | _ => False
def tX10_tuned_0 (X : Nat → zB) (Ret : zR) (L : zL) (st : List zV) (σ : zM) : Prop := (z_aload 0 (z_push 0 (z_puti 10 0 (z_aload 0 (z_iload 1 (z_cv1 10 SX10_isWind (z_ifeq (z_push (-1000001) (z_iret Ret)) (z_iload 2 (z_cs1 SX10_isSlips (z_ifeq (z_push (-1000001) (z_iret Ret)) (z_iload 3 (z_cs1 SX10_isApart (z_ifne (z_aload 0 (z_cv0 10 SX10_layLengths (z_push 0 (z_istore 4 (X 37))))) (z_push (-1000001) (z_iret Ret))))))))))))))) L st σ
def tX10_tuned_37 (X : Nat → zB) (Ret : zR) (L : zL) (st : List zV) (σ : zM) : Prop := (z_iload 4 (z_push 60 (z_icgt (z_push (-1000000) (z_iret Ret)) (z_aload 0 (z_iload 1 (z_iload 3 (z_cv2 10 SX10_slipsIn (z_iload 2 (z_icle (z_aload 0 (z_cv0 10 SX10_grow (z_iinc 4 1 (z_goto (X 37))))) (z_iload 4 (z_iret Ret))))))))))) L st σ
theorem pX10_tuned {as : List zV} {σ : zM} {Ret : zR} (h : SX10_tuned as σ Ret) : ∃ (k0 : Nat) (x1 : Int) (x2 : Int) (x3 : Int), as = [.inr (.inr (10, 0, k0)), .inl x1, .inl x2, .inl x3] := by
  unfold SX10_tuned at h
  split at h
  · exact ⟨_, _, _, _, rfl⟩
  · exact h.elim
set_option maxRecDepth 10000 in
set_option maxHeartbeats 4000000 in
theorem vX10_tuned {X : Nat → zB} {Ret : zR} (h0 : ∀ L st σ, tX10_tuned_0 X Ret L st σ → X 0 L st σ) (h37 : ∀ L st σ, tX10_tuned_37 X Ret L st σ → X 37 L st σ) (k0 : Nat) (x1 : Int) (x2 : Int) (x3 : Int) (σ : zM) (hk0 : z_kd k0 = (10, 0)) (hx1 : -2147483648 ≤ x1 ∧ x1 ≤ 2147483647) (hx2 : -2147483648 ≤ x2 ∧ x2 ≤ 2147483647) (hx3 : -2147483648 ≤ x3 ∧ x3 ≤ 2147483647) (hσ : z_okm σ) (h : SX10_tuned [.inr (.inr (10, 0, k0)), .inl x1, .inl x2, .inl x3] σ Ret) : X 0 [some (.inr (.inr (10, 0, k0))), some (.inl x1), some (.inl x2), some (.inl x3), none] [] σ := by
  obtain ⟨m, h⟩ := h
  obtain rfl := z_kd10 hk0
  have K := m.2.1.1
  have K0 := K.1.1
  have K1 := K.1.2.1
  have e1 : z_up σ 89 0 0 93 1 = σ 93 1 := z_up_ne (by omega)
  by_cases c : ¬ ((0 ≤ x1 ∧ x1 < σ 93 1) ∧ (0 ≤ x2 ∧ x2 ≤ 20) ∧ 0 ≤ x3 ∧ x3 ≤ 99)
  · have fin := h (z_up σ 89 0 0) q_th.1 q_th.2
    simp only [q_gTuned, if_pos c] at fin
    refine h0 _ _ _ ?_
    simp only [z_push, z_lpush, z_iload, z_lload, z_aload, z_istore, z_istoreP, z_lstore, z_astore, z_iinc, z_iincP, z_iadd, z_isub, z_imul, z_iaddW, z_isubW, z_imulW, z_idiv, z_irem, z_iand, z_ior, z_ixor, z_ishl, z_ishr, z_iushr, z_ineg, z_i2l, z_i2b, z_i2s, z_i2c, z_l2i, z_ladd, z_lsub, z_land, z_lor, z_lshl, z_lshr, z_lcmp, z_dup, z_pop, z_dup2, z_goto, z_tsw, z_cases, z_geti, z_getr, z_puti, z_putz, z_ald, z_iast, z_bast, z_zast, z_alen, z_acopy, z_mmax, z_mmin, z_mabs, z_mabsL, z_iret, z_zret, z_nret, z_lret, z_aret, z_vret, z_cat, z_ldcs, z_strv, z_strc, z_gcs, z_gfm, z_sln, z_sald, z_ifeq, z_ifne, z_iflt, z_ifge, z_ifgt, z_ifle, z_iceq, z_icne, z_iclt, z_icge, z_icgt, z_icle, z_cs0, z_cs1, z_cs2, z_cs3, z_cs4, z_cs5, z_cs6, z_cs7, z_cv0, z_cv1, z_cv2, z_cv3, z_cv4, z_cv5, z_cv6, z_cv7, z_g0, z_s0, z_g1, z_s1, z_g2, z_s2, z_g3, z_s3, z_g4, z_s4, z_g5, z_s5, z_g6, z_s6, z_g7, z_s7, z_g8, z_s8, z_g9, z_s9, z_g10, z_s10, z_g11, z_s11, z_g12, z_s12, z_g13, z_s13, z_b0, z_b1, z_b0n, z_b1n, z_up_far1, z_up_far2, z_up_far3, z_up_far4, z_up_far5, z_up_far6, Classical.not_not, not_true_eq_false, z_in, z_inL, Int.cast_ofNat_Int, Nat.reduceLeDiff, List.length_cons, List.length_nil, Nat.reduceAdd, Nat.zero_add, Nat.le_refl, true_and, and_true, List.length, Nat.reduceLT, true_or, or_true, false_or, or_false, false_and, and_false, not_true_eq_false, not_false_eq_true, forall_const, false_implies, true_implies, Int.reduceEq, Int.reduceLT, Int.reduceLE, Int.reduceAdd, Int.reduceSub, Int.reduceMul, Int.reduceNeg, Int.reduceToNat, Int.toNat_natCast, ↓reduceIte, reduceIte, Nat.reduceEqDiff, Nat.reduceSub, Nat.reduceMul, ne_eq, Int.zero_add, Int.add_zero, Int.sub_zero, Nat.add_zero, Int.ofNat_eq_natCast, tX10_tuned_0, SX10_isWind, SX10_isSlips, SX10_isApart, e1]
    repeat' (first | (intro _) | (with_reducible assumption) | (refine And.intro ?_ ?_))
    all_goals first | omega | assumption | (refine z_fin fin ?_ rfl; first | rfl | omega | (split <;> omega) | (split <;> split <;> omega)) | skip
  obtain ⟨w, rfl⟩ := z_nat (show 0 ≤ x1 by omega)
  have key : ∀ v, q_tnd (σ 93) w x2 x3 61 0 = v → ∀ σ1 : zM, (∀ c j, ¬ (c = 89 ∧ (j = 24 ∨ j = 0) ∨ 98 ≤ c ∧ c ≤ 102) → σ1 c j = σ c j) → Ret (some (.inl v)) σ1 := by
    intro v hv σ1 f1
    have fin := h σ1 (fun c hc => funext fun j => f1 c j (by omega)) (fun c j hc => by
      unfold q_last at hc
      exact f1 c j (by omega))
    simp only [q_gTuned, if_neg c, Int.toNat_natCast] at fin
    rw [hv] at fin
    exact fin
  have L37 : ∀ (d y : Nat) (σ1 : zM), y + d = 61 → (∀ c j, ¬ (c = 89 ∧ (j = 24 ∨ j = 0) ∨ 98 ≤ c ∧ c ≤ 102) → σ1 c j = σ c j) → q_sp σ1 (σ 93) y → q_tnd (σ 93) w x2 x3 d y = q_tnd (σ 93) w x2 x3 61 0 → X 37 [some (.inr (.inr (10, 0, 89))), some (.inl (w : Int)), some (.inl x2), some (.inl x3), some (.inl (y : Int))] [] σ1 := by
    intro d
    induction d with
    | zero =>
      intro y σ1 hy f1 g1 hq
      have fin := key _ hq.symm σ1 f1
      refine h37 _ _ _ ?_
      simp only [z_push, z_lpush, z_iload, z_lload, z_aload, z_istore, z_istoreP, z_lstore, z_astore, z_iinc, z_iincP, z_iadd, z_isub, z_imul, z_iaddW, z_isubW, z_imulW, z_idiv, z_irem, z_iand, z_ior, z_ixor, z_ishl, z_ishr, z_iushr, z_ineg, z_i2l, z_i2b, z_i2s, z_i2c, z_l2i, z_ladd, z_lsub, z_land, z_lor, z_lshl, z_lshr, z_lcmp, z_dup, z_pop, z_dup2, z_goto, z_tsw, z_cases, z_geti, z_getr, z_puti, z_putz, z_ald, z_iast, z_bast, z_zast, z_alen, z_acopy, z_mmax, z_mmin, z_mabs, z_mabsL, z_iret, z_zret, z_nret, z_lret, z_aret, z_vret, z_cat, z_ldcs, z_strv, z_strc, z_gcs, z_gfm, z_sln, z_sald, z_ifeq, z_ifne, z_iflt, z_ifge, z_ifgt, z_ifle, z_iceq, z_icne, z_iclt, z_icge, z_icgt, z_icle, z_cs0, z_cs1, z_cs2, z_cs3, z_cs4, z_cs5, z_cs6, z_cs7, z_cv0, z_cv1, z_cv2, z_cv3, z_cv4, z_cv5, z_cv6, z_cv7, z_g0, z_s0, z_g1, z_s1, z_g2, z_s2, z_g3, z_s3, z_g4, z_s4, z_g5, z_s5, z_g6, z_s6, z_g7, z_s7, z_g8, z_s8, z_g9, z_s9, z_g10, z_s10, z_g11, z_s11, z_g12, z_s12, z_g13, z_s13, z_b0, z_b1, z_b0n, z_b1n, z_up_far1, z_up_far2, z_up_far3, z_up_far4, z_up_far5, z_up_far6, Classical.not_not, not_true_eq_false, z_in, z_inL, Int.cast_ofNat_Int, Nat.reduceLeDiff, List.length_cons, List.length_nil, Nat.reduceAdd, Nat.zero_add, Nat.le_refl, true_and, and_true, List.length, Nat.reduceLT, true_or, or_true, false_or, or_false, false_and, and_false, not_true_eq_false, not_false_eq_true, forall_const, false_implies, true_implies, Int.reduceEq, Int.reduceLT, Int.reduceLE, Int.reduceAdd, Int.reduceSub, Int.reduceMul, Int.reduceNeg, Int.reduceToNat, Int.toNat_natCast, ↓reduceIte, reduceIte, Nat.reduceEqDiff, Nat.reduceSub, Nat.reduceMul, ne_eq, Int.zero_add, Int.add_zero, Int.sub_zero, Nat.add_zero, Int.ofNat_eq_natCast, tX10_tuned_37]
      repeat' (first | (intro _) | (with_reducible assumption) | (refine And.intro ?_ ?_))
      all_goals first | omega | assumption | (refine z_fin fin ?_ rfl; first | rfl | omega | (split <;> omega) | (split <;> split <;> omega)) | skip
    | succ d ih =>
      intro y σ1 hy f1 g1 hq
      rw [q_tnd] at hq
      have e93 : σ1 93 = σ 93 := funext fun j => f1 93 j (by omega)
      have ly : q_ly σ1 (q_gwD (σ 93) y) := by
        have e0 : q_gwD (σ 93) y 0 = σ 93 0 := q_gwD_ne (by omega)
        refine ⟨fun j hj => ?_, fun t ht => ?_⟩
        · rw [e0] at hj
          rw [e93, q_gwD_ne hj]
        · rw [e0] at ht
          exact (g1 t ht).symm
      have Dk := q_gwD_ok K (y : Int)
      have e1 : q_gwD (σ 93) y 1 = σ 93 1 := q_gwD_ne (by omega)
      refine h37 _ _ _ ?_
      simp only [z_push, z_lpush, z_iload, z_lload, z_aload, z_istore, z_istoreP, z_lstore, z_astore, z_iinc, z_iincP, z_iadd, z_isub, z_imul, z_iaddW, z_isubW, z_imulW, z_idiv, z_irem, z_iand, z_ior, z_ixor, z_ishl, z_ishr, z_iushr, z_ineg, z_i2l, z_i2b, z_i2s, z_i2c, z_l2i, z_ladd, z_lsub, z_land, z_lor, z_lshl, z_lshr, z_lcmp, z_dup, z_pop, z_dup2, z_goto, z_tsw, z_cases, z_geti, z_getr, z_puti, z_putz, z_ald, z_iast, z_bast, z_zast, z_alen, z_acopy, z_mmax, z_mmin, z_mabs, z_mabsL, z_iret, z_zret, z_nret, z_lret, z_aret, z_vret, z_cat, z_ldcs, z_strv, z_strc, z_gcs, z_gfm, z_sln, z_sald, z_ifeq, z_ifne, z_iflt, z_ifge, z_ifgt, z_ifle, z_iceq, z_icne, z_iclt, z_icge, z_icgt, z_icle, z_cs0, z_cs1, z_cs2, z_cs3, z_cs4, z_cs5, z_cs6, z_cs7, z_cv0, z_cv1, z_cv2, z_cv3, z_cv4, z_cv5, z_cv6, z_cv7, z_g0, z_s0, z_g1, z_s1, z_g2, z_s2, z_g3, z_s3, z_g4, z_s4, z_g5, z_s5, z_g6, z_s6, z_g7, z_s7, z_g8, z_s8, z_g9, z_s9, z_g10, z_s10, z_g11, z_s11, z_g12, z_s12, z_g13, z_s13, z_b0, z_b1, z_b0n, z_b1n, z_up_far1, z_up_far2, z_up_far3, z_up_far4, z_up_far5, z_up_far6, Classical.not_not, not_true_eq_false, z_in, z_inL, Int.cast_ofNat_Int, Nat.reduceLeDiff, List.length_cons, List.length_nil, Nat.reduceAdd, Nat.zero_add, Nat.le_refl, true_and, and_true, List.length, Nat.reduceLT, true_or, or_true, false_or, or_false, false_and, and_false, not_true_eq_false, not_false_eq_true, forall_const, false_implies, true_implies, Int.reduceEq, Int.reduceLT, Int.reduceLE, Int.reduceAdd, Int.reduceSub, Int.reduceMul, Int.reduceNeg, Int.reduceToNat, Int.toNat_natCast, ↓reduceIte, reduceIte, Nat.reduceEqDiff, Nat.reduceSub, Nat.reduceMul, ne_eq, Int.zero_add, Int.add_zero, Int.sub_zero, Nat.add_zero, Int.ofNat_eq_natCast, tX10_tuned_37, SX10_slipsIn, SX10_grow]
      refine ⟨fun e => absurd e (by omega), fun _ => ⟨_, ⟨by rw [e93]; exact K, Dk, ly, by omega, by rw [e1]; omega⟩, fun σ2 f2 => ?_⟩⟩
      have f12 : ∀ c j, ¬ (c = 89 ∧ (j = 24 ∨ j = 0) ∨ 98 ≤ c ∧ c ≤ 102) → σ2 c j = σ c j := fun c j hc => by rw [f2 c j (by omega), f1 c j hc]
      have e93' : σ2 93 = σ 93 := funext fun j => f12 93 j (by omega)
      have g2 : q_sp σ2 (σ 93) y := fun t ht => by rw [f2 98 t (by omega)]; exact g1 t ht
      refine ⟨fun e => ?_, fun e => ?_⟩
      · rw [if_neg (by omega)] at hq
        rw [e93']
        refine ⟨⟨K, fun t ht => by rw [g2 t ht]; have := q_gwD_in (n := y) K ht; omega⟩, by omega, ?_⟩
        have g3 := q_sp_S (σ' := q_gr σ2 (σ 93 0).toNat) K (show 0 ≤ (y : Int) by omega) e93' g2 (fun _ => rfl)
        exact ih (y + 1) _ (by omega) (fun c j hc => by rw [q_gr_ne (by omega)]; exact f12 c j hc) g3 hq
      · rw [if_pos (by omega)] at hq
        exact key _ hq.symm σ2 f12
  refine h0 _ _ _ ?_
  simp only [z_push, z_lpush, z_iload, z_lload, z_aload, z_istore, z_istoreP, z_lstore, z_astore, z_iinc, z_iincP, z_iadd, z_isub, z_imul, z_iaddW, z_isubW, z_imulW, z_idiv, z_irem, z_iand, z_ior, z_ixor, z_ishl, z_ishr, z_iushr, z_ineg, z_i2l, z_i2b, z_i2s, z_i2c, z_l2i, z_ladd, z_lsub, z_land, z_lor, z_lshl, z_lshr, z_lcmp, z_dup, z_pop, z_dup2, z_goto, z_tsw, z_cases, z_geti, z_getr, z_puti, z_putz, z_ald, z_iast, z_bast, z_zast, z_alen, z_acopy, z_mmax, z_mmin, z_mabs, z_mabsL, z_iret, z_zret, z_nret, z_lret, z_aret, z_vret, z_cat, z_ldcs, z_strv, z_strc, z_gcs, z_gfm, z_sln, z_sald, z_ifeq, z_ifne, z_iflt, z_ifge, z_ifgt, z_ifle, z_iceq, z_icne, z_iclt, z_icge, z_icgt, z_icle, z_cs0, z_cs1, z_cs2, z_cs3, z_cs4, z_cs5, z_cs6, z_cs7, z_cv0, z_cv1, z_cv2, z_cv3, z_cv4, z_cv5, z_cv6, z_cv7, z_g0, z_s0, z_g1, z_s1, z_g2, z_s2, z_g3, z_s3, z_g4, z_s4, z_g5, z_s5, z_g6, z_s6, z_g7, z_s7, z_g8, z_s8, z_g9, z_s9, z_g10, z_s10, z_g11, z_s11, z_g12, z_s12, z_g13, z_s13, z_b0, z_b1, z_b0n, z_b1n, z_up_far1, z_up_far2, z_up_far3, z_up_far4, z_up_far5, z_up_far6, Classical.not_not, not_true_eq_false, z_in, z_inL, Int.cast_ofNat_Int, Nat.reduceLeDiff, List.length_cons, List.length_nil, Nat.reduceAdd, Nat.zero_add, Nat.le_refl, true_and, and_true, List.length, Nat.reduceLT, true_or, or_true, false_or, or_false, false_and, and_false, not_true_eq_false, not_false_eq_true, forall_const, false_implies, true_implies, Int.reduceEq, Int.reduceLT, Int.reduceLE, Int.reduceAdd, Int.reduceSub, Int.reduceMul, Int.reduceNeg, Int.reduceToNat, Int.toNat_natCast, ↓reduceIte, reduceIte, Nat.reduceEqDiff, Nat.reduceSub, Nat.reduceMul, ne_eq, Int.zero_add, Int.add_zero, Int.sub_zero, Nat.add_zero, Int.ofNat_eq_natCast, tX10_tuned_0, SX10_isWind, SX10_isSlips, SX10_isApart, SX10_layLengths, e1]
  refine ⟨by omega, fun e => absurd e (by omega), fun _ => ⟨fun e => absurd e (by omega), fun _ => ⟨fun _ σ1 f1 f2 => ?_, fun e => absurd e (by omega)⟩⟩⟩
  exact L37 61 0 σ1 (by omega) (fun c j hc => by rw [f1 c j (by omega), z_up_ne (by omega)]) (fun t ht => by rw [f2 t (by omega), z_up_ne (by omega)]; exact (q_gwD_0 K ht).symm) rfl
theorem dX10_tuned_0 : decode cX10_tuned 0 = .ok (.aload_n 0, 1) := by decide +kernel
theorem dX10_tuned_1 : decode cX10_tuned 1 = .ok (.iconst 0, 1) := by decide +kernel
theorem dX10_tuned_2 : decode cX10_tuned 2 = .ok (.putfield 65, 3) := by decide +kernel
theorem dX10_tuned_5 : decode cX10_tuned 5 = .ok (.aload_n 0, 1) := by decide +kernel
theorem dX10_tuned_6 : decode cX10_tuned 6 = .ok (.iload_n 1, 1) := by decide +kernel
theorem dX10_tuned_7 : decode cX10_tuned 7 = .ok (.invokevirtual 253, 3) := by decide +kernel
theorem dX10_tuned_10 : decode cX10_tuned 10 = .ok (.ifCond .eq 17, 3) := by decide +kernel
theorem dX10_tuned_13 : decode cX10_tuned 13 = .ok (.iload_n 2, 1) := by decide +kernel
theorem dX10_tuned_14 : decode cX10_tuned 14 = .ok (.invokestatic 285, 3) := by decide +kernel
theorem dX10_tuned_17 : decode cX10_tuned 17 = .ok (.ifCond .eq 10, 3) := by decide +kernel
theorem dX10_tuned_20 : decode cX10_tuned 20 = .ok (.iload_n 3, 1) := by decide +kernel
theorem dX10_tuned_21 : decode cX10_tuned 21 = .ok (.invokestatic 273, 3) := by decide +kernel
theorem dX10_tuned_24 : decode cX10_tuned 24 = .ok (.ifCond .ne 6, 3) := by decide +kernel
theorem dX10_tuned_27 : decode cX10_tuned 27 = .ok (.ldc 85, 2) := by decide +kernel
theorem dX10_tuned_29 : decode cX10_tuned 29 = .ok (.ireturn, 1) := by decide +kernel
theorem dX10_tuned_30 : decode cX10_tuned 30 = .ok (.aload_n 0, 1) := by decide +kernel
theorem dX10_tuned_31 : decode cX10_tuned 31 = .ok (.invokevirtual 232, 3) := by decide +kernel
theorem dX10_tuned_34 : decode cX10_tuned 34 = .ok (.iconst 0, 1) := by decide +kernel
theorem dX10_tuned_35 : decode cX10_tuned 35 = .ok (.istore 4, 2) := by decide +kernel
theorem dX10_tuned_37 : decode cX10_tuned 37 = .ok (.iload 4, 2) := by decide +kernel
theorem dX10_tuned_39 : decode cX10_tuned 39 = .ok (.bipush 60, 2) := by decide +kernel
theorem dX10_tuned_41 : decode cX10_tuned 41 = .ok (.if_icmp .gt 26, 3) := by decide +kernel
theorem dX10_tuned_44 : decode cX10_tuned 44 = .ok (.aload_n 0, 1) := by decide +kernel
theorem dX10_tuned_45 : decode cX10_tuned 45 = .ok (.iload_n 1, 1) := by decide +kernel
theorem dX10_tuned_46 : decode cX10_tuned 46 = .ok (.iload_n 3, 1) := by decide +kernel
theorem dX10_tuned_47 : decode cX10_tuned 47 = .ok (.invokevirtual 276, 3) := by decide +kernel
theorem dX10_tuned_50 : decode cX10_tuned 50 = .ok (.iload_n 2, 1) := by decide +kernel
theorem dX10_tuned_51 : decode cX10_tuned 51 = .ok (.if_icmp .le 6, 3) := by decide +kernel
theorem dX10_tuned_54 : decode cX10_tuned 54 = .ok (.iload 4, 2) := by decide +kernel
theorem dX10_tuned_56 : decode cX10_tuned 56 = .ok (.ireturn, 1) := by decide +kernel
theorem dX10_tuned_57 : decode cX10_tuned 57 = .ok (.aload_n 0, 1) := by decide +kernel
theorem dX10_tuned_58 : decode cX10_tuned 58 = .ok (.invokevirtual 235, 3) := by decide +kernel
theorem dX10_tuned_61 : decode cX10_tuned 61 = .ok (.iinc 4 1, 3) := by decide +kernel
theorem dX10_tuned_64 : decode cX10_tuned 64 = .ok (.goto (-27), 3) := by decide +kernel
theorem dX10_tuned_67 : decode cX10_tuned 67 = .ok (.ldc 101, 2) := by decide +kernel
theorem dX10_tuned_69 : decode cX10_tuned 69 = .ok (.ireturn, 1) := by decide +kernel
set_option maxRecDepth 100000 in
theorem rX10_tuned_0 {p : Program} {l : Launch} {e : Env} {s : State} {m : MethodId} {args : Array Value} {below : List Frame} {meth : Method} {c : Code} {D : va_G} {cA : Nat → ClassId} {ad : Nat → Nat} {Ret : zR} (C : z_Cx p { frames := 4, cells := 0, slots := 0, locals := 90 } s m args c cX10_tuned yX10_tuned.cls 5 D cA ad) (hr : meth.sig.returnType = (some .int)) (hlocks : meth.locks = false) : ∀ L st σ, tX10_tuned_0 (z_X p l e { frames := 4, cells := 0, slots := 0, locals := 90 } s m args below meth c (MQ below (z_Qc D cA ad Ret) args s 0 0 (z_A ad)) 5 D cA ad true) Ret L st σ → z_X p l e { frames := 4, cells := 0, slots := 0, locals := 90 } s m args below meth c (MQ below (z_Qc D cA ad Ret) args s 0 0 (z_A ad)) 5 D cA ad true 0 L st σ := (s_aload_n C dX10_tuned_0 rfl (s_iconst C dX10_tuned_1 rfl ⟨by decide, by decide⟩ (s_puti C dX10_tuned_2 cls_X10 (by decide) rfl wd_968 rfl rfl (s_aload_n C dX10_tuned_5 rfl (s_iload_n C dX10_tuned_6 rfl (s_cv1 C dX10_tuned_7 (okX10_isWind l) cls_X10 wd_1257 wd_1259 wd_59 wd_85 wd_1260 ⟨by decide, by decide, by decide +kernel⟩ ⟨by decide, by decide⟩ (s_ifeq C dX10_tuned_10 (by decide) (s_ldc C dX10_tuned_27 (v := -1000001) wd_1086 ⟨by decide, by decide⟩ (s_iret C dX10_tuned_29 hr hlocks)) (s_iload_n C dX10_tuned_13 rfl (s_cs1 C dX10_tuned_14 (okX10_isSlips l) wd_1296 wd_1297 wd_85 wd_1298 ⟨by decide, by decide, by decide +kernel⟩ ⟨by decide, by decide⟩ (s_ifeq C dX10_tuned_17 (by decide) (s_ldc C dX10_tuned_27 (v := -1000001) wd_1086 ⟨by decide, by decide⟩ (s_iret C dX10_tuned_29 hr hlocks)) (s_iload_n C dX10_tuned_20 rfl (s_cs1 C dX10_tuned_21 (okX10_isApart l) wd_1273 wd_1274 wd_85 wd_1275 ⟨by decide, by decide, by decide +kernel⟩ ⟨by decide, by decide⟩ (s_ifne C dX10_tuned_24 (by decide) (s_aload_n C dX10_tuned_30 rfl (s_cv0 C dX10_tuned_31 (okX10_layLengths l) cls_X10 wd_1228 wd_1230 wd_54 wd_85 wd_1231 ⟨by decide, by decide, by decide +kernel⟩ ⟨by decide, by decide⟩ (s_iconst C dX10_tuned_34 rfl ⟨by decide, by decide⟩ (s_istore C dX10_tuned_35 (by decide) rfl (fun _ _ _ h => h))))) (s_ldc C dX10_tuned_27 (v := -1000001) wd_1086 ⟨by decide, by decide⟩ (s_iret C dX10_tuned_29 hr hlocks)))))))))))))))
set_option maxRecDepth 100000 in
theorem rX10_tuned_37 {p : Program} {l : Launch} {e : Env} {s : State} {m : MethodId} {args : Array Value} {below : List Frame} {meth : Method} {c : Code} {D : va_G} {cA : Nat → ClassId} {ad : Nat → Nat} {Ret : zR} (C : z_Cx p { frames := 4, cells := 0, slots := 0, locals := 90 } s m args c cX10_tuned yX10_tuned.cls 5 D cA ad) (hr : meth.sig.returnType = (some .int)) (hlocks : meth.locks = false) : ∀ L st σ, tX10_tuned_37 (z_X p l e { frames := 4, cells := 0, slots := 0, locals := 90 } s m args below meth c (MQ below (z_Qc D cA ad Ret) args s 0 0 (z_A ad)) 5 D cA ad true) Ret L st σ → z_X p l e { frames := 4, cells := 0, slots := 0, locals := 90 } s m args below meth c (MQ below (z_Qc D cA ad Ret) args s 0 0 (z_A ad)) 5 D cA ad true 37 L st σ := (s_iload C dX10_tuned_37 (s_bipush C dX10_tuned_39 rfl ⟨by decide, by decide⟩ (s_icgt C dX10_tuned_41 (by decide) (s_ldc C dX10_tuned_67 (v := -1000000) wd_1127 ⟨by decide, by decide⟩ (s_iret C dX10_tuned_69 hr hlocks)) (s_aload_n C dX10_tuned_44 rfl (s_iload_n C dX10_tuned_45 rfl (s_iload_n C dX10_tuned_46 rfl (s_cv2 C dX10_tuned_47 (okX10_slipsIn l) cls_X10 wd_1277 wd_1279 wd_62 wd_85 wd_1280 ⟨by decide, by decide, by decide +kernel⟩ ⟨by decide, by decide⟩ (s_iload_n C dX10_tuned_50 rfl (s_icle C dX10_tuned_51 (by decide) (s_aload_n C dX10_tuned_57 rfl (s_cv0 C dX10_tuned_58 (okX10_grow l) cls_X10 wd_1236 wd_1238 wd_56 wd_85 wd_1239 ⟨by decide, by decide, by decide +kernel⟩ ⟨by decide, by decide⟩ (s_iinc C dX10_tuned_61 (by decide) rfl (s_goto C dX10_tuned_64 (by decide) (fun _ _ _ h => h))))) (s_iload C dX10_tuned_54 (s_iret C dX10_tuned_56 hr hlocks)))))))))))
theorem okX10_tuned (l : Launch) : z_OK l yX10_tuned cX10_tuned 5 (some .int) 4 90 SX10_tuned := by
  refine z_ok_of true (by decide +kernel) ?_ ?_
  · intro as σ Ret h
    obtain ⟨k0, x1, x2, x3, rfl⟩ := pX10_tuned h
    exact ⟨Nat.le_of_ble_eq_true rfl, by simp⟩
  · intro p e s m args below meth c D cA ad Ret C hr hlocks as σ has hσ h
    obtain ⟨k0, x1, x2, x3, rfl⟩ := pX10_tuned h
    exact vX10_tuned (rX10_tuned_0 C hr hlocks) (rX10_tuned_37 C hr hlocks) k0 x1 x2 x3 σ (has _ (List.mem_of_getElem? (i := 0) rfl)) (has _ (List.mem_of_getElem? (i := 1) rfl)) (has _ (List.mem_of_getElem? (i := 2) rfl)) (has _ (List.mem_of_getElem? (i := 3) rfl)) hσ h
