/-! the cheapest cuts, asked of the program -/
def q_J (σ : zM) (D : Nat → Int) (a : Nat) : Prop := q_wd σ 8 D ∧ (∃ E, q_wd σ 25 E ∧ ∀ j, (∀ i, i < q_chc D a → j ≠ 6 + 6 * q_chl D a i + 0) → E j = D j) ∧ σ 84 1 = (q_chc D a : Int) ∧ ∀ i, i < q_chc D a → σ 85 i = (q_chl D a i : Int)
theorem q_J_fr {σ σ' : zM} {D : Nat → Int} {a : Nat} (h : q_J σ D a) (e : ∀ c j, ¬ (80 ≤ c ∧ c ≤ 83) → σ' c j = σ c j) : q_J σ' D a := by
  obtain ⟨h1, ⟨E, h2, h3⟩, h4, h5⟩ := h
  exact ⟨h1.fr (fun c j _ _ => e c j (by omega)), ⟨E, h2.fr (fun c j _ _ => e c j (by omega)), h3⟩, by rw [e _ _ (by omega)]; exact h4, fun i hi => by rw [e _ _ (by omega)]; exact h5 i hi⟩
theorem q_J_nl {σ : zM} {D : Nat → Int} {a st i : Nat} {s : Int} (h : q_J σ D a) (hi : i < q_chc D a) : q_nl σ 84 8 st s i = D (6 + 6 * q_chl D a i + 0) - s * (q_dg st (q_chc D a - 1 - i) : Int) := by
  obtain ⟨h1, -, h4, h5⟩ := h
  unfold q_nl
  simp only [Nat.reduceAdd]
  have e : σ 10 (q_chl D a i) = D (6 + 6 * q_chl D a i + 0) := h1.2.1 (q_chl D a i) 0 (q_chl_in hi) (by omega)
  rw [h5 i hi, h4, Int.toNat_natCast, Int.toNat_natCast, e]
theorem q_J_lay {σ : zM} {D E : Nat → Int} {a st : Nat} {s : Int} (h : q_J σ D a) (h2 : q_wd σ 25 E) (h3 : ∀ j, (∀ i, i < q_chc D a → j ≠ 6 + 6 * q_chl D a i + 0) → E j = D j) : ∀ n, n ≤ q_chc D a → q_wd (q_lay σ 84 8 25 st s n) 25 (q_ctE E D (q_chl D a) (q_chc D a) st s n)
  | 0, _ => h2
  | n + 1, hn => by
    have ih := q_J_lay (st := st) (s := s) h h2 h3 n (by omega)
    have e0 : q_ctE E D (q_chl D a) (q_chc D a) st s n 0 = D 0 := by
      rw [q_ct_miss n (fun i _ => by omega)]
      exact h3 0 (fun i _ => by omega)
    rw [q_lay, q_ctE, q_J_nl h (by omega), h.2.2.2 n (by omega), Int.toNat_natCast]
    exact q_wd_f (f := 0) ih (by rw [e0]; exact q_chl_in (by omega)) (by omega) _
theorem q_J_lay2 {σ : zM} {D : Nat → Int} {a st n : Nat} {s : Int} (h : q_J σ D a) (hn : n ≤ q_chc D a) : q_J (q_lay σ 84 8 25 st s n) D a := by
  obtain ⟨E, h2, h3⟩ := h.2.1
  have w := q_J_lay (st := st) (s := s) h h2 h3 n hn
  refine ⟨h.1.fr (fun c j _ _ => q_lay_ne (by omega) n), ⟨_, w, fun j hj => ?_⟩, by rw [q_lay_ne (by omega)]; exact h.2.2.1, fun i hi => by rw [q_lay_ne (by omega)]; exact h.2.2.2 i hi⟩
  rw [q_ct_miss n (fun i hi => hj i (by omega))]
  exact h3 j hj
theorem q_J_all {σ : zM} {D : Nat → Int} {a st : Nat} {s : Int} (h : q_J σ D a) : q_wd (q_lay σ 84 8 25 st s (q_chc D a)) 25 (q_chD D a s st) := by
  obtain ⟨E, h2, h3⟩ := h.2.1
  have w := q_J_lay (st := st) (s := s) h h2 h3 (q_chc D a) (Nat.le_refl _)
  have e : q_ctE E D (q_chl D a) (q_chc D a) st s (q_chc D a) = q_chD D a s st := funext fun j => q_ct_cg _ (h3 j)
  rw [e] at w
  exact w
theorem q_J_ok {σ : zM} {D : Nat → Int} {a st : Nat} {s : Int} (h : q_J σ D a) : q_lok σ 84 8 st s (q_chc D a) ↔ q_ctv D (q_chl D a) (q_chc D a) st s (q_chc D a) := by
  unfold q_lok q_ctv
  constructor
  · intro q i hi
    have := q i hi
    rw [q_J_nl h hi] at this
    exact this
  · intro q i hi
    rw [q_J_nl h hi]
    exact q i hi
theorem q_J_pre {σ : zM} {D : Nat → Int} {a st : Nat} {s : Int} (h : q_J σ D a) (k : q_Dok D) (hst : st < 1024) (hs : 1 ≤ s ∧ s ≤ 20) : ((0 ≤ σ 84 1 ∧ σ 84 1 ≤ 5) ∧ (∀ i : Nat, (i : Int) < σ 84 1 → (0 ≤ σ 85 i ∧ σ 85 i < σ 9 6) ∧ σ 85 i < 12 ∧ (0 ≤ σ 10 (σ 85 i).toNat ∧ σ 10 (σ 85 i).toNat ≤ 999)) ∧ (0 ≤ (st : Int) ∧ (st : Int) < 1024) ∧ 1 ≤ s ∧ s ≤ 20) := by
  have c5 : q_chc D a ≤ 5 := Nat.min_le_left _ _
  have k0 := k.1.1
  have h4 := h.2.2.1
  have W0 : σ 9 6 = D 0 := h.1.1.1.1
  refine ⟨by omega, fun i hi => ?_, by omega, hs⟩
  have l1 := q_chl_in (D := D) (a := a) (i := i) (by omega)
  rw [h.2.2.2 i (by omega), Int.toNat_natCast]
  have e : σ 10 (q_chl D a i) = D (6 + 6 * q_chl D a i + 0) := h.1.2.1 (q_chl D a i) 0 l1 (by omega)
  rw [e]
  have := k.2.1 _ l1
  omega
def SX9_bestOfSum : zS := fun as σ Ret => match as with
  | [.inr (.inr (9, 0, _)), .inl m, .inl a, .inl b, .inl s, .inl x, .inl t] => ∃ D, (q_J σ D a.toNat ∧ q_Dok D ∧ (0 ≤ a ∧ a < D 1) ∧ (0 ≤ b ∧ b < D 1) ∧ (1 ≤ s ∧ s ≤ 20) ∧ 0 ≤ m ∧ m ≤ 15) ∧ ∀ σ' : zM, (∀ c j, ¬ (c = 27 ∨ 80 ≤ c ∧ c ≤ 83) → σ' c j = σ c j) → q_J σ' D a.toNat → Ret (some (.inl (q_bs (q_chV D a.toNat s x t) q_chS (q_chP D a.toNat b.toNat s t) m (4 ^ q_chc D a.toNat)).1)) σ'
  | _ => False
def tX9_bestOfSum_0 (X : Nat → zB) (Ret : zR) (L : zL) (st : List zV) (σ : zM) : Prop := (z_push (-1) (z_istore 7 (z_push (-1) (z_istore 8 (z_aload 0 (z_getr 9 84 1 0 (z_cv0 1 SX1_rowsOfSteps (z_istore 9 (z_push 0 (z_istore 10 (X 18))))))))))) L st σ
def tX9_bestOfSum_18 (X : Nat → zB) (Ret : zR) (L : zL) (st : List zV) (σ : zM) : Prop := (z_iload 10 (z_iload 9 (z_icge (z_iload 7 (z_iret Ret)) (z_iload 10 (z_cs1 SX1_sumOf (z_iload 1 (z_icne (z_iinc 10 1 (z_goto (X 18))) (z_aload 0 (z_getr 9 84 1 0 (z_aload 0 (z_getr 9 8 8 0 (z_aload 0 (z_getr 9 25 8 0 (z_iload 10 (z_iload 4 (z_cv4 1 SX1_tryOn (z_ifeq (z_iinc 10 1 (z_goto (X 18))) (z_aload 0 (z_aload 0 (z_getr 9 25 8 0 (z_iload 2 (z_iload 6 (z_cv3 9 SX9_slipsIn (z_iload 5 (z_icle (z_aload 0 (z_aload 0 (z_getr 9 25 8 0 (z_iload 3 (z_iload 6 (z_cv3 9 SX9_slipsIn (z_istore 11 (z_iload 11 (z_iload 8 (z_icle (z_iinc 10 1 (z_goto (X 18))) (z_iload 11 (z_istore 8 (z_iload 10 (z_istore 7 (z_iinc 10 1 (z_goto (X 18))))))))))))))))) (z_goto (z_iinc 10 1 (z_goto (X 18))))))))))))))))))))))))))))) L st σ
theorem pX9_bestOfSum {as : List zV} {σ : zM} {Ret : zR} (h : SX9_bestOfSum as σ Ret) : ∃ (k0 : Nat) (x1 : Int) (x2 : Int) (x3 : Int) (x4 : Int) (x5 : Int) (x6 : Int), as = [.inr (.inr (9, 0, k0)), .inl x1, .inl x2, .inl x3, .inl x4, .inl x5, .inl x6] := by
  unfold SX9_bestOfSum at h
  split at h
  · exact ⟨_, _, _, _, _, _, _, rfl⟩
  · exact h.elim
set_option maxRecDepth 10000 in
set_option maxHeartbeats 4000000 in
theorem vX9_bestOfSum {X : Nat → zB} {Ret : zR} (h0 : ∀ L st σ, tX9_bestOfSum_0 X Ret L st σ → X 0 L st σ) (h18 : ∀ L st σ, tX9_bestOfSum_18 X Ret L st σ → X 18 L st σ) (k0 : Nat) (x1 : Int) (x2 : Int) (x3 : Int) (x4 : Int) (x5 : Int) (x6 : Int) (σ : zM) (hk0 : z_kd k0 = (9, 0)) (hx1 : -2147483648 ≤ x1 ∧ x1 ≤ 2147483647) (hx2 : -2147483648 ≤ x2 ∧ x2 ≤ 2147483647) (hx3 : -2147483648 ≤ x3 ∧ x3 ≤ 2147483647) (hx4 : -2147483648 ≤ x4 ∧ x4 ≤ 2147483647) (hx5 : -2147483648 ≤ x5 ∧ x5 ≤ 2147483647) (hx6 : -2147483648 ≤ x6 ∧ x6 ≤ 2147483647) (hσ : z_okm σ) (h : SX9_bestOfSum [.inr (.inr (9, 0, k0)), .inl x1, .inl x2, .inl x3, .inl x4, .inl x5, .inl x6] σ Ret) : X 0 [some (.inr (.inr (9, 0, k0))), some (.inl x1), some (.inl x2), some (.inl x3), some (.inl x4), some (.inl x5), some (.inl x6), none, none, none, none, none] [] σ := by
  obtain ⟨D, ⟨J, K, ⟨a0, a1⟩, ⟨b0, b1⟩, hs, hm⟩, h⟩ := h
  obtain rfl := z_kd9 hk0
  obtain ⟨a, rfl⟩ := z_nat a0
  obtain ⟨b, rfl⟩ := z_nat b0
  simp only [Int.toNat_natCast] at J h
  have c5 : q_chc D a ≤ 5 := Nat.min_le_left _ _
  have N1 : 4 ^ q_chc D a ≤ 4 ^ 5 := Nat.pow_le_pow_right (by decide) c5
  generalize hN : 4 ^ q_chc D a = N at h N1
  have L18 : ∀ (d st : Nat) (v : Option zV) (σ1 : zM), st + d = N → (∀ c j, ¬ (c = 27 ∨ 80 ≤ c ∧ c ≤ 83) → σ1 c j = σ c j) → q_J σ1 D a → X 18 [some (.inr (.inr (9, 0, 0))), some (.inl x1), some (.inl (a : Int)), some (.inl (b : Int)), some (.inl x4), some (.inl x5), some (.inl x6), some (.inl (q_bs (q_chV D a x4 x5 x6) q_chS (q_chP D a b x4 x6) x1 st).1), some (.inl (q_bs (q_chV D a x4 x5 x6) q_chS (q_chP D a b x4 x6) x1 st).2), some (.inl (N : Int)), some (.inl (st : Int)), v] [] σ1 := by
    intro d
    induction d with
    | zero =>
      intro st v σ1 hd f1 j1
      obtain rfl : st = N := by omega
      have fin := h σ1 f1 j1
      refine h18 _ _ _ ?_
      simp only [z_push, z_lpush, z_iload, z_lload, z_aload, z_istore, z_istoreP, z_lstore, z_astore, z_iinc, z_iincP, z_iadd, z_isub, z_imul, z_iaddW, z_isubW, z_imulW, z_idiv, z_irem, z_iand, z_ior, z_ixor, z_ishl, z_ishr, z_iushr, z_ineg, z_i2l, z_i2b, z_i2s, z_i2c, z_l2i, z_ladd, z_lsub, z_land, z_lor, z_lshl, z_lshr, z_lcmp, z_dup, z_pop, z_dup2, z_goto, z_tsw, z_cases, z_geti, z_getr, z_puti, z_putz, z_ald, z_iast, z_bast, z_zast, z_alen, z_acopy, z_mmax, z_mmin, z_mabs, z_mabsL, z_iret, z_zret, z_nret, z_lret, z_aret, z_vret, z_cat, z_ldcs, z_strv, z_strc, z_gcs, z_gfm, z_sln, z_sald, z_ifeq, z_ifne, z_iflt, z_ifge, z_ifgt, z_ifle, z_iceq, z_icne, z_iclt, z_icge, z_icgt, z_icle, z_cs0, z_cs1, z_cs2, z_cs3, z_cs4, z_cs5, z_cs6, z_cs7, z_cv0, z_cv1, z_cv2, z_cv3, z_cv4, z_cv5, z_cv6, z_cv7, z_g0, z_s0, z_g1, z_s1, z_g2, z_s2, z_g3, z_s3, z_g4, z_s4, z_g5, z_s5, z_g6, z_s6, z_g7, z_s7, z_g8, z_s8, z_g9, z_s9, z_g10, z_s10, z_g11, z_s11, z_g12, z_s12, z_g13, z_s13, z_b0, z_b1, z_b0n, z_b1n, z_up_far1, z_up_far2, z_up_far3, z_up_far4, z_up_far5, z_up_far6, Classical.not_not, not_true_eq_false, z_in, z_inL, Int.cast_ofNat_Int, Nat.reduceLeDiff, List.length_cons, List.length_nil, Nat.reduceAdd, Nat.zero_add, Nat.le_refl, true_and, and_true, List.length, Nat.reduceLT, true_or, or_true, false_or, or_false, false_and, and_false, not_true_eq_false, not_false_eq_true, forall_const, false_implies, true_implies, Int.reduceEq, Int.reduceLT, Int.reduceLE, Int.reduceAdd, Int.reduceSub, Int.reduceMul, Int.reduceNeg, Int.reduceToNat, Int.toNat_natCast, ↓reduceIte, reduceIte, Nat.reduceEqDiff, Nat.reduceSub, Nat.reduceMul, ne_eq, Int.zero_add, Int.add_zero, Int.sub_zero, Nat.add_zero, Int.ofNat_eq_natCast, tX9_bestOfSum_18]
      repeat' (first | (intro _) | (with_reducible assumption) | (refine And.intro ?_ ?_))
      all_goals first | omega | assumption | (refine z_fin fin ?_ rfl; first | rfl | omega | (split <;> omega) | (split <;> split <;> omega)) | skip
    | succ d ih =>
      intro st v σ1 hd f1 j1
      have nx := fun v σ2 => ih (st + 1) v σ2 (by omega)
      rw [q_bs] at nx
      have st5 := q_dsum_le st 5
      refine h18 _ _ _ ?_
      simp only [z_push, z_lpush, z_iload, z_lload, z_aload, z_istore, z_istoreP, z_lstore, z_astore, z_iinc, z_iincP, z_iadd, z_isub, z_imul, z_iaddW, z_isubW, z_imulW, z_idiv, z_irem, z_iand, z_ior, z_ixor, z_ishl, z_ishr, z_iushr, z_ineg, z_i2l, z_i2b, z_i2s, z_i2c, z_l2i, z_ladd, z_lsub, z_land, z_lor, z_lshl, z_lshr, z_lcmp, z_dup, z_pop, z_dup2, z_goto, z_tsw, z_cases, z_geti, z_getr, z_puti, z_putz, z_ald, z_iast, z_bast, z_zast, z_alen, z_acopy, z_mmax, z_mmin, z_mabs, z_mabsL, z_iret, z_zret, z_nret, z_lret, z_aret, z_vret, z_cat, z_ldcs, z_strv, z_strc, z_gcs, z_gfm, z_sln, z_sald, z_ifeq, z_ifne, z_iflt, z_ifge, z_ifgt, z_ifle, z_iceq, z_icne, z_iclt, z_icge, z_icgt, z_icle, z_cs0, z_cs1, z_cs2, z_cs3, z_cs4, z_cs5, z_cs6, z_cs7, z_cv0, z_cv1, z_cv2, z_cv3, z_cv4, z_cv5, z_cv6, z_cv7, z_g0, z_s0, z_g1, z_s1, z_g2, z_s2, z_g3, z_s3, z_g4, z_s4, z_g5, z_s5, z_g6, z_s6, z_g7, z_s7, z_g8, z_s8, z_g9, z_s9, z_g10, z_s10, z_g11, z_s11, z_g12, z_s12, z_g13, z_s13, z_b0, z_b1, z_b0n, z_b1n, z_up_far1, z_up_far2, z_up_far3, z_up_far4, z_up_far5, z_up_far6, Classical.not_not, not_true_eq_false, z_in, z_inL, Int.cast_ofNat_Int, Nat.reduceLeDiff, List.length_cons, List.length_nil, Nat.reduceAdd, Nat.zero_add, Nat.le_refl, true_and, and_true, List.length, Nat.reduceLT, true_or, or_true, false_or, or_false, false_and, and_false, not_true_eq_false, not_false_eq_true, forall_const, false_implies, true_implies, Int.reduceEq, Int.reduceLT, Int.reduceLE, Int.reduceAdd, Int.reduceSub, Int.reduceMul, Int.reduceNeg, Int.reduceToNat, Int.toNat_natCast, ↓reduceIte, reduceIte, Nat.reduceEqDiff, Nat.reduceSub, Nat.reduceMul, ne_eq, Int.zero_add, Int.add_zero, Int.sub_zero, Nat.add_zero, Int.ofNat_eq_natCast, tX9_bestOfSum_18, SX1_sumOf, SX1_tryOn, SX9_slipsIn]
      have J3 := j1.2.2.1
      rw [J3, Int.toNat_natCast]
      have pre := q_J_pre (st := st) j1 K (by omega) hs
      rw [J3] at pre
      have fl : ∀ (i : Nat) (σ2 : zM), (∀ c j, ¬ (80 ≤ c ∧ c ≤ 83) → σ2 c j = q_lay σ1 84 8 25 st x4 i c j) → ∀ c j, ¬ (c = 27 ∨ 80 ≤ c ∧ c ≤ 83) → σ2 c j = σ c j := fun i σ2 f2 c j hc => by rw [f2 c j (by omega), q_lay_ne (by omega), f1 c j hc]
      have vi := q_chV_iff (D := D) (a := a) (s := x4) (x := x5) (t := x6) (st := st)
      have skip : ¬ (q_chV D a x4 x5 x6 st = true ∧ q_chS st = x1 ∧ (q_bs (q_chV D a x4 x5 x6) q_chS (q_chP D a b x4 x6) x1 st).2 < q_chP D a b x4 x6 st) → ∀ v σ2, (∀ c j, ¬ (c = 27 ∨ 80 ≤ c ∧ c ≤ 83) → σ2 c j = σ c j) → q_J σ2 D a → X 18 [some (.inr (.inr (9, 0, 0))), some (.inl x1), some (.inl (a : Int)), some (.inl (b : Int)), some (.inl x4), some (.inl x5), some (.inl x6), some (.inl (q_bs (q_chV D a x4 x5 x6) q_chS (q_chP D a b x4 x6) x1 st).1), some (.inl (q_bs (q_chV D a x4 x5 x6) q_chS (q_chP D a b x4 x6) x1 st).2), some (.inl (N : Int)), some (.inl ((st : Int) + 1)), v] [] σ2 := by
        intro c v σ2 f2 j2
        have nx := nx v σ2 f2 j2
        rw [if_neg c] at nx
        exact nx
      refine ⟨fun e => absurd e (by omega), fun _ => ⟨by omega, fun e => ⟨by omega, ?_⟩, fun e => ⟨pre, fun ok => ?_, fun ok i hi => ⟨by omega, ?_⟩⟩⟩⟩
      · exact skip (fun q => e q.2.1) v σ1 f1 j1
      · have ok' := (q_J_ok j1).mp ok
        have Dk := q_ct_ok K (show 0 ≤ x4 by omega) (q_chc D a) (fun i hi => q_chl_in hi) ok'
        have D1 : q_chD D a x4 st 1 = D 1 := q_ct_miss _ (fun i _ => by omega)
        have jl := q_J_lay2 (st := st) (s := x4) j1 (Nat.le_refl (q_chc D a))
        have wa := q_J_all (st := st) (s := x4) j1
        refine ⟨_, ⟨wa, Dk.1, by rw [D1]; omega⟩, fun σ2 f2 => ⟨fun e2 => ?_, fun e2 => ⟨by omega, ?_⟩⟩⟩
        · have wa2 : q_wd σ2 25 (q_chD D a x4 st) := wa.fr (fun c j _ _ => f2 c j (by omega))
          refine ⟨_, ⟨wa2, Dk.1, by rw [D1]; omega⟩, fun σ3 f3 => ?_⟩
          have f23 : ∀ c j, ¬ (80 ≤ c ∧ c ≤ 83) → σ3 c j = q_lay σ1 84 8 25 st x4 (q_chc D a) c j := fun c j hc => by rw [f3 c j hc, f2 c j hc]
          have j3 := q_J_fr jl f23
          have f3' := fl _ σ3 f23
          refine ⟨fun e3 => ⟨by omega, ?_⟩, fun e3 => ⟨by omega, ?_⟩⟩
          · refine skip (fun q => ?_) _ σ3 f3' j3
            have q3 : (q_bs (q_chV D a x4 x5 x6) q_chS (q_chP D a b x4 x6) x1 st).2 < q_slD (q_chD D a x4 st) b x6 := q.2.2
            omega
          · have nx := fun v => nx v σ3 f3' j3
            have cc : (q_bs (q_chV D a x4 x5 x6) q_chS (q_chP D a b x4 x6) x1 st).2 < q_chP D a b x4 x6 st := by
              show _ < q_slD (q_chD D a x4 st) b x6
              omega
            rw [if_pos ⟨vi.mpr ⟨ok', e2⟩, e, cc⟩] at nx
            exact nx _
        · exact skip (fun q => e2 (vi.mp q.1).2) v σ2 (fl _ σ2 f2) (q_J_fr jl f2)
      · exact skip (fun q => ok ((q_J_ok j1).mpr (vi.mp q.1).1)) v _ (fl i _ (fun _ _ _ => rfl)) (q_J_lay2 j1 hi)
  refine h0 _ _ _ ?_
  have J3 := J.2.2.1
  simp only [z_push, z_lpush, z_iload, z_lload, z_aload, z_istore, z_istoreP, z_lstore, z_astore, z_iinc, z_iincP, z_iadd, z_isub, z_imul, z_iaddW, z_isubW, z_imulW, z_idiv, z_irem, z_iand, z_ior, z_ixor, z_ishl, z_ishr, z_iushr, z_ineg, z_i2l, z_i2b, z_i2s, z_i2c, z_l2i, z_ladd, z_lsub, z_land, z_lor, z_lshl, z_lshr, z_lcmp, z_dup, z_pop, z_dup2, z_goto, z_tsw, z_cases, z_geti, z_getr, z_puti, z_putz, z_ald, z_iast, z_bast, z_zast, z_alen, z_acopy, z_mmax, z_mmin, z_mabs, z_mabsL, z_iret, z_zret, z_nret, z_lret, z_aret, z_vret, z_cat, z_ldcs, z_strv, z_strc, z_gcs, z_gfm, z_sln, z_sald, z_ifeq, z_ifne, z_iflt, z_ifge, z_ifgt, z_ifle, z_iceq, z_icne, z_iclt, z_icge, z_icgt, z_icle, z_cs0, z_cs1, z_cs2, z_cs3, z_cs4, z_cs5, z_cs6, z_cs7, z_cv0, z_cv1, z_cv2, z_cv3, z_cv4, z_cv5, z_cv6, z_cv7, z_g0, z_s0, z_g1, z_s1, z_g2, z_s2, z_g3, z_s3, z_g4, z_s4, z_g5, z_s5, z_g6, z_s6, z_g7, z_s7, z_g8, z_s8, z_g9, z_s9, z_g10, z_s10, z_g11, z_s11, z_g12, z_s12, z_g13, z_s13, z_b0, z_b1, z_b0n, z_b1n, z_up_far1, z_up_far2, z_up_far3, z_up_far4, z_up_far5, z_up_far6, Classical.not_not, not_true_eq_false, z_in, z_inL, Int.cast_ofNat_Int, Nat.reduceLeDiff, List.length_cons, List.length_nil, Nat.reduceAdd, Nat.zero_add, Nat.le_refl, true_and, and_true, List.length, Nat.reduceLT, true_or, or_true, false_or, or_false, false_and, and_false, not_true_eq_false, not_false_eq_true, forall_const, false_implies, true_implies, Int.reduceEq, Int.reduceLT, Int.reduceLE, Int.reduceAdd, Int.reduceSub, Int.reduceMul, Int.reduceNeg, Int.reduceToNat, Int.toNat_natCast, ↓reduceIte, reduceIte, Nat.reduceEqDiff, Nat.reduceSub, Nat.reduceMul, ne_eq, Int.zero_add, Int.add_zero, Int.sub_zero, Nat.add_zero, Int.ofNat_eq_natCast, tX9_bestOfSum_0, SX1_rowsOfSteps, J3]
  have nx := L18 N 0 none σ (by omega) (fun _ _ _ => rfl) J
  rw [hN]
  exact ⟨by omega, nx⟩
theorem dX9_bestOfSum_0 : decode cX9_bestOfSum 0 = .ok (.iconst (-1), 1) := by decide +kernel
theorem dX9_bestOfSum_1 : decode cX9_bestOfSum 1 = .ok (.istore 7, 2) := by decide +kernel
theorem dX9_bestOfSum_3 : decode cX9_bestOfSum 3 = .ok (.iconst (-1), 1) := by decide +kernel
theorem dX9_bestOfSum_4 : decode cX9_bestOfSum 4 = .ok (.istore 8, 2) := by decide +kernel
theorem dX9_bestOfSum_6 : decode cX9_bestOfSum 6 = .ok (.aload_n 0, 1) := by decide +kernel
theorem dX9_bestOfSum_7 : decode cX9_bestOfSum 7 = .ok (.getfield 56, 3) := by decide +kernel
theorem dX9_bestOfSum_10 : decode cX9_bestOfSum 10 = .ok (.invokevirtual 318, 3) := by decide +kernel
theorem dX9_bestOfSum_13 : decode cX9_bestOfSum 13 = .ok (.istore 9, 2) := by decide +kernel
theorem dX9_bestOfSum_15 : decode cX9_bestOfSum 15 = .ok (.iconst 0, 1) := by decide +kernel
theorem dX9_bestOfSum_16 : decode cX9_bestOfSum 16 = .ok (.istore 10, 2) := by decide +kernel
theorem dX9_bestOfSum_18 : decode cX9_bestOfSum 18 = .ok (.iload 10, 2) := by decide +kernel
theorem dX9_bestOfSum_20 : decode cX9_bestOfSum 20 = .ok (.iload 9, 2) := by decide +kernel
theorem dX9_bestOfSum_22 : decode cX9_bestOfSum 22 = .ok (.if_icmp .ge 87, 3) := by decide +kernel
theorem dX9_bestOfSum_25 : decode cX9_bestOfSum 25 = .ok (.iload 10, 2) := by decide +kernel
theorem dX9_bestOfSum_27 : decode cX9_bestOfSum 27 = .ok (.invokestatic 224, 3) := by decide +kernel
theorem dX9_bestOfSum_30 : decode cX9_bestOfSum 30 = .ok (.iload_n 1, 1) := by decide +kernel
theorem dX9_bestOfSum_31 : decode cX9_bestOfSum 31 = .ok (.if_icmp .ne 72, 3) := by decide +kernel
theorem dX9_bestOfSum_34 : decode cX9_bestOfSum 34 = .ok (.aload_n 0, 1) := by decide +kernel
theorem dX9_bestOfSum_35 : decode cX9_bestOfSum 35 = .ok (.getfield 56, 3) := by decide +kernel
theorem dX9_bestOfSum_38 : decode cX9_bestOfSum 38 = .ok (.aload_n 0, 1) := by decide +kernel
theorem dX9_bestOfSum_39 : decode cX9_bestOfSum 39 = .ok (.getfield 26, 3) := by decide +kernel
theorem dX9_bestOfSum_42 : decode cX9_bestOfSum 42 = .ok (.aload_n 0, 1) := by decide +kernel
theorem dX9_bestOfSum_43 : decode cX9_bestOfSum 43 = .ok (.getfield 30, 3) := by decide +kernel
theorem dX9_bestOfSum_46 : decode cX9_bestOfSum 46 = .ok (.iload 10, 2) := by decide +kernel
theorem dX9_bestOfSum_48 : decode cX9_bestOfSum 48 = .ok (.iload 4, 2) := by decide +kernel
theorem dX9_bestOfSum_50 : decode cX9_bestOfSum 50 = .ok (.invokevirtual 227, 3) := by decide +kernel
theorem dX9_bestOfSum_53 : decode cX9_bestOfSum 53 = .ok (.ifCond .eq 50, 3) := by decide +kernel
theorem dX9_bestOfSum_56 : decode cX9_bestOfSum 56 = .ok (.aload_n 0, 1) := by decide +kernel
theorem dX9_bestOfSum_57 : decode cX9_bestOfSum 57 = .ok (.aload_n 0, 1) := by decide +kernel
theorem dX9_bestOfSum_58 : decode cX9_bestOfSum 58 = .ok (.getfield 30, 3) := by decide +kernel
theorem dX9_bestOfSum_61 : decode cX9_bestOfSum 61 = .ok (.iload_n 2, 1) := by decide +kernel
theorem dX9_bestOfSum_62 : decode cX9_bestOfSum 62 = .ok (.iload 6, 2) := by decide +kernel
theorem dX9_bestOfSum_64 : decode cX9_bestOfSum 64 = .ok (.invokevirtual 213, 3) := by decide +kernel
theorem dX9_bestOfSum_67 : decode cX9_bestOfSum 67 = .ok (.iload 5, 2) := by decide +kernel
theorem dX9_bestOfSum_69 : decode cX9_bestOfSum 69 = .ok (.if_icmp .le 6, 3) := by decide +kernel
theorem dX9_bestOfSum_72 : decode cX9_bestOfSum 72 = .ok (.goto 31, 3) := by decide +kernel
theorem dX9_bestOfSum_75 : decode cX9_bestOfSum 75 = .ok (.aload_n 0, 1) := by decide +kernel
theorem dX9_bestOfSum_76 : decode cX9_bestOfSum 76 = .ok (.aload_n 0, 1) := by decide +kernel
theorem dX9_bestOfSum_77 : decode cX9_bestOfSum 77 = .ok (.getfield 30, 3) := by decide +kernel
theorem dX9_bestOfSum_80 : decode cX9_bestOfSum 80 = .ok (.iload_n 3, 1) := by decide +kernel
theorem dX9_bestOfSum_81 : decode cX9_bestOfSum 81 = .ok (.iload 6, 2) := by decide +kernel
theorem dX9_bestOfSum_83 : decode cX9_bestOfSum 83 = .ok (.invokevirtual 213, 3) := by decide +kernel
theorem dX9_bestOfSum_86 : decode cX9_bestOfSum 86 = .ok (.istore 11, 2) := by decide +kernel
theorem dX9_bestOfSum_88 : decode cX9_bestOfSum 88 = .ok (.iload 11, 2) := by decide +kernel
theorem dX9_bestOfSum_90 : decode cX9_bestOfSum 90 = .ok (.iload 8, 2) := by decide +kernel
theorem dX9_bestOfSum_92 : decode cX9_bestOfSum 92 = .ok (.if_icmp .le 11, 3) := by decide +kernel
theorem dX9_bestOfSum_95 : decode cX9_bestOfSum 95 = .ok (.iload 11, 2) := by decide +kernel
theorem dX9_bestOfSum_97 : decode cX9_bestOfSum 97 = .ok (.istore 8, 2) := by decide +kernel
theorem dX9_bestOfSum_99 : decode cX9_bestOfSum 99 = .ok (.iload 10, 2) := by decide +kernel
theorem dX9_bestOfSum_101 : decode cX9_bestOfSum 101 = .ok (.istore 7, 2) := by decide +kernel
theorem dX9_bestOfSum_103 : decode cX9_bestOfSum 103 = .ok (.iinc 10 1, 3) := by decide +kernel
theorem dX9_bestOfSum_106 : decode cX9_bestOfSum 106 = .ok (.goto (-88), 3) := by decide +kernel
theorem dX9_bestOfSum_109 : decode cX9_bestOfSum 109 = .ok (.iload 7, 2) := by decide +kernel
theorem dX9_bestOfSum_111 : decode cX9_bestOfSum 111 = .ok (.ireturn, 1) := by decide +kernel
set_option maxRecDepth 100000 in
theorem rX9_bestOfSum_0 {p : Program} {l : Launch} {e : Env} {s : State} {m : MethodId} {args : Array Value} {below : List Frame} {meth : Method} {c : Code} {D : va_G} {cA : Nat → ClassId} {ad : Nat → Nat} {Ret : zR} (C : z_Cx p { frames := 4, cells := 0, slots := 0, locals := 94 } s m args c cX9_bestOfSum yX9_bestOfSum.cls 12 D cA ad) (hr : meth.sig.returnType = (some .int)) (hlocks : meth.locks = false) : ∀ L st σ, tX9_bestOfSum_0 (z_X p l e { frames := 4, cells := 0, slots := 0, locals := 94 } s m args below meth c (MQ below (z_Qc D cA ad Ret) args s 0 0 (z_A ad)) 12 D cA ad true) Ret L st σ → z_X p l e { frames := 4, cells := 0, slots := 0, locals := 94 } s m args below meth c (MQ below (z_Qc D cA ad Ret) args s 0 0 (z_A ad)) 12 D cA ad true 0 L st σ := (s_iconst C dX9_bestOfSum_0 rfl ⟨by decide, by decide⟩ (s_istore C dX9_bestOfSum_1 (by decide) rfl (s_iconst C dX9_bestOfSum_3 rfl ⟨by decide, by decide⟩ (s_istore C dX9_bestOfSum_4 (by decide) rfl (s_aload_n C dX9_bestOfSum_6 rfl (s_getr C dX9_bestOfSum_7 (j := 8) cls_X9 (by decide) rfl (by decide) (by decide) (by decide +kernel) wd_365 (s_cv0 C dX9_bestOfSum_10 (okX1_rowsOfSteps l) cls_X1 wd_785 wd_786 wd_787 wd_83 wd_788 ⟨by decide, by decide, by decide +kernel⟩ ⟨by decide, by decide⟩ (s_istore C dX9_bestOfSum_13 (by decide) rfl (s_iconst C dX9_bestOfSum_15 rfl ⟨by decide, by decide⟩ (s_istore C dX9_bestOfSum_16 (by decide) rfl (fun _ _ _ h => h)))))))))))
set_option maxRecDepth 100000 in
theorem rX9_bestOfSum_18 {p : Program} {l : Launch} {e : Env} {s : State} {m : MethodId} {args : Array Value} {below : List Frame} {meth : Method} {c : Code} {D : va_G} {cA : Nat → ClassId} {ad : Nat → Nat} {Ret : zR} (C : z_Cx p { frames := 4, cells := 0, slots := 0, locals := 94 } s m args c cX9_bestOfSum yX9_bestOfSum.cls 12 D cA ad) (hr : meth.sig.returnType = (some .int)) (hlocks : meth.locks = false) : ∀ L st σ, tX9_bestOfSum_18 (z_X p l e { frames := 4, cells := 0, slots := 0, locals := 94 } s m args below meth c (MQ below (z_Qc D cA ad Ret) args s 0 0 (z_A ad)) 12 D cA ad true) Ret L st σ → z_X p l e { frames := 4, cells := 0, slots := 0, locals := 94 } s m args below meth c (MQ below (z_Qc D cA ad Ret) args s 0 0 (z_A ad)) 12 D cA ad true 18 L st σ := (s_iload C dX9_bestOfSum_18 (s_iload C dX9_bestOfSum_20 (s_icge C dX9_bestOfSum_22 (by decide) (s_iload C dX9_bestOfSum_109 (s_iret C dX9_bestOfSum_111 hr hlocks)) (s_iload C dX9_bestOfSum_25 (s_cs1 C dX9_bestOfSum_27 (okX1_sumOf l) wd_789 wd_790 wd_83 wd_791 ⟨by decide, by decide, by decide +kernel⟩ ⟨by decide, by decide⟩ (s_iload_n C dX9_bestOfSum_30 rfl (s_icne C dX9_bestOfSum_31 (by decide) (s_iinc C dX9_bestOfSum_103 (by decide) rfl (s_goto C dX9_bestOfSum_106 (by decide) (fun _ _ _ h => h))) (s_aload_n C dX9_bestOfSum_34 rfl (s_getr C dX9_bestOfSum_35 (j := 8) cls_X9 (by decide) rfl (by decide) (by decide) (by decide +kernel) wd_365 (s_aload_n C dX9_bestOfSum_38 rfl (s_getr C dX9_bestOfSum_39 (j := 2) cls_X9 (by decide) rfl (by decide) (by decide) (by decide +kernel) wd_359 (s_aload_n C dX9_bestOfSum_42 rfl (s_getr C dX9_bestOfSum_43 (j := 3) cls_X9 (by decide) rfl (by decide) (by decide) (by decide +kernel) wd_360 (s_iload C dX9_bestOfSum_46 (s_iload C dX9_bestOfSum_48 (s_cv4 C dX9_bestOfSum_50 (okX1_tryOn l) cls_X1 wd_792 wd_793 wd_794 wd_83 wd_795 ⟨by decide, by decide, by decide +kernel⟩ ⟨by decide, by decide⟩ (s_ifeq C dX9_bestOfSum_53 (by decide) (s_iinc C dX9_bestOfSum_103 (by decide) rfl (s_goto C dX9_bestOfSum_106 (by decide) (fun _ _ _ h => h))) (s_aload_n C dX9_bestOfSum_56 rfl (s_aload_n C dX9_bestOfSum_57 rfl (s_getr C dX9_bestOfSum_58 (j := 3) cls_X9 (by decide) rfl (by decide) (by decide) (by decide +kernel) wd_360 (s_iload_n C dX9_bestOfSum_61 rfl (s_iload C dX9_bestOfSum_62 (s_cv3 C dX9_bestOfSum_64 (okX9_slipsIn l) cls_X9 wd_751 wd_753 wd_18 wd_75 wd_754 ⟨by decide, by decide, by decide +kernel⟩ ⟨by decide, by decide⟩ (s_iload C dX9_bestOfSum_67 (s_icle C dX9_bestOfSum_69 (by decide) (s_aload_n C dX9_bestOfSum_75 rfl (s_aload_n C dX9_bestOfSum_76 rfl (s_getr C dX9_bestOfSum_77 (j := 3) cls_X9 (by decide) rfl (by decide) (by decide) (by decide +kernel) wd_360 (s_iload_n C dX9_bestOfSum_80 rfl (s_iload C dX9_bestOfSum_81 (s_cv3 C dX9_bestOfSum_83 (okX9_slipsIn l) cls_X9 wd_751 wd_753 wd_18 wd_75 wd_754 ⟨by decide, by decide, by decide +kernel⟩ ⟨by decide, by decide⟩ (s_istore C dX9_bestOfSum_86 (by decide) rfl (s_iload C dX9_bestOfSum_88 (s_iload C dX9_bestOfSum_90 (s_icle C dX9_bestOfSum_92 (by decide) (s_iinc C dX9_bestOfSum_103 (by decide) rfl (s_goto C dX9_bestOfSum_106 (by decide) (fun _ _ _ h => h))) (s_iload C dX9_bestOfSum_95 (s_istore C dX9_bestOfSum_97 (by decide) rfl (s_iload C dX9_bestOfSum_99 (s_istore C dX9_bestOfSum_101 (by decide) rfl (s_iinc C dX9_bestOfSum_103 (by decide) rfl (s_goto C dX9_bestOfSum_106 (by decide) (fun _ _ _ h => h))))))))))))))))) (s_goto C dX9_bestOfSum_72 (by decide) (s_iinc C dX9_bestOfSum_103 (by decide) rfl (s_goto C dX9_bestOfSum_106 (by decide) (fun _ _ _ h => h)))))))))))))))))))))))))))))
theorem okX9_bestOfSum (l : Launch) : z_OK l yX9_bestOfSum cX9_bestOfSum 12 (some .int) 4 94 SX9_bestOfSum := by
  refine z_ok_of true (by decide +kernel) ?_ ?_
  · intro as σ Ret h
    obtain ⟨k0, x1, x2, x3, x4, x5, x6, rfl⟩ := pX9_bestOfSum h
    exact ⟨Nat.le_of_ble_eq_true rfl, by simp⟩
  · intro p e s m args below meth c D cA ad Ret C hr hlocks as σ has hσ h
    obtain ⟨k0, x1, x2, x3, x4, x5, x6, rfl⟩ := pX9_bestOfSum h
    exact vX9_bestOfSum (rX9_bestOfSum_0 C hr hlocks) (rX9_bestOfSum_18 C hr hlocks) k0 x1 x2 x3 x4 x5 x6 σ (has _ (List.mem_of_getElem? (i := 0) rfl)) (has _ (List.mem_of_getElem? (i := 1) rfl)) (has _ (List.mem_of_getElem? (i := 2) rfl)) (has _ (List.mem_of_getElem? (i := 3) rfl)) (has _ (List.mem_of_getElem? (i := 4) rfl)) (has _ (List.mem_of_getElem? (i := 5) rfl)) (has _ (List.mem_of_getElem? (i := 6) rfl)) hσ h
def SX9_cheapestSteps : zS := fun as σ Ret => match as with
  | [.inr (.inr (9, 0, _)), .inl a, .inl b, .inl s, .inl x, .inl t] => ∃ D O h, (q_W σ 8 D O h ∧ (h = 0 ∨ h = 1) ∧ q_Dok D ∧ (0 ≤ a ∧ a < D 1) ∧ (0 ≤ b ∧ b < D 1) ∧ 1 ≤ s ∧ s ≤ 20) ∧ ∀ σ' : zM, (∀ c j, ¬ (25 ≤ c ∧ c ≤ 41 ∨ 80 ≤ c ∧ c ≤ 85) → σ' c j = σ c j) → q_J σ' D a.toNat → Ret (some (.inl (q_cs (q_chV D a.toNat s x t) q_chS (q_chP D a.toNat b.toNat s t) (4 ^ q_chc D a.toNat) 16 0))) σ'
  | _ => False
def tX9_cheapestSteps_0 (X : Nat → zB) (Ret : zR) (L : zL) (st : List zV) (σ : zM) : Prop := (z_aload 0 (z_getr 9 25 8 0 (z_aload 0 (z_getr 9 8 8 0 (z_cv1 8 SX8_takeOver (z_aload 0 (z_getr 9 80 3 0 (z_aload 0 (z_getr 9 8 8 0 (z_iload 1 (z_cv2 3 SX3_listen (z_aload 0 (z_getr 9 84 1 0 (z_aload 0 (z_getr 9 80 3 0 (z_cv1 1 SX1_choose (z_push 0 (z_istore 6 (X 37))))))))))))))))))) L st σ
def tX9_cheapestSteps_37 (X : Nat → zB) (Ret : zR) (L : zL) (st : List zV) (σ : zM) : Prop := (z_iload 6 (z_push 15 (z_icgt (z_push (-1) (z_iret Ret)) (z_aload 0 (z_iload 6 (z_iload 1 (z_iload 2 (z_iload 3 (z_iload 4 (z_iload 5 (z_cv6 9 SX9_bestOfSum (z_istore 7 (z_iload 7 (z_iflt (z_iinc 6 1 (z_goto (X 37))) (z_iload 7 (z_iret Ret)))))))))))))))) L st σ
theorem pX9_cheapestSteps {as : List zV} {σ : zM} {Ret : zR} (h : SX9_cheapestSteps as σ Ret) : ∃ (k0 : Nat) (x1 : Int) (x2 : Int) (x3 : Int) (x4 : Int) (x5 : Int), as = [.inr (.inr (9, 0, k0)), .inl x1, .inl x2, .inl x3, .inl x4, .inl x5] := by
  unfold SX9_cheapestSteps at h
  split at h
  · exact ⟨_, _, _, _, _, _, rfl⟩
  · exact h.elim
set_option maxRecDepth 10000 in
set_option maxHeartbeats 4000000 in
theorem vX9_cheapestSteps {X : Nat → zB} {Ret : zR} (h0 : ∀ L st σ, tX9_cheapestSteps_0 X Ret L st σ → X 0 L st σ) (h37 : ∀ L st σ, tX9_cheapestSteps_37 X Ret L st σ → X 37 L st σ) (k0 : Nat) (x1 : Int) (x2 : Int) (x3 : Int) (x4 : Int) (x5 : Int) (σ : zM) (hk0 : z_kd k0 = (9, 0)) (hx1 : -2147483648 ≤ x1 ∧ x1 ≤ 2147483647) (hx2 : -2147483648 ≤ x2 ∧ x2 ≤ 2147483647) (hx3 : -2147483648 ≤ x3 ∧ x3 ≤ 2147483647) (hx4 : -2147483648 ≤ x4 ∧ x4 ≤ 2147483647) (hx5 : -2147483648 ≤ x5 ∧ x5 ≤ 2147483647) (hσ : z_okm σ) (h : SX9_cheapestSteps [.inr (.inr (9, 0, k0)), .inl x1, .inl x2, .inl x3, .inl x4, .inl x5] σ Ret) : X 0 [some (.inr (.inr (9, 0, k0))), some (.inl x1), some (.inl x2), some (.inl x3), some (.inl x4), some (.inl x5), none, none] [] σ := by
  obtain ⟨D, O, hh, ⟨WW, h7, K, ⟨a0, a1⟩, ⟨b0, b1⟩, hs⟩, h⟩ := h
  obtain rfl := z_kd9 hk0
  obtain ⟨a, rfl⟩ := z_nat a0
  obtain ⟨b, rfl⟩ := z_nat b0
  simp only [Int.toNat_natCast] at h
  have W := WW.1
  have W3 := WW.2.2
  have W1 : σ 16 3 = D 1 := W.1.2.1.1
  have L37 : ∀ (d m : Nat) (v : Option zV) (σ1 : zM), m + d = 16 → (∀ c j, ¬ (25 ≤ c ∧ c ≤ 41 ∨ 80 ≤ c ∧ c ≤ 85) → σ1 c j = σ c j) → q_J σ1 D a → q_cs (q_chV D a x3 x4 x5) q_chS (q_chP D a b x3 x5) (4 ^ q_chc D a) d m = q_cs (q_chV D a x3 x4 x5) q_chS (q_chP D a b x3 x5) (4 ^ q_chc D a) 16 0 → X 37 [some (.inr (.inr (9, 0, 0))), some (.inl (a : Int)), some (.inl (b : Int)), some (.inl x3), some (.inl x4), some (.inl x5), some (.inl (m : Int)), v] [] σ1 := by
    intro d
    induction d with
    | zero =>
      intro m v σ1 hd f1 j1 hq
      have fin := h σ1 f1 j1
      rw [← hq, q_cs] at fin
      refine h37 _ _ _ ?_
      simp only [z_push, z_lpush, z_iload, z_lload, z_aload, z_istore, z_istoreP, z_lstore, z_astore, z_iinc, z_iincP, z_iadd, z_isub, z_imul, z_iaddW, z_isubW, z_imulW, z_idiv, z_irem, z_iand, z_ior, z_ixor, z_ishl, z_ishr, z_iushr, z_ineg, z_i2l, z_i2b, z_i2s, z_i2c, z_l2i, z_ladd, z_lsub, z_land, z_lor, z_lshl, z_lshr, z_lcmp, z_dup, z_pop, z_dup2, z_goto, z_tsw, z_cases, z_geti, z_getr, z_puti, z_putz, z_ald, z_iast, z_bast, z_zast, z_alen, z_acopy, z_mmax, z_mmin, z_mabs, z_mabsL, z_iret, z_zret, z_nret, z_lret, z_aret, z_vret, z_cat, z_ldcs, z_strv, z_strc, z_gcs, z_gfm, z_sln, z_sald, z_ifeq, z_ifne, z_iflt, z_ifge, z_ifgt, z_ifle, z_iceq, z_icne, z_iclt, z_icge, z_icgt, z_icle, z_cs0, z_cs1, z_cs2, z_cs3, z_cs4, z_cs5, z_cs6, z_cs7, z_cv0, z_cv1, z_cv2, z_cv3, z_cv4, z_cv5, z_cv6, z_cv7, z_g0, z_s0, z_g1, z_s1, z_g2, z_s2, z_g3, z_s3, z_g4, z_s4, z_g5, z_s5, z_g6, z_s6, z_g7, z_s7, z_g8, z_s8, z_g9, z_s9, z_g10, z_s10, z_g11, z_s11, z_g12, z_s12, z_g13, z_s13, z_b0, z_b1, z_b0n, z_b1n, z_up_far1, z_up_far2, z_up_far3, z_up_far4, z_up_far5, z_up_far6, Classical.not_not, not_true_eq_false, z_in, z_inL, Int.cast_ofNat_Int, Nat.reduceLeDiff, List.length_cons, List.length_nil, Nat.reduceAdd, Nat.zero_add, Nat.le_refl, true_and, and_true, List.length, Nat.reduceLT, true_or, or_true, false_or, or_false, false_and, and_false, not_true_eq_false, not_false_eq_true, forall_const, false_implies, true_implies, Int.reduceEq, Int.reduceLT, Int.reduceLE, Int.reduceAdd, Int.reduceSub, Int.reduceMul, Int.reduceNeg, Int.reduceToNat, Int.toNat_natCast, ↓reduceIte, reduceIte, Nat.reduceEqDiff, Nat.reduceSub, Nat.reduceMul, ne_eq, Int.zero_add, Int.add_zero, Int.sub_zero, Nat.add_zero, Int.ofNat_eq_natCast, tX9_cheapestSteps_37]
      repeat' (first | (intro _) | (with_reducible assumption) | (refine And.intro ?_ ?_))
      all_goals first | omega | assumption | (refine z_fin fin ?_ rfl; first | rfl | omega | (split <;> omega) | (split <;> split <;> omega)) | skip
    | succ d ih =>
      intro m v σ1 hd f1 j1 hq
      rw [q_cs] at hq
      refine h37 _ _ _ ?_
      simp only [z_push, z_lpush, z_iload, z_lload, z_aload, z_istore, z_istoreP, z_lstore, z_astore, z_iinc, z_iincP, z_iadd, z_isub, z_imul, z_iaddW, z_isubW, z_imulW, z_idiv, z_irem, z_iand, z_ior, z_ixor, z_ishl, z_ishr, z_iushr, z_ineg, z_i2l, z_i2b, z_i2s, z_i2c, z_l2i, z_ladd, z_lsub, z_land, z_lor, z_lshl, z_lshr, z_lcmp, z_dup, z_pop, z_dup2, z_goto, z_tsw, z_cases, z_geti, z_getr, z_puti, z_putz, z_ald, z_iast, z_bast, z_zast, z_alen, z_acopy, z_mmax, z_mmin, z_mabs, z_mabsL, z_iret, z_zret, z_nret, z_lret, z_aret, z_vret, z_cat, z_ldcs, z_strv, z_strc, z_gcs, z_gfm, z_sln, z_sald, z_ifeq, z_ifne, z_iflt, z_ifge, z_ifgt, z_ifle, z_iceq, z_icne, z_iclt, z_icge, z_icgt, z_icle, z_cs0, z_cs1, z_cs2, z_cs3, z_cs4, z_cs5, z_cs6, z_cs7, z_cv0, z_cv1, z_cv2, z_cv3, z_cv4, z_cv5, z_cv6, z_cv7, z_g0, z_s0, z_g1, z_s1, z_g2, z_s2, z_g3, z_s3, z_g4, z_s4, z_g5, z_s5, z_g6, z_s6, z_g7, z_s7, z_g8, z_s8, z_g9, z_s9, z_g10, z_s10, z_g11, z_s11, z_g12, z_s12, z_g13, z_s13, z_b0, z_b1, z_b0n, z_b1n, z_up_far1, z_up_far2, z_up_far3, z_up_far4, z_up_far5, z_up_far6, Classical.not_not, not_true_eq_false, z_in, z_inL, Int.cast_ofNat_Int, Nat.reduceLeDiff, List.length_cons, List.length_nil, Nat.reduceAdd, Nat.zero_add, Nat.le_refl, true_and, and_true, List.length, Nat.reduceLT, true_or, or_true, false_or, or_false, false_and, and_false, not_true_eq_false, not_false_eq_true, forall_const, false_implies, true_implies, Int.reduceEq, Int.reduceLT, Int.reduceLE, Int.reduceAdd, Int.reduceSub, Int.reduceMul, Int.reduceNeg, Int.reduceToNat, Int.toNat_natCast, ↓reduceIte, reduceIte, Nat.reduceEqDiff, Nat.reduceSub, Nat.reduceMul, ne_eq, Int.zero_add, Int.add_zero, Int.sub_zero, Nat.add_zero, Int.ofNat_eq_natCast, tX9_cheapestSteps_37, SX9_bestOfSum]
      refine ⟨fun e => absurd e (by omega), fun _ => ⟨D, ⟨j1, K, by omega, by omega, by omega, by omega, by omega⟩, fun σ2 f2 j2 => ⟨fun e => ⟨by omega, ?_⟩, fun e => ?_⟩⟩⟩
      · rw [if_neg (by omega)] at hq
        exact ih (m + 1) _ σ2 (by omega) (fun c j hc => by rw [f2 c j (by omega), f1 c j hc]) j2 hq
      · rw [if_pos (by omega)] at hq
        have fin := h σ2 (fun c j hc => by rw [f2 c j (by omega), f1 c j hc]) j2
        rw [← hq] at fin
        exact fin
  refine h0 _ _ _ ?_
  simp only [z_push, z_lpush, z_iload, z_lload, z_aload, z_istore, z_istoreP, z_lstore, z_astore, z_iinc, z_iincP, z_iadd, z_isub, z_imul, z_iaddW, z_isubW, z_imulW, z_idiv, z_irem, z_iand, z_ior, z_ixor, z_ishl, z_ishr, z_iushr, z_ineg, z_i2l, z_i2b, z_i2s, z_i2c, z_l2i, z_ladd, z_lsub, z_land, z_lor, z_lshl, z_lshr, z_lcmp, z_dup, z_pop, z_dup2, z_goto, z_tsw, z_cases, z_geti, z_getr, z_puti, z_putz, z_ald, z_iast, z_bast, z_zast, z_alen, z_acopy, z_mmax, z_mmin, z_mabs, z_mabsL, z_iret, z_zret, z_nret, z_lret, z_aret, z_vret, z_cat, z_ldcs, z_strv, z_strc, z_gcs, z_gfm, z_sln, z_sald, z_ifeq, z_ifne, z_iflt, z_ifge, z_ifgt, z_ifle, z_iceq, z_icne, z_iclt, z_icge, z_icgt, z_icle, z_cs0, z_cs1, z_cs2, z_cs3, z_cs4, z_cs5, z_cs6, z_cs7, z_cv0, z_cv1, z_cv2, z_cv3, z_cv4, z_cv5, z_cv6, z_cv7, z_g0, z_s0, z_g1, z_s1, z_g2, z_s2, z_g3, z_s3, z_g4, z_s4, z_g5, z_s5, z_g6, z_s6, z_g7, z_s7, z_g8, z_s8, z_g9, z_s9, z_g10, z_s10, z_g11, z_s11, z_g12, z_s12, z_g13, z_s13, z_b0, z_b1, z_b0n, z_b1n, z_up_far1, z_up_far2, z_up_far3, z_up_far4, z_up_far5, z_up_far6, Classical.not_not, not_true_eq_false, z_in, z_inL, Int.cast_ofNat_Int, Nat.reduceLeDiff, List.length_cons, List.length_nil, Nat.reduceAdd, Nat.zero_add, Nat.le_refl, true_and, and_true, List.length, Nat.reduceLT, true_or, or_true, false_or, or_false, false_and, and_false, not_true_eq_false, not_false_eq_true, forall_const, false_implies, true_implies, Int.reduceEq, Int.reduceLT, Int.reduceLE, Int.reduceAdd, Int.reduceSub, Int.reduceMul, Int.reduceNeg, Int.reduceToNat, Int.toNat_natCast, ↓reduceIte, reduceIte, Nat.reduceEqDiff, Nat.reduceSub, Nat.reduceMul, ne_eq, Int.zero_add, Int.add_zero, Int.sub_zero, Nat.add_zero, Int.ofNat_eq_natCast, tX9_cheapestSteps_0, SX8_takeOver, SX3_listen, SX1_choose]
  refine ⟨by omega, fun σ1 f1 f2 => ?_⟩
  have g1 : q_wd σ1 25 D := (q_W_take WW (fun i j hv => f2 i j hv)).1
  have g0 : q_wd σ1 8 D := W.fr (fun c j h1 h2 => f1 c j (by omega))
  refine ⟨⟨q_wd_wok g0 K, by rw [f1 _ _ (by omega), W1]; omega⟩, fun σ2 f3 g => ?_⟩
  obtain ⟨l1, l2, l3⟩ := q_ear_D g0 (w := a) (by omega) g
  have ll := q_lsD_len (D := D) (w := a) K
  refine ⟨by omega, fun σ3 f4 e1 e2 => ?_⟩
  have j3 : q_J σ3 D a := by
    have c1 : σ3 84 1 = (q_chc D a : Int) := by
      rw [e1, l1]
      unfold q_chc
      omega
    refine ⟨g0.fr (fun c j h1 h2 => by rw [f4 c j (by omega), f3 c j (by omega)]), ⟨D, g1.fr (fun c j h1 h2 => by rw [f4 c j (by omega), f3 c j (by omega)]), fun _ _ => rfl⟩, c1, fun i hi => ?_⟩
    have e3 := e2 i (by rw [← e1, c1]; omega)
    rw [e3]
    exact l3 i (by unfold q_chc at hi; omega)
  exact L37 16 0 none σ3 (by omega) (fun c j hc => by rw [f4 c j (by omega), f3 c j (by omega), f1 c j (by omega)]) j3 rfl
theorem dX9_cheapestSteps_0 : decode cX9_cheapestSteps 0 = .ok (.aload_n 0, 1) := by decide +kernel
theorem dX9_cheapestSteps_1 : decode cX9_cheapestSteps 1 = .ok (.getfield 30, 3) := by decide +kernel
theorem dX9_cheapestSteps_4 : decode cX9_cheapestSteps 4 = .ok (.aload_n 0, 1) := by decide +kernel
theorem dX9_cheapestSteps_5 : decode cX9_cheapestSteps 5 = .ok (.getfield 26, 3) := by decide +kernel
theorem dX9_cheapestSteps_8 : decode cX9_cheapestSteps 8 = .ok (.invokevirtual 129, 3) := by decide +kernel
theorem dX9_cheapestSteps_11 : decode cX9_cheapestSteps 11 = .ok (.aload_n 0, 1) := by decide +kernel
theorem dX9_cheapestSteps_12 : decode cX9_cheapestSteps 12 = .ok (.getfield 49, 3) := by decide +kernel
theorem dX9_cheapestSteps_15 : decode cX9_cheapestSteps 15 = .ok (.aload_n 0, 1) := by decide +kernel
theorem dX9_cheapestSteps_16 : decode cX9_cheapestSteps 16 = .ok (.getfield 26, 3) := by decide +kernel
theorem dX9_cheapestSteps_19 : decode cX9_cheapestSteps 19 = .ok (.iload_n 1, 1) := by decide +kernel
theorem dX9_cheapestSteps_20 : decode cX9_cheapestSteps 20 = .ok (.invokevirtual 201, 3) := by decide +kernel
theorem dX9_cheapestSteps_23 : decode cX9_cheapestSteps 23 = .ok (.aload_n 0, 1) := by decide +kernel
theorem dX9_cheapestSteps_24 : decode cX9_cheapestSteps 24 = .ok (.getfield 56, 3) := by decide +kernel
theorem dX9_cheapestSteps_27 : decode cX9_cheapestSteps 27 = .ok (.aload_n 0, 1) := by decide +kernel
theorem dX9_cheapestSteps_28 : decode cX9_cheapestSteps 28 = .ok (.getfield 49, 3) := by decide +kernel
theorem dX9_cheapestSteps_31 : decode cX9_cheapestSteps 31 = .ok (.invokevirtual 310, 3) := by decide +kernel
theorem dX9_cheapestSteps_34 : decode cX9_cheapestSteps 34 = .ok (.iconst 0, 1) := by decide +kernel
theorem dX9_cheapestSteps_35 : decode cX9_cheapestSteps 35 = .ok (.istore 6, 2) := by decide +kernel
theorem dX9_cheapestSteps_37 : decode cX9_cheapestSteps 37 = .ok (.iload 6, 2) := by decide +kernel
theorem dX9_cheapestSteps_39 : decode cX9_cheapestSteps 39 = .ok (.bipush 15, 2) := by decide +kernel
theorem dX9_cheapestSteps_41 : decode cX9_cheapestSteps 41 = .ok (.if_icmp .gt 32, 3) := by decide +kernel
theorem dX9_cheapestSteps_44 : decode cX9_cheapestSteps 44 = .ok (.aload_n 0, 1) := by decide +kernel
theorem dX9_cheapestSteps_45 : decode cX9_cheapestSteps 45 = .ok (.iload 6, 2) := by decide +kernel
theorem dX9_cheapestSteps_47 : decode cX9_cheapestSteps 47 = .ok (.iload_n 1, 1) := by decide +kernel
theorem dX9_cheapestSteps_48 : decode cX9_cheapestSteps 48 = .ok (.iload_n 2, 1) := by decide +kernel
theorem dX9_cheapestSteps_49 : decode cX9_cheapestSteps 49 = .ok (.iload_n 3, 1) := by decide +kernel
theorem dX9_cheapestSteps_50 : decode cX9_cheapestSteps 50 = .ok (.iload 4, 2) := by decide +kernel
theorem dX9_cheapestSteps_52 : decode cX9_cheapestSteps 52 = .ok (.iload 5, 2) := by decide +kernel
theorem dX9_cheapestSteps_54 : decode cX9_cheapestSteps 54 = .ok (.invokevirtual 314, 3) := by decide +kernel
theorem dX9_cheapestSteps_57 : decode cX9_cheapestSteps 57 = .ok (.istore 7, 2) := by decide +kernel
theorem dX9_cheapestSteps_59 : decode cX9_cheapestSteps 59 = .ok (.iload 7, 2) := by decide +kernel
theorem dX9_cheapestSteps_61 : decode cX9_cheapestSteps 61 = .ok (.ifCond .lt 6, 3) := by decide +kernel
theorem dX9_cheapestSteps_64 : decode cX9_cheapestSteps 64 = .ok (.iload 7, 2) := by decide +kernel
theorem dX9_cheapestSteps_66 : decode cX9_cheapestSteps 66 = .ok (.ireturn, 1) := by decide +kernel
theorem dX9_cheapestSteps_67 : decode cX9_cheapestSteps 67 = .ok (.iinc 6 1, 3) := by decide +kernel
theorem dX9_cheapestSteps_70 : decode cX9_cheapestSteps 70 = .ok (.goto (-33), 3) := by decide +kernel
theorem dX9_cheapestSteps_73 : decode cX9_cheapestSteps 73 = .ok (.iconst (-1), 1) := by decide +kernel
theorem dX9_cheapestSteps_74 : decode cX9_cheapestSteps 74 = .ok (.ireturn, 1) := by decide +kernel
set_option maxRecDepth 100000 in
theorem rX9_cheapestSteps_0 {p : Program} {l : Launch} {e : Env} {s : State} {m : MethodId} {args : Array Value} {below : List Frame} {meth : Method} {c : Code} {D : va_G} {cA : Nat → ClassId} {ad : Nat → Nat} {Ret : zR} (C : z_Cx p { frames := 5, cells := 0, slots := 0, locals := 125 } s m args c cX9_cheapestSteps yX9_cheapestSteps.cls 8 D cA ad) (hr : meth.sig.returnType = (some .int)) (hlocks : meth.locks = false) : ∀ L st σ, tX9_cheapestSteps_0 (z_X p l e { frames := 5, cells := 0, slots := 0, locals := 125 } s m args below meth c (MQ below (z_Qc D cA ad Ret) args s 0 0 (z_A ad)) 8 D cA ad true) Ret L st σ → z_X p l e { frames := 5, cells := 0, slots := 0, locals := 125 } s m args below meth c (MQ below (z_Qc D cA ad Ret) args s 0 0 (z_A ad)) 8 D cA ad true 0 L st σ := (s_aload_n C dX9_cheapestSteps_0 rfl (s_getr C dX9_cheapestSteps_1 (j := 3) cls_X9 (by decide) rfl (by decide) (by decide) (by decide +kernel) wd_360 (s_aload_n C dX9_cheapestSteps_4 rfl (s_getr C dX9_cheapestSteps_5 (j := 2) cls_X9 (by decide) rfl (by decide) (by decide) (by decide +kernel) wd_359 (s_cv1 C dX9_cheapestSteps_8 (okX8_takeOver l) cls_X8 wd_606 wd_607 wd_608 wd_78 wd_609 ⟨by decide, by decide, by decide +kernel⟩ ⟨by decide, by decide⟩ (s_aload_n C dX9_cheapestSteps_11 rfl (s_getr C dX9_cheapestSteps_12 (j := 7) cls_X9 (by decide) rfl (by decide) (by decide) (by decide +kernel) wd_364 (s_aload_n C dX9_cheapestSteps_15 rfl (s_getr C dX9_cheapestSteps_16 (j := 2) cls_X9 (by decide) rfl (by decide) (by decide) (by decide +kernel) wd_359 (s_iload_n C dX9_cheapestSteps_19 rfl (s_cv2 C dX9_cheapestSteps_20 (okX3_listen l) cls_X3 wd_730 wd_731 wd_732 wd_82 wd_733 ⟨by decide, by decide, by decide +kernel⟩ ⟨by decide, by decide⟩ (s_aload_n C dX9_cheapestSteps_23 rfl (s_getr C dX9_cheapestSteps_24 (j := 8) cls_X9 (by decide) rfl (by decide) (by decide) (by decide +kernel) wd_365 (s_aload_n C dX9_cheapestSteps_27 rfl (s_getr C dX9_cheapestSteps_28 (j := 7) cls_X9 (by decide) rfl (by decide) (by decide) (by decide +kernel) wd_364 (s_cv1 C dX9_cheapestSteps_31 (okX1_choose l) cls_X1 wd_777 wd_778 wd_779 wd_83 wd_780 ⟨by decide, by decide, by decide +kernel⟩ ⟨by decide, by decide⟩ (s_iconst C dX9_cheapestSteps_34 rfl ⟨by decide, by decide⟩ (s_istore C dX9_cheapestSteps_35 (by decide) rfl (fun _ _ _ h => h)))))))))))))))))))
set_option maxRecDepth 100000 in
theorem rX9_cheapestSteps_37 {p : Program} {l : Launch} {e : Env} {s : State} {m : MethodId} {args : Array Value} {below : List Frame} {meth : Method} {c : Code} {D : va_G} {cA : Nat → ClassId} {ad : Nat → Nat} {Ret : zR} (C : z_Cx p { frames := 5, cells := 0, slots := 0, locals := 125 } s m args c cX9_cheapestSteps yX9_cheapestSteps.cls 8 D cA ad) (hr : meth.sig.returnType = (some .int)) (hlocks : meth.locks = false) : ∀ L st σ, tX9_cheapestSteps_37 (z_X p l e { frames := 5, cells := 0, slots := 0, locals := 125 } s m args below meth c (MQ below (z_Qc D cA ad Ret) args s 0 0 (z_A ad)) 8 D cA ad true) Ret L st σ → z_X p l e { frames := 5, cells := 0, slots := 0, locals := 125 } s m args below meth c (MQ below (z_Qc D cA ad Ret) args s 0 0 (z_A ad)) 8 D cA ad true 37 L st σ := (s_iload C dX9_cheapestSteps_37 (s_bipush C dX9_cheapestSteps_39 rfl ⟨by decide, by decide⟩ (s_icgt C dX9_cheapestSteps_41 (by decide) (s_iconst C dX9_cheapestSteps_73 rfl ⟨by decide, by decide⟩ (s_iret C dX9_cheapestSteps_74 hr hlocks)) (s_aload_n C dX9_cheapestSteps_44 rfl (s_iload C dX9_cheapestSteps_45 (s_iload_n C dX9_cheapestSteps_47 rfl (s_iload_n C dX9_cheapestSteps_48 rfl (s_iload_n C dX9_cheapestSteps_49 rfl (s_iload C dX9_cheapestSteps_50 (s_iload C dX9_cheapestSteps_52 (s_cv6 C dX9_cheapestSteps_54 (okX9_bestOfSum l) cls_X9 wd_781 wd_783 wd_20 wd_75 wd_784 ⟨by decide, by decide, by decide +kernel⟩ ⟨by decide, by decide⟩ (s_istore C dX9_cheapestSteps_57 (by decide) rfl (s_iload C dX9_cheapestSteps_59 (s_iflt C dX9_cheapestSteps_61 (by decide) (s_iinc C dX9_cheapestSteps_67 (by decide) rfl (s_goto C dX9_cheapestSteps_70 (by decide) (fun _ _ _ h => h))) (s_iload C dX9_cheapestSteps_64 (s_iret C dX9_cheapestSteps_66 hr hlocks))))))))))))))))
theorem okX9_cheapestSteps (l : Launch) : z_OK l yX9_cheapestSteps cX9_cheapestSteps 8 (some .int) 5 125 SX9_cheapestSteps := by
  refine z_ok_of true (by decide +kernel) ?_ ?_
  · intro as σ Ret h
    obtain ⟨k0, x1, x2, x3, x4, x5, rfl⟩ := pX9_cheapestSteps h
    exact ⟨Nat.le_of_ble_eq_true rfl, by simp⟩
  · intro p e s m args below meth c D cA ad Ret C hr hlocks as σ has hσ h
    obtain ⟨k0, x1, x2, x3, x4, x5, rfl⟩ := pX9_cheapestSteps h
    exact vX9_cheapestSteps (rX9_cheapestSteps_0 C hr hlocks) (rX9_cheapestSteps_37 C hr hlocks) k0 x1 x2 x3 x4 x5 σ (has _ (List.mem_of_getElem? (i := 0) rfl)) (has _ (List.mem_of_getElem? (i := 1) rfl)) (has _ (List.mem_of_getElem? (i := 2) rfl)) (has _ (List.mem_of_getElem? (i := 3) rfl)) (has _ (List.mem_of_getElem? (i := 4) rfl)) (has _ (List.mem_of_getElem? (i := 5) rfl)) hσ h
def SX9_cheapest : zS := fun as σ Ret => match as with
  | [.inr (.inr (9, 0, _)), .inl a, .inl b, .inl s, .inl x, .inl t, .inl w] => q_S9 (q_gCheapest a b s x t w) q_fId σ Ret
  | _ => False
def tX9_cheapest_0 (X : Nat → zB) (Ret : zR) (L : zL) (st : List zV) (σ : zM) : Prop := (z_aload 0 (z_getr 9 8 8 0 (z_getr 8 8 7 0 (z_iload 1 (z_cv1 7 SX7_has (z_ifeq (z_push (-1000001) (z_iret Ret)) (z_aload 0 (z_getr 9 8 8 0 (z_getr 8 8 7 0 (z_iload 2 (z_cv1 7 SX7_has (z_ifeq (z_push (-1000001) (z_iret Ret)) (z_iload 3 (z_push 1 (z_iclt (z_push (-1000001) (z_iret Ret)) (z_iload 3 (z_push 20 (z_icle (z_iload 4 (z_cs1 SX9_isSlack (z_ifeq (z_push (-1000001) (z_iret Ret)) (z_iload 5 (z_cs1 SX9_isApart (z_ifeq (z_push (-1000001) (z_iret Ret)) (z_iload 6 (z_iflt (z_push (-1000001) (z_iret Ret)) (z_iload 6 (z_push 2 (z_icle (z_aload 0 (z_iload 1 (z_iload 2 (z_iload 3 (z_iload 4 (z_iload 5 (z_cv5 9 SX9_cheapestSteps (z_istore 7 (z_iload 7 (z_ifge (z_iload 6 (z_ifne (z_iload 6 (z_push 2 (z_icne (z_aload 0 (z_getr 9 84 1 0 (z_aload 0 (z_getr 9 8 8 0 (z_aload 0 (z_getr 9 25 8 0 (z_iload 7 (z_iload 3 (z_cv4 1 SX1_tryOn (z_pop (z_aload 0 (z_aload 0 (z_getr 9 25 8 0 (z_iload 2 (z_iload 5 (z_cv3 9 SX9_slipsIn (z_iret Ret))))))))))))))))) (z_iload 7 (z_iret Ret))))) (z_iload 7 (z_cs1 SX1_sumOf (z_iret Ret))))) (z_push (-1000000) (z_iret Ret)))))))))))) (z_push (-1000001) (z_iret Ret))))))))))))) (z_push (-1000001) (z_iret Ret)))))))))))))))))))) L st σ
theorem pX9_cheapest {as : List zV} {σ : zM} {Ret : zR} (h : SX9_cheapest as σ Ret) : ∃ (k0 : Nat) (x1 : Int) (x2 : Int) (x3 : Int) (x4 : Int) (x5 : Int) (x6 : Int), as = [.inr (.inr (9, 0, k0)), .inl x1, .inl x2, .inl x3, .inl x4, .inl x5, .inl x6] := by
  unfold SX9_cheapest at h
  split at h
  · exact ⟨_, _, _, _, _, _, _, rfl⟩
  · exact h.elim
set_option maxRecDepth 10000 in
set_option maxHeartbeats 4000000 in
theorem vX9_cheapest {X : Nat → zB} {Ret : zR} (h0 : ∀ L st σ, tX9_cheapest_0 X Ret L st σ → X 0 L st σ) (k0 : Nat) (x1 : Int) (x2 : Int) (x3 : Int) (x4 : Int) (x5 : Int) (x6 : Int) (σ : zM) (hk0 : z_kd k0 = (9, 0)) (hx1 : -2147483648 ≤ x1 ∧ x1 ≤ 2147483647) (hx2 : -2147483648 ≤ x2 ∧ x2 ≤ 2147483647) (hx3 : -2147483648 ≤ x3 ∧ x3 ≤ 2147483647) (hx4 : -2147483648 ≤ x4 ∧ x4 ≤ 2147483647) (hx5 : -2147483648 ≤ x5 ∧ x5 ≤ 2147483647) (hx6 : -2147483648 ≤ x6 ∧ x6 ≤ 2147483647) (hσ : z_okm σ) (h : SX9_cheapest [.inr (.inr (9, 0, k0)), .inl x1, .inl x2, .inl x3, .inl x4, .inl x5, .inl x6] σ Ret) : X 0 [some (.inr (.inr (9, 0, k0))), some (.inl x1), some (.inl x2), some (.inl x3), some (.inl x4), some (.inl x5), some (.inl x6), none] [] σ := by
  obtain ⟨⟨R, m⟩, h⟩ := h
  obtain rfl := z_kd9 hk0
  have WW := R.2.2.2.2.1
  have W := WW.1
  have K := m.2.1.1
  have h7 := m.2.1.2.2.1
  have W1 : σ 16 3 = σ 93 1 := W.1.2.1.1
  have K1 := K.1.2.1
  by_cases c : ¬ ((0 ≤ x1 ∧ x1 < σ 93 1) ∧ (0 ≤ x2 ∧ x2 < σ 93 1) ∧ (1 ≤ x3 ∧ x3 ≤ 20) ∧ (0 ≤ x4 ∧ x4 ≤ 20) ∧ (0 ≤ x5 ∧ x5 ≤ 99) ∧ 0 ≤ x6 ∧ x6 ≤ 2)
  · have fin := h σ (fun _ _ => rfl) R
    simp only [q_gCheapest, if_pos c] at fin
    refine h0 _ _ _ ?_
    simp only [z_push, z_lpush, z_iload, z_lload, z_aload, z_istore, z_istoreP, z_lstore, z_astore, z_iinc, z_iincP, z_iadd, z_isub, z_imul, z_iaddW, z_isubW, z_imulW, z_idiv, z_irem, z_iand, z_ior, z_ixor, z_ishl, z_ishr, z_iushr, z_ineg, z_i2l, z_i2b, z_i2s, z_i2c, z_l2i, z_ladd, z_lsub, z_land, z_lor, z_lshl, z_lshr, z_lcmp, z_dup, z_pop, z_dup2, z_goto, z_tsw, z_cases, z_geti, z_getr, z_puti, z_putz, z_ald, z_iast, z_bast, z_zast, z_alen, z_acopy, z_mmax, z_mmin, z_mabs, z_mabsL, z_iret, z_zret, z_nret, z_lret, z_aret, z_vret, z_cat, z_ldcs, z_strv, z_strc, z_gcs, z_gfm, z_sln, z_sald, z_ifeq, z_ifne, z_iflt, z_ifge, z_ifgt, z_ifle, z_iceq, z_icne, z_iclt, z_icge, z_icgt, z_icle, z_cs0, z_cs1, z_cs2, z_cs3, z_cs4, z_cs5, z_cs6, z_cs7, z_cv0, z_cv1, z_cv2, z_cv3, z_cv4, z_cv5, z_cv6, z_cv7, z_g0, z_s0, z_g1, z_s1, z_g2, z_s2, z_g3, z_s3, z_g4, z_s4, z_g5, z_s5, z_g6, z_s6, z_g7, z_s7, z_g8, z_s8, z_g9, z_s9, z_g10, z_s10, z_g11, z_s11, z_g12, z_s12, z_g13, z_s13, z_b0, z_b1, z_b0n, z_b1n, z_up_far1, z_up_far2, z_up_far3, z_up_far4, z_up_far5, z_up_far6, Classical.not_not, not_true_eq_false, z_in, z_inL, Int.cast_ofNat_Int, Nat.reduceLeDiff, List.length_cons, List.length_nil, Nat.reduceAdd, Nat.zero_add, Nat.le_refl, true_and, and_true, List.length, Nat.reduceLT, true_or, or_true, false_or, or_false, false_and, and_false, not_true_eq_false, not_false_eq_true, forall_const, false_implies, true_implies, Int.reduceEq, Int.reduceLT, Int.reduceLE, Int.reduceAdd, Int.reduceSub, Int.reduceMul, Int.reduceNeg, Int.reduceToNat, Int.toNat_natCast, ↓reduceIte, reduceIte, Nat.reduceEqDiff, Nat.reduceSub, Nat.reduceMul, ne_eq, Int.zero_add, Int.add_zero, Int.sub_zero, Nat.add_zero, Int.ofNat_eq_natCast, tX9_cheapest_0, SX7_has, SX9_isSlack, SX9_isApart, W1]
    repeat' (first | (intro _) | (with_reducible assumption) | (refine And.intro ?_ ?_))
    all_goals first | omega | assumption | (refine z_fin fin ?_ rfl; first | rfl | omega | (split <;> omega) | (split <;> split <;> omega)) | skip
  obtain ⟨a, rfl⟩ := z_nat (show 0 ≤ x1 by omega)
  obtain ⟨b, rfl⟩ := z_nat (show 0 ≤ x2 by omega)
  have key : ∀ σ1 : zM, (∀ c j, ¬ (25 ≤ c ∧ c ≤ 41 ∨ 80 ≤ c ∧ c ≤ 85) → σ1 c j = σ c j) → Ret (some (.inl (q_gCheapest a b x3 x4 x5 x6 σ))) σ1 := by
    intro σ1 f1
    have e9 : ∀ c, 89 ≤ c → σ1 c = σ c := fun c hc => funext fun j => f1 c j (by omega)
    have fin := h σ1 e9 (q_R2_id R (fun c j hc => f1 c j (by unfold q_lastP at hc; omega)))
    unfold q_gCheapest at fin ⊢
    rw [e9 93 (by omega)] at fin
    exact fin
  unfold q_gCheapest at key
  rw [if_neg c, Int.toNat_natCast, Int.toNat_natCast] at key
  have c5 : q_chc (σ 93) a ≤ 5 := Nat.min_le_left _ _
  have N1 : 4 ^ q_chc (σ 93) a ≤ 4 ^ 5 := Nat.pow_le_pow_right (by decide) c5
  have Dk : ∀ st, q_chV (σ 93) a x3 x4 x5 st = true → q_Dok (q_chD (σ 93) a x3 st) := fun st hv => (q_ct_ok K (show 0 ≤ x3 by omega) _ (fun i hi => q_chl_in hi) (q_chV_iff.mp hv).1).1
  have cm := q_cs_mb (V := q_chV (σ 93) a x3 x4 x5) (S := q_chS) (P := q_chP (σ 93) a b x3 x5) (N := 4 ^ q_chc (σ 93) a) (fun st hv => (q_slD_in (Dk st hv)).1) (fun st _ => by have := q_dsum_le st 5; unfold q_chS; omega)
  have iv := q_mb_inv (V := q_chV (σ 93) a x3 x4 x5) (S := q_chS) (P := q_chP (σ 93) a b x3 x5) (4 ^ q_chc (σ 93) a)
  refine h0 _ _ _ ?_
  simp only [z_push, z_lpush, z_iload, z_lload, z_aload, z_istore, z_istoreP, z_lstore, z_astore, z_iinc, z_iincP, z_iadd, z_isub, z_imul, z_iaddW, z_isubW, z_imulW, z_idiv, z_irem, z_iand, z_ior, z_ixor, z_ishl, z_ishr, z_iushr, z_ineg, z_i2l, z_i2b, z_i2s, z_i2c, z_l2i, z_ladd, z_lsub, z_land, z_lor, z_lshl, z_lshr, z_lcmp, z_dup, z_pop, z_dup2, z_goto, z_tsw, z_cases, z_geti, z_getr, z_puti, z_putz, z_ald, z_iast, z_bast, z_zast, z_alen, z_acopy, z_mmax, z_mmin, z_mabs, z_mabsL, z_iret, z_zret, z_nret, z_lret, z_aret, z_vret, z_cat, z_ldcs, z_strv, z_strc, z_gcs, z_gfm, z_sln, z_sald, z_ifeq, z_ifne, z_iflt, z_ifge, z_ifgt, z_ifle, z_iceq, z_icne, z_iclt, z_icge, z_icgt, z_icle, z_cs0, z_cs1, z_cs2, z_cs3, z_cs4, z_cs5, z_cs6, z_cs7, z_cv0, z_cv1, z_cv2, z_cv3, z_cv4, z_cv5, z_cv6, z_cv7, z_g0, z_s0, z_g1, z_s1, z_g2, z_s2, z_g3, z_s3, z_g4, z_s4, z_g5, z_s5, z_g6, z_s6, z_g7, z_s7, z_g8, z_s8, z_g9, z_s9, z_g10, z_s10, z_g11, z_s11, z_g12, z_s12, z_g13, z_s13, z_b0, z_b1, z_b0n, z_b1n, z_up_far1, z_up_far2, z_up_far3, z_up_far4, z_up_far5, z_up_far6, Classical.not_not, not_true_eq_false, z_in, z_inL, Int.cast_ofNat_Int, Nat.reduceLeDiff, List.length_cons, List.length_nil, Nat.reduceAdd, Nat.zero_add, Nat.le_refl, true_and, and_true, List.length, Nat.reduceLT, true_or, or_true, false_or, or_false, false_and, and_false, not_true_eq_false, not_false_eq_true, forall_const, false_implies, true_implies, Int.reduceEq, Int.reduceLT, Int.reduceLE, Int.reduceAdd, Int.reduceSub, Int.reduceMul, Int.reduceNeg, Int.reduceToNat, Int.toNat_natCast, ↓reduceIte, reduceIte, Nat.reduceEqDiff, Nat.reduceSub, Nat.reduceMul, ne_eq, Int.zero_add, Int.add_zero, Int.sub_zero, Nat.add_zero, Int.ofNat_eq_natCast, tX9_cheapest_0, SX7_has, SX9_isSlack, SX9_isApart, SX9_cheapestSteps, SX1_sumOf, SX1_tryOn, SX9_slipsIn, W1]
  have ab : ∀ {P : Prop}, False → P := fun f => f.elim
  refine ⟨fun e => ab (e (by omega)), fun _ => ⟨fun e => ab (e (by omega)), fun _ => ⟨fun e => ab (by omega), fun _ => ⟨fun _ => ⟨fun e => ab (e (by omega)), fun _ => ⟨fun e => ab (e (by omega)), fun _ => ⟨fun e => ab (by omega), fun _ => ⟨fun _ => ⟨σ 93, σ 95, σ 89 7, ⟨WW, by omega, K, by omega, by omega, by omega, by omega⟩, fun σ1 f1 j1 => ?_⟩, fun e => ab (by omega)⟩⟩⟩⟩, fun e => ab (by omega)⟩⟩⟩⟩
  have fin := key σ1 f1
  rw [cm]
  rcases iv with ⟨i1, i2⟩ | ⟨best, i1, i2, i3, i4⟩
  · have e1 : (q_chB (σ 93) a b x3 x4 x5).1 = -1 := i1
    rw [if_pos (by omega)] at fin
    rw [i1]
    exact ⟨fun e => absurd e (by omega), fun _ => fin⟩
  · have eB : q_chB (σ 93) a b x3 x4 x5 = ((best : Int), q_chS best, q_chP (σ 93) a b x3 x5 best) := i1
    rw [eB] at fin
    rw [i1]
    dsimp only at fin ⊢
    rw [if_neg (by omega)] at fin
    rw [Int.toNat_natCast]
    have vi := q_chV_iff.mp i3
    have J3 := j1.2.2.1
    have pre := q_J_pre (st := best) j1 K (by omega) (show 1 ≤ x3 ∧ x3 ≤ 20 by omega)
    have Db := Dk best i3
    have D1 : q_chD (σ 93) a x3 best 1 = σ 93 1 := q_ct_miss _ (fun i _ => by omega)
    refine ⟨fun _ => ⟨fun e0 => ⟨fun e2 => ⟨pre, fun ok => ?_, fun ok => ?_⟩, fun e2 => ?_⟩, fun e0 => ⟨by omega, ?_⟩⟩, fun e => ab (by omega)⟩
    · rw [J3, Int.toNat_natCast]
      refine ⟨_, ⟨q_J_all j1, Db, by rw [D1]; omega⟩, fun σ2 f2 => ?_⟩
      have fin2 := key σ2 (fun c j hc => by rw [f2 c j (by omega), q_lay_ne (by omega), f1 c j hc])
      rw [eB] at fin2
      dsimp only at fin2
      rw [if_neg (by omega), if_neg e0, if_pos (by omega)] at fin2
      exact fin2
    · rw [J3, Int.toNat_natCast] at ok
      exact ab (ok ((q_J_ok j1).mpr vi.1))
    · rw [if_neg e0, if_neg (by omega)] at fin
      exact fin
    · rw [if_pos e0] at fin
      exact fin
theorem dX9_cheapest_0 : decode cX9_cheapest 0 = .ok (.aload_n 0, 1) := by decide +kernel
theorem dX9_cheapest_1 : decode cX9_cheapest 1 = .ok (.getfield 26, 3) := by decide +kernel
theorem dX9_cheapest_4 : decode cX9_cheapest 4 = .ok (.getfield 194, 3) := by decide +kernel
theorem dX9_cheapest_7 : decode cX9_cheapest 7 = .ok (.iload_n 1, 1) := by decide +kernel
theorem dX9_cheapest_8 : decode cX9_cheapest 8 = .ok (.invokevirtual 198, 3) := by decide +kernel
theorem dX9_cheapest_11 : decode cX9_cheapest 11 = .ok (.ifCond .eq 28, 3) := by decide +kernel
theorem dX9_cheapest_14 : decode cX9_cheapest 14 = .ok (.aload_n 0, 1) := by decide +kernel
theorem dX9_cheapest_15 : decode cX9_cheapest 15 = .ok (.getfield 26, 3) := by decide +kernel
theorem dX9_cheapest_18 : decode cX9_cheapest 18 = .ok (.getfield 194, 3) := by decide +kernel
theorem dX9_cheapest_21 : decode cX9_cheapest 21 = .ok (.iload_n 2, 1) := by decide +kernel
theorem dX9_cheapest_22 : decode cX9_cheapest 22 = .ok (.invokevirtual 198, 3) := by decide +kernel
theorem dX9_cheapest_25 : decode cX9_cheapest 25 = .ok (.ifCond .eq 14, 3) := by decide +kernel
theorem dX9_cheapest_28 : decode cX9_cheapest 28 = .ok (.iload_n 3, 1) := by decide +kernel
theorem dX9_cheapest_29 : decode cX9_cheapest 29 = .ok (.iconst 1, 1) := by decide +kernel
theorem dX9_cheapest_30 : decode cX9_cheapest 30 = .ok (.if_icmp .lt 9, 3) := by decide +kernel
theorem dX9_cheapest_33 : decode cX9_cheapest 33 = .ok (.iload_n 3, 1) := by decide +kernel
theorem dX9_cheapest_34 : decode cX9_cheapest 34 = .ok (.bipush 20, 2) := by decide +kernel
theorem dX9_cheapest_36 : decode cX9_cheapest 36 = .ok (.if_icmp .le 6, 3) := by decide +kernel
theorem dX9_cheapest_39 : decode cX9_cheapest 39 = .ok (.ldc 75, 2) := by decide +kernel
theorem dX9_cheapest_41 : decode cX9_cheapest 41 = .ok (.ireturn, 1) := by decide +kernel
theorem dX9_cheapest_42 : decode cX9_cheapest 42 = .ok (.iload 4, 2) := by decide +kernel
theorem dX9_cheapest_44 : decode cX9_cheapest 44 = .ok (.invokestatic 217, 3) := by decide +kernel
theorem dX9_cheapest_47 : decode cX9_cheapest 47 = .ok (.ifCond .eq 22, 3) := by decide +kernel
theorem dX9_cheapest_50 : decode cX9_cheapest 50 = .ok (.iload 5, 2) := by decide +kernel
theorem dX9_cheapest_52 : decode cX9_cheapest 52 = .ok (.invokestatic 210, 3) := by decide +kernel
theorem dX9_cheapest_55 : decode cX9_cheapest 55 = .ok (.ifCond .eq 14, 3) := by decide +kernel
theorem dX9_cheapest_58 : decode cX9_cheapest 58 = .ok (.iload 6, 2) := by decide +kernel
theorem dX9_cheapest_60 : decode cX9_cheapest 60 = .ok (.ifCond .lt 9, 3) := by decide +kernel
theorem dX9_cheapest_63 : decode cX9_cheapest 63 = .ok (.iload 6, 2) := by decide +kernel
theorem dX9_cheapest_65 : decode cX9_cheapest 65 = .ok (.iconst 2, 1) := by decide +kernel
theorem dX9_cheapest_66 : decode cX9_cheapest 66 = .ok (.if_icmp .le 6, 3) := by decide +kernel
theorem dX9_cheapest_69 : decode cX9_cheapest 69 = .ok (.ldc 75, 2) := by decide +kernel
theorem dX9_cheapest_71 : decode cX9_cheapest 71 = .ok (.ireturn, 1) := by decide +kernel
theorem dX9_cheapest_72 : decode cX9_cheapest 72 = .ok (.aload_n 0, 1) := by decide +kernel
theorem dX9_cheapest_73 : decode cX9_cheapest 73 = .ok (.iload_n 1, 1) := by decide +kernel
theorem dX9_cheapest_74 : decode cX9_cheapest 74 = .ok (.iload_n 2, 1) := by decide +kernel
theorem dX9_cheapest_75 : decode cX9_cheapest 75 = .ok (.iload_n 3, 1) := by decide +kernel
theorem dX9_cheapest_76 : decode cX9_cheapest 76 = .ok (.iload 4, 2) := by decide +kernel
theorem dX9_cheapest_78 : decode cX9_cheapest 78 = .ok (.iload 5, 2) := by decide +kernel
theorem dX9_cheapest_80 : decode cX9_cheapest 80 = .ok (.invokevirtual 220, 3) := by decide +kernel
theorem dX9_cheapest_83 : decode cX9_cheapest 83 = .ok (.istore 7, 2) := by decide +kernel
theorem dX9_cheapest_85 : decode cX9_cheapest 85 = .ok (.iload 7, 2) := by decide +kernel
theorem dX9_cheapest_87 : decode cX9_cheapest 87 = .ok (.ifCond .ge 6, 3) := by decide +kernel
theorem dX9_cheapest_90 : decode cX9_cheapest 90 = .ok (.ldc 209, 2) := by decide +kernel
theorem dX9_cheapest_92 : decode cX9_cheapest 92 = .ok (.ireturn, 1) := by decide +kernel
theorem dX9_cheapest_93 : decode cX9_cheapest 93 = .ok (.iload 6, 2) := by decide +kernel
theorem dX9_cheapest_95 : decode cX9_cheapest 95 = .ok (.ifCond .ne 9, 3) := by decide +kernel
theorem dX9_cheapest_98 : decode cX9_cheapest 98 = .ok (.iload 7, 2) := by decide +kernel
theorem dX9_cheapest_100 : decode cX9_cheapest 100 = .ok (.invokestatic 224, 3) := by decide +kernel
theorem dX9_cheapest_103 : decode cX9_cheapest 103 = .ok (.ireturn, 1) := by decide +kernel
theorem dX9_cheapest_104 : decode cX9_cheapest 104 = .ok (.iload 6, 2) := by decide +kernel
theorem dX9_cheapest_106 : decode cX9_cheapest 106 = .ok (.iconst 2, 1) := by decide +kernel
theorem dX9_cheapest_107 : decode cX9_cheapest 107 = .ok (.if_icmp .ne 6, 3) := by decide +kernel
theorem dX9_cheapest_110 : decode cX9_cheapest 110 = .ok (.iload 7, 2) := by decide +kernel
theorem dX9_cheapest_112 : decode cX9_cheapest 112 = .ok (.ireturn, 1) := by decide +kernel
theorem dX9_cheapest_113 : decode cX9_cheapest 113 = .ok (.aload_n 0, 1) := by decide +kernel
theorem dX9_cheapest_114 : decode cX9_cheapest 114 = .ok (.getfield 56, 3) := by decide +kernel
theorem dX9_cheapest_117 : decode cX9_cheapest 117 = .ok (.aload_n 0, 1) := by decide +kernel
theorem dX9_cheapest_118 : decode cX9_cheapest 118 = .ok (.getfield 26, 3) := by decide +kernel
theorem dX9_cheapest_121 : decode cX9_cheapest 121 = .ok (.aload_n 0, 1) := by decide +kernel
theorem dX9_cheapest_122 : decode cX9_cheapest 122 = .ok (.getfield 30, 3) := by decide +kernel
theorem dX9_cheapest_125 : decode cX9_cheapest 125 = .ok (.iload 7, 2) := by decide +kernel
theorem dX9_cheapest_127 : decode cX9_cheapest 127 = .ok (.iload_n 3, 1) := by decide +kernel
theorem dX9_cheapest_128 : decode cX9_cheapest 128 = .ok (.invokevirtual 227, 3) := by decide +kernel
theorem dX9_cheapest_131 : decode cX9_cheapest 131 = .ok (.pop, 1) := by decide +kernel
theorem dX9_cheapest_132 : decode cX9_cheapest 132 = .ok (.aload_n 0, 1) := by decide +kernel
theorem dX9_cheapest_133 : decode cX9_cheapest 133 = .ok (.aload_n 0, 1) := by decide +kernel
theorem dX9_cheapest_134 : decode cX9_cheapest 134 = .ok (.getfield 30, 3) := by decide +kernel
theorem dX9_cheapest_137 : decode cX9_cheapest 137 = .ok (.iload_n 2, 1) := by decide +kernel
theorem dX9_cheapest_138 : decode cX9_cheapest 138 = .ok (.iload 5, 2) := by decide +kernel
theorem dX9_cheapest_140 : decode cX9_cheapest 140 = .ok (.invokevirtual 213, 3) := by decide +kernel
theorem dX9_cheapest_143 : decode cX9_cheapest 143 = .ok (.ireturn, 1) := by decide +kernel
set_option maxRecDepth 100000 in
theorem rX9_cheapest_0 {p : Program} {l : Launch} {e : Env} {s : State} {m : MethodId} {args : Array Value} {below : List Frame} {meth : Method} {c : Code} {D : va_G} {cA : Nat → ClassId} {ad : Nat → Nat} {Ret : zR} (C : z_Cx p { frames := 6, cells := 0, slots := 0, locals := 152 } s m args c cX9_cheapest yX9_cheapest.cls 8 D cA ad) (hr : meth.sig.returnType = (some .int)) (hlocks : meth.locks = false) : ∀ L st σ, tX9_cheapest_0 (z_X p l e { frames := 6, cells := 0, slots := 0, locals := 152 } s m args below meth c (MQ below (z_Qc D cA ad Ret) args s 0 0 (z_A ad)) 8 D cA ad true) Ret L st σ → z_X p l e { frames := 6, cells := 0, slots := 0, locals := 152 } s m args below meth c (MQ below (z_Qc D cA ad Ret) args s 0 0 (z_A ad)) 8 D cA ad true 0 L st σ := (s_aload_n C dX9_cheapest_0 rfl (s_getr C dX9_cheapest_1 (j := 2) cls_X9 (by decide) rfl (by decide) (by decide) (by decide +kernel) wd_359 (s_getr C dX9_cheapest_4 (j := 1) cls_X8 (by decide) rfl (by decide) (by decide) (by decide +kernel) wd_261 (s_iload_n C dX9_cheapest_7 rfl (s_cv1 C dX9_cheapest_8 (okX7_has l) cls_X7 wd_726 wd_727 wd_728 wd_80 wd_729 ⟨by decide, by decide, by decide +kernel⟩ ⟨by decide, by decide⟩ (s_ifeq C dX9_cheapest_11 (by decide) (s_ldc C dX9_cheapest_39 (v := -1000001) wd_404 ⟨by decide, by decide⟩ (s_iret C dX9_cheapest_41 hr hlocks)) (s_aload_n C dX9_cheapest_14 rfl (s_getr C dX9_cheapest_15 (j := 2) cls_X9 (by decide) rfl (by decide) (by decide) (by decide +kernel) wd_359 (s_getr C dX9_cheapest_18 (j := 1) cls_X8 (by decide) rfl (by decide) (by decide) (by decide +kernel) wd_261 (s_iload_n C dX9_cheapest_21 rfl (s_cv1 C dX9_cheapest_22 (okX7_has l) cls_X7 wd_726 wd_727 wd_728 wd_80 wd_729 ⟨by decide, by decide, by decide +kernel⟩ ⟨by decide, by decide⟩ (s_ifeq C dX9_cheapest_25 (by decide) (s_ldc C dX9_cheapest_39 (v := -1000001) wd_404 ⟨by decide, by decide⟩ (s_iret C dX9_cheapest_41 hr hlocks)) (s_iload_n C dX9_cheapest_28 rfl (s_iconst C dX9_cheapest_29 rfl ⟨by decide, by decide⟩ (s_iclt C dX9_cheapest_30 (by decide) (s_ldc C dX9_cheapest_39 (v := -1000001) wd_404 ⟨by decide, by decide⟩ (s_iret C dX9_cheapest_41 hr hlocks)) (s_iload_n C dX9_cheapest_33 rfl (s_bipush C dX9_cheapest_34 rfl ⟨by decide, by decide⟩ (s_icle C dX9_cheapest_36 (by decide) (s_iload C dX9_cheapest_42 (s_cs1 C dX9_cheapest_44 (okX9_isSlack l) wd_770 wd_771 wd_75 wd_772 ⟨by decide, by decide, by decide +kernel⟩ ⟨by decide, by decide⟩ (s_ifeq C dX9_cheapest_47 (by decide) (s_ldc C dX9_cheapest_69 (v := -1000001) wd_404 ⟨by decide, by decide⟩ (s_iret C dX9_cheapest_71 hr hlocks)) (s_iload C dX9_cheapest_50 (s_cs1 C dX9_cheapest_52 (okX9_isApart l) wd_748 wd_749 wd_75 wd_750 ⟨by decide, by decide, by decide +kernel⟩ ⟨by decide, by decide⟩ (s_ifeq C dX9_cheapest_55 (by decide) (s_ldc C dX9_cheapest_69 (v := -1000001) wd_404 ⟨by decide, by decide⟩ (s_iret C dX9_cheapest_71 hr hlocks)) (s_iload C dX9_cheapest_58 (s_iflt C dX9_cheapest_60 (by decide) (s_ldc C dX9_cheapest_69 (v := -1000001) wd_404 ⟨by decide, by decide⟩ (s_iret C dX9_cheapest_71 hr hlocks)) (s_iload C dX9_cheapest_63 (s_iconst C dX9_cheapest_65 rfl ⟨by decide, by decide⟩ (s_icle C dX9_cheapest_66 (by decide) (s_aload_n C dX9_cheapest_72 rfl (s_iload_n C dX9_cheapest_73 rfl (s_iload_n C dX9_cheapest_74 rfl (s_iload_n C dX9_cheapest_75 rfl (s_iload C dX9_cheapest_76 (s_iload C dX9_cheapest_78 (s_cv5 C dX9_cheapest_80 (okX9_cheapestSteps l) cls_X9 wd_773 wd_775 wd_19 wd_75 wd_776 ⟨by decide, by decide, by decide +kernel⟩ ⟨by decide, by decide⟩ (s_istore C dX9_cheapest_83 (by decide) rfl (s_iload C dX9_cheapest_85 (s_ifge C dX9_cheapest_87 (by decide) (s_iload C dX9_cheapest_93 (s_ifne C dX9_cheapest_95 (by decide) (s_iload C dX9_cheapest_104 (s_iconst C dX9_cheapest_106 rfl ⟨by decide, by decide⟩ (s_icne C dX9_cheapest_107 (by decide) (s_aload_n C dX9_cheapest_113 rfl (s_getr C dX9_cheapest_114 (j := 8) cls_X9 (by decide) rfl (by decide) (by decide) (by decide +kernel) wd_365 (s_aload_n C dX9_cheapest_117 rfl (s_getr C dX9_cheapest_118 (j := 2) cls_X9 (by decide) rfl (by decide) (by decide) (by decide +kernel) wd_359 (s_aload_n C dX9_cheapest_121 rfl (s_getr C dX9_cheapest_122 (j := 3) cls_X9 (by decide) rfl (by decide) (by decide) (by decide +kernel) wd_360 (s_iload C dX9_cheapest_125 (s_iload_n C dX9_cheapest_127 rfl (s_cv4 C dX9_cheapest_128 (okX1_tryOn l) cls_X1 wd_792 wd_793 wd_794 wd_83 wd_795 ⟨by decide, by decide, by decide +kernel⟩ ⟨by decide, by decide⟩ (s_pop C dX9_cheapest_131 (s_aload_n C dX9_cheapest_132 rfl (s_aload_n C dX9_cheapest_133 rfl (s_getr C dX9_cheapest_134 (j := 3) cls_X9 (by decide) rfl (by decide) (by decide) (by decide +kernel) wd_360 (s_iload_n C dX9_cheapest_137 rfl (s_iload C dX9_cheapest_138 (s_cv3 C dX9_cheapest_140 (okX9_slipsIn l) cls_X9 wd_751 wd_753 wd_18 wd_75 wd_754 ⟨by decide, by decide, by decide +kernel⟩ ⟨by decide, by decide⟩ (s_iret C dX9_cheapest_143 hr hlocks))))))))))))))))) (s_iload C dX9_cheapest_110 (s_iret C dX9_cheapest_112 hr hlocks))))) (s_iload C dX9_cheapest_98 (s_cs1 C dX9_cheapest_100 (okX1_sumOf l) wd_789 wd_790 wd_83 wd_791 ⟨by decide, by decide, by decide +kernel⟩ ⟨by decide, by decide⟩ (s_iret C dX9_cheapest_103 hr hlocks))))) (s_ldc C dX9_cheapest_90 (v := -1000000) wd_743 ⟨by decide, by decide⟩ (s_iret C dX9_cheapest_92 hr hlocks)))))))))))) (s_ldc C dX9_cheapest_69 (v := -1000001) wd_404 ⟨by decide, by decide⟩ (s_iret C dX9_cheapest_71 hr hlocks))))))))))))) (s_ldc C dX9_cheapest_39 (v := -1000001) wd_404 ⟨by decide, by decide⟩ (s_iret C dX9_cheapest_41 hr hlocks))))))))))))))))))))
theorem okX9_cheapest (l : Launch) : z_OK l yX9_cheapest cX9_cheapest 8 (some .int) 6 152 SX9_cheapest := by
  refine z_ok_of true (by decide +kernel) ?_ ?_
  · intro as σ Ret h
    obtain ⟨k0, x1, x2, x3, x4, x5, x6, rfl⟩ := pX9_cheapest h
    exact ⟨Nat.le_of_ble_eq_true rfl, by simp⟩
  · intro p e s m args below meth c D cA ad Ret C hr hlocks as σ has hσ h
    obtain ⟨k0, x1, x2, x3, x4, x5, x6, rfl⟩ := pX9_cheapest h
    exact vX9_cheapest (rX9_cheapest_0 C hr hlocks) k0 x1 x2 x3 x4 x5 x6 σ (has _ (List.mem_of_getElem? (i := 0) rfl)) (has _ (List.mem_of_getElem? (i := 1) rfl)) (has _ (List.mem_of_getElem? (i := 2) rfl)) (has _ (List.mem_of_getElem? (i := 3) rfl)) (has _ (List.mem_of_getElem? (i := 4) rfl)) (has _ (List.mem_of_getElem? (i := 5) rfl)) (has _ (List.mem_of_getElem? (i := 6) rfl)) hσ h
