/-! years and taking back, asked of the program -/
theorem q_R2_wood {σ σ' τ' : zM} (R : q_R2 σ σ) (hw : q_rwood σ' τ') (e : ∀ c j, q_lastP c j → ¬ (8 ≤ c ∧ c ≤ 24) → σ' c j = σ c j) (f : ∀ c j, 89 ≤ c → c ≠ 93 → c ≠ 95 → ¬ (c = 89 ∧ j = 7) → τ' c j = σ c j) : q_R2 σ' τ' := by
  obtain ⟨h1, ⟨h2, h3⟩, h4, h5, h6, h7⟩ := R
  refine ⟨q_rrow_cg h1 (fun c j a1 a2 => e c j (by unfold q_lastP; omega) (by omega)) (fun c j a1 a2 => f c j (by omega) (by omega) (by omega) (by omega)), ⟨?_, ?_⟩, q_rtape_cg h4 (e _ _ (by unfold q_lastP; omega) (by omega)) (fun j => e _ _ (by unfold q_lastP; omega) (by omega)) (f _ _ (by omega) (by omega) (by omega) (by omega)) (fun j => f _ _ (by omega) (by omega) (by omega) (by omega)), q_rtr_cg h5 (e _ _ (by unfold q_lastP; omega) (by omega)) (fun j => e _ _ (by unfold q_lastP; omega) (by omega)) (f _ _ (by omega) (by omega) (by omega) (by omega)) (fun j => f _ _ (by omega) (by omega) (by omega) (by omega)), hw, q_rimg_cg h7 (fun c j a1 a2 => e c j (by unfold q_lastP; omega) (by omega)) (fun c j a1 a2 => f c j (by omega) (by omega) (by omega) (by omega))⟩
  · rw [e _ _ (by unfold q_lastP; omega) (by omega), f _ _ (by omega) (by omega) (by omega) (by omega)]; exact h2
  · rw [e _ _ (by unfold q_lastP; omega) (by omega), f _ _ (by omega) (by omega) (by omega) (by omega)]; exact h3
/-- n years over the numbers of a wood -/
def q_gwD (D : Nat → Int) (n : Int) : Nat → Int := fun j => if (6 ≤ j ∧ (j : Int) < 6 + 6 * D 0 ∧ j % 6 = 0) ∧ D (j + 4) = 0 ∧ D (j + 5) = 0 then max 10 (min 999 (D j + n * D (j + 3))) else D j
def q_set (τ : zM) (c : Nat) (D : Nat → Int) : zM := fun a j => if a = c then D j else τ a j
theorem q_set_eq {τ : zM} {c : Nat} {D : Nat → Int} : q_set τ c D c = D := funext fun _ => if_pos rfl
theorem q_set_ne {τ : zM} {c a : Nat} {D : Nat → Int} (h : a ≠ c) : q_set τ c D a = τ a := funext fun _ => if_neg h
def q_gGo (n : Int) (τ : zM) : Int := if τ 89 7 = 0 then -1000002 else if ¬ (1 ≤ n ∧ n ≤ 60) then -1000001 else z_wr (τ 93 3 + n)
def q_fGo (n : Int) (τ : zM) : zM := if τ 89 7 = 0 then τ else if ¬ (1 ≤ n ∧ n ≤ 60) then τ else q_set τ 93 (q_d1 (q_gwD (τ 93) n) 3 (z_wr (τ 93 3 + n)))
theorem q_gwD_wd {σ σ' : zM} {b : Nat} {D : Nat → Int} {y v : Int} (h : q_wd σ b D) (e : ∀ c j, ¬ (c = b + 2 ∨ (c = b ∧ j = 5)) → σ' c j = σ c j) (e2 : ∀ t : Nat, (t : Int) < D 0 → σ' (b + 2) t = if σ (b + 6) t = 0 ∧ σ (b + 7) t = 0 then max 10 (min 999 (σ (b + 2) t + y * σ (b + 5) t)) else σ (b + 2) t) (e3 : σ' b 5 = v) : q_wd σ' b (q_d1 (q_gwD D y) 3 v) := by
  obtain ⟨⟨⟨a0, b0⟩, ⟨a1, b1⟩, ⟨a2, b2⟩, a3, a4, a5, b5⟩, hT, hW, hJ⟩ := h
  have D0 : q_gwD D y 0 = D 0 := by unfold q_gwD; rw [if_neg (by omega)]
  have D1 : q_gwD D y 1 = D 1 := by unfold q_gwD; rw [if_neg (by omega)]
  have D2 : q_gwD D y 2 = D 2 := by unfold q_gwD; rw [if_neg (by omega)]
  have D4 : q_gwD D y 4 = D 4 := by unfold q_gwD; rw [if_neg (by omega)]
  have D5 : q_gwD D y 5 = D 5 := by unfold q_gwD; rw [if_neg (by omega)]
  have ne : ∀ j, j ≠ 3 → q_d1 (q_gwD D y) 3 v j = q_gwD D y j := fun j hj => if_neg hj
  have e0 : q_d1 (q_gwD D y) 3 v 3 = v := if_pos rfl
  unfold q_wd
  rw [ne 0 (by omega), ne 1 (by omega), ne 2 (by omega), ne 4 (by omega), ne 5 (by omega), e0, D0, D1, D2, D4, D5]
  refine ⟨⟨⟨?_, b0⟩, ⟨?_, b1⟩, ⟨?_, b2⟩, e3, ?_, ?_, b5⟩, fun t f h1 h2 => ?_, fun t f h1 h2 => ?_, fun j h1 => ?_⟩
  · rw [e _ _ (by omega)]; exact a0
  · rw [e _ _ (by omega)]; exact a1
  · rw [e _ _ (by omega)]; exact a2
  · rw [e _ _ (by omega)]; exact a4
  · rw [e _ _ (by omega)]; exact a5
  · rw [ne _ (by omega)]
    by_cases hf : f = 0
    · subst hf
      have q0 := hT t 0 h1 (by omega)
      have q3 := hT t 3 h1 (by omega)
      have q4 := hT t 4 h1 (by omega)
      have q5 := hT t 5 h1 (by omega)
      simp only [Nat.add_zero] at q0
      simp only [Nat.add_zero]
      rw [e2 t h1, q0, show b + 5 = b + 2 + 3 by omega, show b + 6 = b + 2 + 4 by omega, show b + 7 = b + 2 + 5 by omega, q3, q4, q5]
      unfold q_gwD
      by_cases c : D (6 + 6 * t + 4) = 0 ∧ D (6 + 6 * t + 5) = 0
      · rw [if_pos c, if_pos ⟨by omega, c⟩]
      · rw [if_neg c, if_neg (fun q => c q.2)]
    · rw [e _ _ (by omega), hT t f h1 h2]
      unfold q_gwD
      rw [if_neg (by omega)]
  · rw [ne _ (by omega), e _ _ (by omega), hW t f h1 h2]
    unfold q_gwD
    rw [if_neg (by omega)]
  · rw [ne _ (by omega), e _ _ (by omega), hJ j h1]
    unfold q_gwD
    rw [if_neg (by omega)]
theorem q_dnr_cg {σ σ' : zM} {b : Nat} {D D' O : Nat → Int} (h : q_dnr σ b D O) (e : ∀ c j, b + 13 ≤ c → c ≤ b + 15 → σ' c j = σ c j) (e0 : D' 0 = D 0) (e5 : D' 5 = D 5) : q_dnr σ' b D' O := by
  intro i hi
  rw [e5] at hi
  rw [e _ _ (by omega) (by omega), e _ _ (by omega) (by omega), e _ _ (by omega) (by omega), e0]
  exact h i hi
def SX9_go : zS := fun as σ Ret => match as with
  | [.inr (.inr (9, 0, _)), .inl n] => q_S9 (q_gGo n) (q_fGo n) σ Ret
  | _ => False
def tX9_go_0 (X : Nat → zB) (Ret : zR) (L : zL) (st : List zV) (σ : zM) : Prop := (z_aload 0 (z_getr 9 8 8 0 (z_geti 8 7 (z_ifne (z_iload 1 (z_push 1 (z_iclt (z_push (-1000001) (z_iret Ret)) (z_iload 1 (z_push 60 (z_icle (z_aload 0 (z_getr 9 8 8 0 (z_iload 1 (z_cv1 8 SX8_grow (z_aload 0 (z_getr 9 8 8 0 (z_geti 8 5 (z_iret Ret)))))))) (z_push (-1000001) (z_iret Ret)))))))) (z_push (-1000002) (z_iret Ret)))))) L st σ
theorem pX9_go {as : List zV} {σ : zM} {Ret : zR} (h : SX9_go as σ Ret) : ∃ (k0 : Nat) (x1 : Int), as = [.inr (.inr (9, 0, k0)), .inl x1] := by
  unfold SX9_go at h
  split at h
  · exact ⟨_, _, rfl⟩
  · exact h.elim
set_option maxRecDepth 10000 in
set_option maxHeartbeats 4000000 in
theorem vX9_go {X : Nat → zB} {Ret : zR} (h0 : ∀ L st σ, tX9_go_0 X Ret L st σ → X 0 L st σ) (k0 : Nat) (x1 : Int) (σ : zM) (hk0 : z_kd k0 = (9, 0)) (hx1 : -2147483648 ≤ x1 ∧ x1 ≤ 2147483647) (hσ : z_okm σ) (h : SX9_go [.inr (.inr (9, 0, k0)), .inl x1] σ Ret) : X 0 [some (.inr (.inr (9, 0, k0))), some (.inl x1)] [] σ := by
  obtain ⟨⟨R, m⟩, h⟩ := h
  obtain rfl := z_kd9 hk0
  obtain ⟨W1, W2, W3⟩ := R.2.2.2.2.1
  obtain ⟨M1, M2, M3, M4⟩ := m.2.1
  by_cases c1 : σ 89 7 = 0
  · have fin := h σ (fun _ _ => rfl) (by unfold q_fGo; rw [if_pos c1]; exact R)
    simp only [q_gGo, if_pos c1] at fin
    rw [c1] at W3
    refine h0 _ _ _ ?_
    simp only [z_push, z_lpush, z_iload, z_lload, z_aload, z_istore, z_istoreP, z_lstore, z_astore, z_iinc, z_iincP, z_iadd, z_isub, z_imul, z_iaddW, z_isubW, z_imulW, z_idiv, z_irem, z_iand, z_ior, z_ixor, z_ishl, z_ishr, z_iushr, z_ineg, z_i2l, z_i2b, z_i2s, z_i2c, z_l2i, z_ladd, z_lsub, z_land, z_lor, z_lshl, z_lshr, z_lcmp, z_dup, z_pop, z_dup2, z_goto, z_tsw, z_cases, z_geti, z_getr, z_puti, z_putz, z_ald, z_iast, z_bast, z_zast, z_alen, z_acopy, z_mmax, z_mmin, z_mabs, z_mabsL, z_iret, z_zret, z_nret, z_lret, z_aret, z_vret, z_cat, z_xald, z_xlen, z_ldcs, z_strv, z_strc, z_gcs, z_gfm, z_sln, z_sald, z_ifeq, z_ifne, z_iflt, z_ifge, z_ifgt, z_ifle, z_iceq, z_icne, z_iclt, z_icge, z_icgt, z_icle, z_cs0, z_cs1, z_cs2, z_cs3, z_cs4, z_cs5, z_cs6, z_cs7, z_cv0, z_cv1, z_cv2, z_cv3, z_cv4, z_cv5, z_cv6, z_cv7, z_g0, z_s0, z_g1, z_s1, z_g2, z_s2, z_g3, z_s3, z_g4, z_s4, z_g5, z_s5, z_g6, z_s6, z_g7, z_s7, z_g8, z_s8, z_g9, z_s9, z_g10, z_s10, z_g11, z_s11, z_g12, z_s12, z_g13, z_s13, z_b0, z_b1, z_b0n, z_b1n, z_up_far1, z_up_far2, z_up_far3, z_up_far4, z_up_far5, z_up_far6, Classical.not_not, not_true_eq_false, z_in, z_inL, Int.cast_ofNat_Int, Nat.reduceLeDiff, List.length_cons, List.length_nil, Nat.reduceAdd, Nat.zero_add, Nat.le_refl, true_and, and_true, List.length, Nat.reduceLT, true_or, or_true, false_or, or_false, false_and, and_false, not_true_eq_false, not_false_eq_true, forall_const, false_implies, true_implies, Int.reduceEq, Int.reduceLT, Int.reduceLE, Int.reduceAdd, Int.reduceSub, Int.reduceMul, Int.reduceNeg, Int.reduceToNat, Int.toNat_natCast, ↓reduceIte, reduceIte, Nat.reduceEqDiff, Nat.reduceSub, Nat.reduceMul, ne_eq, Int.zero_add, Int.add_zero, Int.sub_zero, Nat.add_zero, Int.ofNat_eq_natCast, tX9_go_0, W3]
    repeat' (first | (intro _) | (with_reducible assumption) | (refine And.intro ?_ ?_))
    all_goals first | omega | assumption | (refine z_fin fin ?_ rfl; first | rfl | omega | (split <;> omega) | (split <;> split <;> omega)) | skip
  by_cases c2 : ¬ (1 ≤ x1 ∧ x1 ≤ 60)
  · have fin := h σ (fun _ _ => rfl) (by unfold q_fGo; rw [if_neg c1, if_pos c2]; exact R)
    simp only [q_gGo, if_neg c1, if_pos c2] at fin
    refine h0 _ _ _ ?_
    simp only [z_push, z_lpush, z_iload, z_lload, z_aload, z_istore, z_istoreP, z_lstore, z_astore, z_iinc, z_iincP, z_iadd, z_isub, z_imul, z_iaddW, z_isubW, z_imulW, z_idiv, z_irem, z_iand, z_ior, z_ixor, z_ishl, z_ishr, z_iushr, z_ineg, z_i2l, z_i2b, z_i2s, z_i2c, z_l2i, z_ladd, z_lsub, z_land, z_lor, z_lshl, z_lshr, z_lcmp, z_dup, z_pop, z_dup2, z_goto, z_tsw, z_cases, z_geti, z_getr, z_puti, z_putz, z_ald, z_iast, z_bast, z_zast, z_alen, z_acopy, z_mmax, z_mmin, z_mabs, z_mabsL, z_iret, z_zret, z_nret, z_lret, z_aret, z_vret, z_cat, z_xald, z_xlen, z_ldcs, z_strv, z_strc, z_gcs, z_gfm, z_sln, z_sald, z_ifeq, z_ifne, z_iflt, z_ifge, z_ifgt, z_ifle, z_iceq, z_icne, z_iclt, z_icge, z_icgt, z_icle, z_cs0, z_cs1, z_cs2, z_cs3, z_cs4, z_cs5, z_cs6, z_cs7, z_cv0, z_cv1, z_cv2, z_cv3, z_cv4, z_cv5, z_cv6, z_cv7, z_g0, z_s0, z_g1, z_s1, z_g2, z_s2, z_g3, z_s3, z_g4, z_s4, z_g5, z_s5, z_g6, z_s6, z_g7, z_s7, z_g8, z_s8, z_g9, z_s9, z_g10, z_s10, z_g11, z_s11, z_g12, z_s12, z_g13, z_s13, z_b0, z_b1, z_b0n, z_b1n, z_up_far1, z_up_far2, z_up_far3, z_up_far4, z_up_far5, z_up_far6, Classical.not_not, not_true_eq_false, z_in, z_inL, Int.cast_ofNat_Int, Nat.reduceLeDiff, List.length_cons, List.length_nil, Nat.reduceAdd, Nat.zero_add, Nat.le_refl, true_and, and_true, List.length, Nat.reduceLT, true_or, or_true, false_or, or_false, false_and, and_false, not_true_eq_false, not_false_eq_true, forall_const, false_implies, true_implies, Int.reduceEq, Int.reduceLT, Int.reduceLE, Int.reduceAdd, Int.reduceSub, Int.reduceMul, Int.reduceNeg, Int.reduceToNat, Int.toNat_natCast, ↓reduceIte, reduceIte, Nat.reduceEqDiff, Nat.reduceSub, Nat.reduceMul, ne_eq, Int.zero_add, Int.add_zero, Int.sub_zero, Nat.add_zero, Int.ofNat_eq_natCast, tX9_go_0, W3, c1]
    repeat' (first | (intro _) | (with_reducible assumption) | (refine And.intro ?_ ?_))
    all_goals first | omega | assumption | (refine z_fin fin ?_ rfl; first | rfl | omega | (split <;> omega) | (split <;> split <;> omega)) | skip
  let σ1 : zM := z_up (q_grow σ 9 x1 (σ 9 6).toNat) 8 5 (z_wr (σ 8 5 + x1))
  have e : ∀ c j, ¬ (c = 10 ∨ (c = 8 ∧ j = 5)) → σ1 c j = σ c j := by
    intro c j hc
    show z_up _ _ _ _ c j = _
    rw [z_up_ne (by omega)]
    unfold q_grow
    rw [if_neg (by omega)]
  have e9 : ∀ c, 89 ≤ c → σ1 c = σ c := fun c hc => funext fun j => e c j (by omega)
  have e2 : ∀ t : Nat, (t : Int) < σ 93 0 → σ1 10 t = if σ 14 t = 0 ∧ σ 15 t = 0 then max 10 (min 999 (σ 10 t + x1 * σ 13 t)) else σ 10 t := by
    intro t ht
    have hc := W1.1.1.1
    show z_up _ _ _ _ 10 t = _
    rw [z_up_ne (by omega)]
    unfold q_grow
    by_cases c : σ 14 t = 0 ∧ σ 15 t = 0
    · rw [if_pos c, if_pos ⟨rfl, by have : σ 9 6 = σ 93 0 := hc; omega, c⟩]
    · rw [if_neg c, if_neg (fun q => c q.2.2)]
  have e3 : σ1 8 5 = z_wr (σ 93 3 + x1) := by
    show z_up _ _ _ _ 8 5 = _
    rw [z_up_eq, show σ 8 5 = σ 93 3 from W1.1.2.2.2.1]
  have f9 : q_fGo x1 σ1 = q_set σ1 93 (q_d1 (q_gwD (σ 93) x1) 3 (z_wr (σ 93 3 + x1))) := by
    unfold q_fGo
    rw [e9 89 (by omega), e9 93 (by omega), if_neg c1, if_neg c2]
  have r2 : q_R2 σ1 (q_fGo x1 σ1) := by
    rw [f9]
    refine q_R2_wood R ?_ (fun c j h1 h2 => e c j (by omega)) (fun c j h1 h2 h3 h4 => ?_)
    · unfold q_rwood
      rw [q_set_eq, q_set_ne (by omega), q_set_ne (by omega), e9 95 (by omega), e9 89 (by omega)]
      refine ⟨q_gwD_wd W1 e e2 e3, q_dnr_cg W2 (fun c j h1 h2 => e c j (by omega)) ?_ ?_, ?_⟩
      · unfold q_d1 q_gwD
        rw [if_neg (by omega), if_neg (by omega)]
      · unfold q_d1 q_gwD
        rw [if_neg (by omega), if_neg (by omega)]
      · rw [e _ _ (by omega)]
        exact W3
    · rw [q_set_ne h2, e _ _ (by omega)]
  have fin := h σ1 e9 r2
  simp only [q_gGo, e9 89 (by omega), e9 93 (by omega), if_neg c1, if_neg c2] at fin
  have W5 : σ 9 6 = σ 93 0 := W1.1.1.1
  have mt := M1.2.1
  have pre : (0 ≤ σ 9 6 ∧ σ 9 6 ≤ 12) ∧ (0 ≤ x1 ∧ x1 ≤ 60) ∧ ∀ j : Nat, (j : Int) < σ 9 6 → (0 ≤ σ 10 j ∧ σ 10 j ≤ 999) ∧ 0 ≤ σ 13 j ∧ σ 13 j ≤ 5 := by
    refine ⟨by have := M1.1.1; omega, by omega, fun j hj => ?_⟩
    have q := mt j (by omega)
    have q0 : σ 10 j = σ 93 (6 + 6 * j + 0) := W1.2.1 j 0 (by omega) (by omega)
    have q3 : σ 13 j = σ 93 (6 + 6 * j + 3) := W1.2.1 j 3 (by omega) (by omega)
    omega
  refine h0 _ _ _ ?_
  simp only [z_push, z_lpush, z_iload, z_lload, z_aload, z_istore, z_istoreP, z_lstore, z_astore, z_iinc, z_iincP, z_iadd, z_isub, z_imul, z_iaddW, z_isubW, z_imulW, z_idiv, z_irem, z_iand, z_ior, z_ixor, z_ishl, z_ishr, z_iushr, z_ineg, z_i2l, z_i2b, z_i2s, z_i2c, z_l2i, z_ladd, z_lsub, z_land, z_lor, z_lshl, z_lshr, z_lcmp, z_dup, z_pop, z_dup2, z_goto, z_tsw, z_cases, z_geti, z_getr, z_puti, z_putz, z_ald, z_iast, z_bast, z_zast, z_alen, z_acopy, z_mmax, z_mmin, z_mabs, z_mabsL, z_iret, z_zret, z_nret, z_lret, z_aret, z_vret, z_cat, z_xald, z_xlen, z_ldcs, z_strv, z_strc, z_gcs, z_gfm, z_sln, z_sald, z_ifeq, z_ifne, z_iflt, z_ifge, z_ifgt, z_ifle, z_iceq, z_icne, z_iclt, z_icge, z_icgt, z_icle, z_cs0, z_cs1, z_cs2, z_cs3, z_cs4, z_cs5, z_cs6, z_cs7, z_cv0, z_cv1, z_cv2, z_cv3, z_cv4, z_cv5, z_cv6, z_cv7, z_g0, z_s0, z_g1, z_s1, z_g2, z_s2, z_g3, z_s3, z_g4, z_s4, z_g5, z_s5, z_g6, z_s6, z_g7, z_s7, z_g8, z_s8, z_g9, z_s9, z_g10, z_s10, z_g11, z_s11, z_g12, z_s12, z_g13, z_s13, z_b0, z_b1, z_b0n, z_b1n, z_up_far1, z_up_far2, z_up_far3, z_up_far4, z_up_far5, z_up_far6, Classical.not_not, not_true_eq_false, z_in, z_inL, Int.cast_ofNat_Int, Nat.reduceLeDiff, List.length_cons, List.length_nil, Nat.reduceAdd, Nat.zero_add, Nat.le_refl, true_and, and_true, List.length, Nat.reduceLT, true_or, or_true, false_or, or_false, false_and, and_false, not_true_eq_false, not_false_eq_true, forall_const, false_implies, true_implies, Int.reduceEq, Int.reduceLT, Int.reduceLE, Int.reduceAdd, Int.reduceSub, Int.reduceMul, Int.reduceNeg, Int.reduceToNat, Int.toNat_natCast, ↓reduceIte, reduceIte, Nat.reduceEqDiff, Nat.reduceSub, Nat.reduceMul, ne_eq, Int.zero_add, Int.add_zero, Int.sub_zero, Nat.add_zero, Int.ofNat_eq_natCast, tX9_go_0, SX8_grow, W3, c1]
  rw [← e3] at fin
  exact fun _ => ⟨fun e => absurd e (by omega), fun _ => ⟨fun _ => ⟨pre, fun _ => fin⟩, fun e => absurd e (by omega)⟩⟩
theorem dX9_go_0 : decode cX9_go 0 = .ok (.aload_n 0, 1) := by decide +kernel
theorem dX9_go_1 : decode cX9_go 1 = .ok (.getfield 26, 3) := by decide +kernel
theorem dX9_go_4 : decode cX9_go 4 = .ok (.getfield 141, 3) := by decide +kernel
theorem dX9_go_7 : decode cX9_go 7 = .ok (.ifCond .ne 6, 3) := by decide +kernel
theorem dX9_go_10 : decode cX9_go 10 = .ok (.ldc 144, 2) := by decide +kernel
theorem dX9_go_12 : decode cX9_go 12 = .ok (.ireturn, 1) := by decide +kernel
theorem dX9_go_13 : decode cX9_go 13 = .ok (.iload_n 1, 1) := by decide +kernel
theorem dX9_go_14 : decode cX9_go 14 = .ok (.iconst 1, 1) := by decide +kernel
theorem dX9_go_15 : decode cX9_go 15 = .ok (.if_icmp .lt 9, 3) := by decide +kernel
theorem dX9_go_18 : decode cX9_go 18 = .ok (.iload_n 1, 1) := by decide +kernel
theorem dX9_go_19 : decode cX9_go 19 = .ok (.bipush 60, 2) := by decide +kernel
theorem dX9_go_21 : decode cX9_go 21 = .ok (.if_icmp .le 6, 3) := by decide +kernel
theorem dX9_go_24 : decode cX9_go 24 = .ok (.ldc 75, 2) := by decide +kernel
theorem dX9_go_26 : decode cX9_go 26 = .ok (.ireturn, 1) := by decide +kernel
theorem dX9_go_27 : decode cX9_go 27 = .ok (.aload_n 0, 1) := by decide +kernel
theorem dX9_go_28 : decode cX9_go 28 = .ok (.getfield 26, 3) := by decide +kernel
theorem dX9_go_31 : decode cX9_go 31 = .ok (.iload_n 1, 1) := by decide +kernel
theorem dX9_go_32 : decode cX9_go 32 = .ok (.invokevirtual 163, 3) := by decide +kernel
theorem dX9_go_35 : decode cX9_go 35 = .ok (.aload_n 0, 1) := by decide +kernel
theorem dX9_go_36 : decode cX9_go 36 = .ok (.getfield 26, 3) := by decide +kernel
theorem dX9_go_39 : decode cX9_go 39 = .ok (.getfield 167, 3) := by decide +kernel
theorem dX9_go_42 : decode cX9_go 42 = .ok (.ireturn, 1) := by decide +kernel
set_option maxRecDepth 100000 in
theorem rX9_go_0 {zx : zX} {zn : Nat} {p : Program} {l : Launch} {e : Env} {s : State} {m : MethodId} {args : Array Value} {below : List Frame} {meth : Method} {c : Code} {D : va_G} {cA : Nat → ClassId} {ad : Nat → Nat} {Ret : zR} (C : z_Cx zx zn (z_A zn ad) 0 0 p { frames := 5, cells := 0, slots := 0, locals := 108 } s m args c cX9_go yX9_go.cls 2 D cA ad) (hr : meth.sig.returnType = (some .int)) (hlocks : meth.locks = false) : ∀ L st σ, tX9_go_0 (z_X zx zn (z_A zn ad) 0 0 p l e { frames := 5, cells := 0, slots := 0, locals := 108 } s m args below meth c (MQ below (z_Qc zn D cA ad Ret) args s 0 0 (z_A zn ad)) 2 D cA ad true) Ret L st σ → z_X zx zn (z_A zn ad) 0 0 p l e { frames := 5, cells := 0, slots := 0, locals := 108 } s m args below meth c (MQ below (z_Qc zn D cA ad Ret) args s 0 0 (z_A zn ad)) 2 D cA ad true 0 L st σ := (s_aload_n C dX9_go_0 rfl (s_getr C dX9_go_1 (j := 2) cls_X9 (by decide) rfl (by decide) (by decide) (by decide +kernel) wd_285 (s_geti C dX9_go_4 cls_X8 (by decide) rfl wd_210 (s_ifne C dX9_go_7 (by decide) (s_iload_n C dX9_go_13 rfl (s_iconst C dX9_go_14 rfl ⟨by decide, by decide⟩ (s_iclt C dX9_go_15 (by decide) (s_ldc C dX9_go_24 (v := -1000001) wd_488 ⟨by decide, by decide⟩ (s_iret C dX9_go_26 hr hlocks)) (s_iload_n C dX9_go_18 rfl (s_bipush C dX9_go_19 rfl ⟨by decide, by decide⟩ (s_icle C dX9_go_21 (by decide) (s_aload_n C dX9_go_27 rfl (s_getr C dX9_go_28 (j := 2) cls_X9 (by decide) rfl (by decide) (by decide) (by decide +kernel) wd_285 (s_iload_n C dX9_go_31 rfl (s_cv1 C dX9_go_32 (okX8_grow l) cls_X8 wd_489 wd_490 wd_491 wd_20 wd_492 ⟨by decide, by decide, by decide +kernel⟩ ⟨by decide, by decide⟩ (s_aload_n C dX9_go_35 rfl (s_getr C dX9_go_36 (j := 2) cls_X9 (by decide) rfl (by decide) (by decide) (by decide +kernel) wd_285 (s_geti C dX9_go_39 cls_X8 (by decide) rfl wd_206 (s_iret C dX9_go_42 hr hlocks)))))))) (s_ldc C dX9_go_24 (v := -1000001) wd_488 ⟨by decide, by decide⟩ (s_iret C dX9_go_26 hr hlocks)))))))) (s_ldc C dX9_go_10 (v := -1000002) wd_326 ⟨by decide, by decide⟩ (s_iret C dX9_go_12 hr hlocks))))))
theorem okX9_go {zx : zX} {zn : Nat} (l : Launch) : z_OK zx zn l yX9_go cX9_go 2 (some .int) 5 108 SX9_go := by
  refine z_ok_of true (by decide +kernel) ?_ ?_
  · intro as σ Ret h
    obtain ⟨k0, x1, rfl⟩ := pX9_go h
    exact ⟨Nat.le_of_ble_eq_true rfl, by simp⟩
  · intro p e s m args below meth c D cA ad Ret C hr hlocks as σ has hσ h
    obtain ⟨k0, x1, rfl⟩ := pX9_go h
    exact vX9_go (rX9_go_0 C hr hlocks) k0 x1 σ (has _ (List.mem_of_getElem? (i := 0) rfl)).1 (has _ (List.mem_of_getElem? (i := 1) rfl)) hσ h
