/-! what is asked of a tree, and the trace that it leaves, in the program -/
def q_lmS : List Int → zM → zM
  | [], τ => τ
  | b :: l, τ => q_lmS l (q_lm τ b)
def q_lvS : List Int → zM → zM
  | [], σ => σ
  | b :: l, σ => q_lvS l (q_lv σ 86 b)
theorem q_lm_ne {τ : zM} {b : Int} {c j : Nat} (h : c ≠ 107 ∧ ¬ (c = 89 ∧ j = 34)) : q_lm τ b c j = τ c j := by
  unfold q_lm
  split
  · rw [z_up_ne (by omega), z_up_ne (by omega)]
  · rfl
theorem q_lmS_ne {c j : Nat} (h : c ≠ 107 ∧ ¬ (c = 89 ∧ j = 34)) : ∀ (l : List Int) (τ : zM), q_lmS l τ c j = τ c j
  | [], _ => rfl
  | b :: l, τ => by rw [q_lmS, q_lmS_ne h l, q_lm_ne h]
theorem q_lv_ne2 {σ : zM} {b : Int} {c j : Nat} (h : c ≠ 87 ∧ ¬ (c = 86 ∧ j = 1)) : q_lv σ 86 b c j = σ c j := by
  unfold q_lv
  split
  · rw [z_up_ne (by omega), z_up_ne (by omega)]
  · rfl
theorem q_lvS_ne {c j : Nat} (h : c ≠ 87 ∧ ¬ (c = 86 ∧ j = 1)) : ∀ (l : List Int) (σ : zM), q_lvS l σ c j = σ c j
  | [], _ => rfl
  | b :: l, σ => by rw [q_lvS, q_lvS_ne h l, q_lv_ne2 h]
theorem q_tr1 {σ τ : zM} {b : Int} (h : q_rtr σ τ) (h0 : 0 ≤ τ 89 34 ∧ τ 89 34 ≤ 16) : q_rtr (q_lv σ 86 b) (q_lm τ b) ∧ 0 ≤ q_lm τ b 89 34 ∧ q_lm τ b 89 34 ≤ 16 := by
  obtain ⟨h1, h2⟩ := h
  unfold q_lv q_lm q_rtr
  simp only [Nat.reduceAdd]
  rw [h1]
  by_cases c : τ 89 34 < 16
  · rw [if_pos c, if_pos c]
    refine ⟨⟨by rw [z_up_eq, z_up_eq], fun i hi => ?_⟩, by rw [z_up_eq]; omega⟩
    rw [z_up_eq] at hi
    by_cases e : i = (τ 89 34).toNat
    · subst e
      rw [z_up_ne (by omega), z_up_eq, z_up_ne (by omega), z_up_eq]
    · rw [z_up_ne (by omega), z_up_ne (by omega), z_up_ne (by omega), z_up_ne (by omega)]
      exact h2 i (by omega)
  · rw [if_neg c, if_neg c]
    exact ⟨⟨h1, h2⟩, h0⟩
theorem q_trS : ∀ (l : List Int) {σ τ : zM}, q_rtr σ τ → 0 ≤ τ 89 34 ∧ τ 89 34 ≤ 16 → q_rtr (q_lvS l σ) (q_lmS l τ) ∧ 0 ≤ q_lmS l τ 89 34 ∧ q_lmS l τ 89 34 ≤ 16
  | [], _, _, h, h0 => ⟨h, h0⟩
  | b :: l, _, _, h, h0 => by
    rw [q_lvS, q_lmS]
    exact q_trS l (q_tr1 h h0).1 (q_tr1 h h0).2
theorem q_R2_tr {σ σ' τ' : zM} (R : q_R2 σ σ) (ht : q_rtr σ' τ') (e : ∀ c j, q_lastP c j → ¬ (86 ≤ c ∧ c ≤ 87) → σ' c j = σ c j) (f : ∀ c j, 89 ≤ c → c ≠ 107 → ¬ (c = 89 ∧ j = 34) → τ' c j = σ c j) : q_R2 σ' τ' := by
  obtain ⟨h1, ⟨h2, h3⟩, h4, h5, h6, h7⟩ := R
  refine ⟨q_rrow_cg h1 (fun c j a1 a2 => e c j (by unfold q_lastP; omega) (by omega)) (fun c j a1 a2 => f c j (by omega) (by omega) (by omega)), ⟨?_, ?_⟩, q_rtape_cg h4 (e _ _ (by unfold q_lastP; omega) (by omega)) (fun j => e _ _ (by unfold q_lastP; omega) (by omega)) (f _ _ (by omega) (by omega) (by omega)) (fun j => f _ _ (by omega) (by omega) (by omega)), ht, q_rwood_cg h6 (fun c j a1 a2 => e c j (by unfold q_lastP; omega) (by omega)) (fun j => f _ _ (by omega) (by omega) (by omega)) (fun j => f _ _ (by omega) (by omega) (by omega)) (f _ _ (by omega) (by omega) (by omega)), q_rimg_cg h7 (fun c j a1 a2 => e c j (by unfold q_lastP; omega) (by omega)) (fun c j a1 a2 => f c j (by omega) (by omega) (by omega))⟩
  · rw [e _ _ (by unfold q_lastP; omega) (by omega), f _ _ (by omega) (by omega) (by omega)]; exact h2
  · rw [e _ _ (by unfold q_lastP; omega) (by omega), f _ _ (by omega) (by omega) (by omega)]; exact h3
def q_askL (d x : Int) : List Int := if x = 0 then (if d = 3 then [11, 10, 21, 20] else if d = 4 then [12, 11, 10, 21, 20] else if d = 5 then [14, 13, 10] else [13, 10]) else (if d = 3 ∨ d = 4 then [21, 20] else if d = 2 then [22, 23, 20, 13, 10] else if d = 1 then [23, 20] else [24, 23, 20])
def q_askV (d x t L n : Int) : Int := if x = 0 then (if d = 3 then L + (t + n) else if d = 4 then -(L + (t + n)) else if d = 5 then 2 * (L - 1000) else L - 1000) else (if d = 3 ∨ d = 4 then t + n else if d = 2 then -t + (L - 1000) else if d = 1 then -t else -t - 100)
theorem q_askS {σ : zM} {K : zR} (ok : q_ak σ 86 ∧ 1 ≤ σ 86 3 ∧ σ 86 3 ≤ 5) (hk : K (some (.inl (q_askV (σ 86 3) 0 (σ 86 2) (σ 86 4) (σ 86 5)))) (q_lvS (q_askL (σ 86 3) 0) σ)) : SX0_sizeAsked [.inr (.inr (0, 0, 86))] σ K := by
  unfold q_askV q_askL at hk
  refine ⟨ok, fun q => ?_, fun q => ?_, fun q => ?_, fun q => ?_⟩
  · rw [q] at hk; exact hk
  · rw [q] at hk; exact hk
  · rcases q with q | q <;> (rw [q] at hk; exact hk)
  · rw [q] at hk; exact hk
theorem q_askM {σ : zM} {K : zR} (ok : q_ak σ 86 ∧ 1 ≤ σ 86 3 ∧ σ 86 3 ≤ 5) (hk : K (some (.inl (q_askV (σ 86 3) 1 (σ 86 2) (σ 86 4) (σ 86 5)))) (q_lvS (q_askL (σ 86 3) 1) σ)) : SX0_markAsked [.inr (.inr (0, 0, 86))] σ K := by
  unfold q_askV q_askL at hk
  refine ⟨ok, fun q => ?_, fun q => ?_, fun q => ?_, fun q => ?_⟩
  · rcases q with q | q <;> (rw [q] at hk; exact hk)
  · rw [q] at hk; exact hk
  · rw [q] at hk; exact hk
  · rw [q] at hk; exact hk
def q_gAsk (t w x : Int) (τ : zM) : Int := if ¬ ((0 ≤ t ∧ t < τ 93 0) ∧ (0 ≤ w ∧ w < τ 93 1) ∧ 0 ≤ x ∧ x ≤ 1) then -1000001 else q_askV (q_kdD (τ 93) t.toNat w.toNat) x t (τ 93 (6 + 6 * t.toNat + 0)) (q_tnD (τ 93) t.toNat)
def q_fAsk (t w x : Int) (τ : zM) : zM := if ¬ ((0 ≤ t ∧ t < τ 93 0) ∧ (0 ≤ w ∧ w < τ 93 1) ∧ 0 ≤ x ∧ x ≤ 1) then τ else q_lmS (q_askL (q_kdD (τ 93) t.toNat w.toNat) x) (z_up τ 89 34 0)
def SX9_ask : zS := fun as σ Ret => match as with
  | [.inr (.inr (9, 0, _)), .inl t, .inl w, .inl x] => q_S9 (q_gAsk t w x) (q_fAsk t w x) σ Ret
  | _ => False
def tX9_ask_0 (X : Nat → zB) (Ret : zR) (L : zL) (st : List zV) (σ : zM) : Prop := (z_aload 0 (z_getr 9 8 8 0 (z_getr 8 1 6 0 (z_iload 1 (z_cv1 6 SX6_has (z_ifeq (z_push (-1000001) (z_iret Ret)) (z_aload 0 (z_getr 9 8 8 0 (z_getr 8 8 7 0 (z_iload 2 (z_cv1 7 SX7_has (z_ifeq (z_push (-1000001) (z_iret Ret)) (z_iload 3 (z_iflt (z_push (-1000001) (z_iret Ret)) (z_iload 3 (z_push 1 (z_icle (z_aload 0 (z_getr 9 86 0 0 (z_iload 1 (z_aload 0 (z_iload 1 (z_iload 2 (z_cv2 9 SX9_kindIn (z_aload 0 (z_getr 9 8 8 0 (z_getr 8 1 6 0 (z_getr 6 1 100 12 (z_iload 1 (z_ald 0 (z_aload 0 (z_getr 9 8 8 0 (z_iload 1 (z_cv1 8 SX8_toneOf (z_cv4 0 SX0_begin (z_iload 3 (z_ifne (z_aload 0 (z_getr 9 86 0 0 (z_cv0 0 SX0_markAsked (z_iret Ret)))) (z_aload 0 (z_getr 9 86 0 0 (z_cv0 0 SX0_sizeAsked (z_goto (z_iret Ret))))))))))))))))))))))))) (z_push (-1000001) (z_iret Ret))))))))))))))))))) L st σ
theorem pX9_ask {as : List zV} {σ : zM} {Ret : zR} (h : SX9_ask as σ Ret) : ∃ (k0 : Nat) (x1 : Int) (x2 : Int) (x3 : Int), as = [.inr (.inr (9, 0, k0)), .inl x1, .inl x2, .inl x3] := by
  unfold SX9_ask at h
  split at h
  · exact ⟨_, _, _, _, rfl⟩
  · exact h.elim
set_option maxRecDepth 10000 in
set_option maxHeartbeats 4000000 in
theorem vX9_ask {X : Nat → zB} {Ret : zR} (h0 : ∀ L st σ, tX9_ask_0 X Ret L st σ → X 0 L st σ) (k0 : Nat) (x1 : Int) (x2 : Int) (x3 : Int) (σ : zM) (hk0 : z_kd k0 = (9, 0)) (hx1 : -2147483648 ≤ x1 ∧ x1 ≤ 2147483647) (hx2 : -2147483648 ≤ x2 ∧ x2 ≤ 2147483647) (hx3 : -2147483648 ≤ x3 ∧ x3 ≤ 2147483647) (hσ : z_okm σ) (h : SX9_ask [.inr (.inr (9, 0, k0)), .inl x1, .inl x2, .inl x3] σ Ret) : X 0 [some (.inr (.inr (9, 0, k0))), some (.inl x1), some (.inl x2), some (.inl x3)] [] σ := by
  obtain ⟨⟨R, m⟩, h⟩ := h
  obtain rfl := z_kd9 hk0
  have W := R.2.2.2.2.1.1
  have K := m.2.1.1
  have W0 : σ 9 6 = σ 93 0 := W.1.1.1
  have W1 : σ 16 3 = σ 93 1 := W.1.2.1.1
  have K0 := K.1.1
  have K1 := K.1.2.1
  by_cases c : ¬ ((0 ≤ x1 ∧ x1 < σ 93 0) ∧ (0 ≤ x2 ∧ x2 < σ 93 1) ∧ 0 ≤ x3 ∧ x3 ≤ 1)
  · have fin := h σ (fun _ _ => rfl) (by unfold q_fAsk; rw [if_pos c]; exact R)
    simp only [q_gAsk, if_pos c] at fin
    refine h0 _ _ _ ?_
    simp only [z_push, z_lpush, z_iload, z_lload, z_aload, z_istore, z_istoreP, z_lstore, z_astore, z_iinc, z_iincP, z_iadd, z_isub, z_imul, z_iaddW, z_isubW, z_imulW, z_idiv, z_irem, z_iand, z_ior, z_ixor, z_ishl, z_ishr, z_iushr, z_ineg, z_i2l, z_i2b, z_i2s, z_i2c, z_l2i, z_ladd, z_lsub, z_land, z_lor, z_lshl, z_lshr, z_lcmp, z_dup, z_pop, z_dup2, z_goto, z_tsw, z_cases, z_geti, z_getr, z_puti, z_putz, z_ald, z_iast, z_bast, z_zast, z_alen, z_acopy, z_mmax, z_mmin, z_mabs, z_mabsL, z_iret, z_zret, z_nret, z_lret, z_aret, z_vret, z_cat, z_ldcs, z_strv, z_strc, z_gcs, z_gfm, z_sln, z_sald, z_ifeq, z_ifne, z_iflt, z_ifge, z_ifgt, z_ifle, z_iceq, z_icne, z_iclt, z_icge, z_icgt, z_icle, z_cs0, z_cs1, z_cs2, z_cs3, z_cs4, z_cs5, z_cs6, z_cs7, z_cv0, z_cv1, z_cv2, z_cv3, z_cv4, z_cv5, z_cv6, z_cv7, z_g0, z_s0, z_g1, z_s1, z_g2, z_s2, z_g3, z_s3, z_g4, z_s4, z_g5, z_s5, z_g6, z_s6, z_g7, z_s7, z_g8, z_s8, z_g9, z_s9, z_g10, z_s10, z_g11, z_s11, z_g12, z_s12, z_g13, z_s13, z_b0, z_b1, z_b0n, z_b1n, z_up_far1, z_up_far2, z_up_far3, z_up_far4, z_up_far5, z_up_far6, Classical.not_not, not_true_eq_false, z_in, z_inL, Int.cast_ofNat_Int, Nat.reduceLeDiff, List.length_cons, List.length_nil, Nat.reduceAdd, Nat.zero_add, Nat.le_refl, true_and, and_true, List.length, Nat.reduceLT, true_or, or_true, false_or, or_false, false_and, and_false, not_true_eq_false, not_false_eq_true, forall_const, false_implies, true_implies, Int.reduceEq, Int.reduceLT, Int.reduceLE, Int.reduceAdd, Int.reduceSub, Int.reduceMul, Int.reduceNeg, Int.reduceToNat, Int.toNat_natCast, ↓reduceIte, reduceIte, Nat.reduceEqDiff, Nat.reduceSub, Nat.reduceMul, ne_eq, Int.zero_add, Int.add_zero, Int.sub_zero, Nat.add_zero, Int.ofNat_eq_natCast, tX9_ask_0, SX6_has, SX7_has, W0, W1]
    repeat' (first | (intro _) | (with_reducible assumption) | (refine And.intro ?_ ?_))
    all_goals first | omega | assumption | (refine z_fin fin ?_ rfl; first | rfl | omega | (split <;> omega) | (split <;> split <;> omega)) | skip
  obtain ⟨t, rfl⟩ := z_nat (show 0 ≤ x1 by omega)
  obtain ⟨w, rfl⟩ := z_nat (show 0 ≤ x2 by omega)
  have q := K.2.1 t (by omega)
  have kd := q_kdD_in (D := σ 93) (t := t) (w := w)
  have tn := q_tnD_in K (t := t) (by omega)
  have T0 : σ 10 t = σ 93 (6 + 6 * t + 0) := W.2.1 t 0 (by omega) (by omega)
  have T1 : σ 11 t = σ 93 (6 + 6 * t + 1) := W.2.1 t 1 (by omega) (by omega)
  have T4 : σ 8 6 = σ 93 4 := W.1.2.2.2.2.1
  have key : ∀ σ1 : zM, (∀ c j, ¬ (80 ≤ c ∧ c ≤ 83) → σ1 c j = σ c j) → ∀ σ2 : zM, (∀ c j, c ≠ 86 → σ2 c j = σ1 c j) → σ2 86 1 = 0 → σ2 86 2 = t → σ2 86 3 = q_kdD (σ 93) t w → σ2 86 4 = σ 93 (6 + 6 * t + 0) → σ2 86 5 = q_tnD (σ 93) t → (q_ak σ2 86 ∧ 1 ≤ σ2 86 3 ∧ σ2 86 3 ≤ 5) ∧ Ret (some (.inl (q_askV (σ2 86 3) x3 (σ2 86 2) (σ2 86 4) (σ2 86 5)))) (q_lvS (q_askL (σ2 86 3) x3) σ2) := by
    intro σ1 f1 σ2 f2 a1 a2 a3 a4 a5
    refine ⟨?_, ?_⟩
    · unfold q_ak
      rw [a1, a2, a3, a4, a5]
      omega
    · rw [a2, a3, a4, a5]
      have e9 : ∀ c, 89 ≤ c → q_lvS (q_askL (q_kdD (σ 93) t w) x3) σ2 c = σ c := fun c hc => funext fun j => by rw [q_lvS_ne (by omega), f2 c j (by omega), f1 c j (by omega)]
      have fe : q_fAsk (t : Int) (w : Int) x3 (q_lvS (q_askL (q_kdD (σ 93) t w) x3) σ2) = q_lmS (q_askL (q_kdD (σ 93) t w) x3) (z_up (q_lvS (q_askL (q_kdD (σ 93) t w) x3) σ2) 89 34 0) := by
        unfold q_fAsk
        rw [e9 93 (by omega), if_neg c, Int.toNat_natCast, Int.toNat_natCast]
      have fin := h _ e9 (by
        rw [fe]
        refine q_R2_tr R (q_trS _ ⟨?_, fun i hi => ?_⟩ ?_).1 (fun c j h1 h2 => ?_) (fun c j h1 h2 h3 => ?_)
        · rw [z_up_eq]; exact a1
        · rw [z_up_eq] at hi; omega
        · rw [z_up_eq]; omega
        · unfold q_lastP at h1
          rw [q_lvS_ne (by omega), f2 c j (by omega), f1 c j (by omega)]
        · rw [q_lmS_ne (by omega), z_up_ne (by omega), e9 c h1])
      unfold q_gAsk at fin
      rw [e9 93 (by omega), if_neg c, Int.toNat_natCast, Int.toNat_natCast] at fin
      exact fin
  refine h0 _ _ _ ?_
  simp only [z_push, z_lpush, z_iload, z_lload, z_aload, z_istore, z_istoreP, z_lstore, z_astore, z_iinc, z_iincP, z_iadd, z_isub, z_imul, z_iaddW, z_isubW, z_imulW, z_idiv, z_irem, z_iand, z_ior, z_ixor, z_ishl, z_ishr, z_iushr, z_ineg, z_i2l, z_i2b, z_i2s, z_i2c, z_l2i, z_ladd, z_lsub, z_land, z_lor, z_lshl, z_lshr, z_lcmp, z_dup, z_pop, z_dup2, z_goto, z_tsw, z_cases, z_geti, z_getr, z_puti, z_putz, z_ald, z_iast, z_bast, z_zast, z_alen, z_acopy, z_mmax, z_mmin, z_mabs, z_mabsL, z_iret, z_zret, z_nret, z_lret, z_aret, z_vret, z_cat, z_ldcs, z_strv, z_strc, z_gcs, z_gfm, z_sln, z_sald, z_ifeq, z_ifne, z_iflt, z_ifge, z_ifgt, z_ifle, z_iceq, z_icne, z_iclt, z_icge, z_icgt, z_icle, z_cs0, z_cs1, z_cs2, z_cs3, z_cs4, z_cs5, z_cs6, z_cs7, z_cv0, z_cv1, z_cv2, z_cv3, z_cv4, z_cv5, z_cv6, z_cv7, z_g0, z_s0, z_g1, z_s1, z_g2, z_s2, z_g3, z_s3, z_g4, z_s4, z_g5, z_s5, z_g6, z_s6, z_g7, z_s7, z_g8, z_s8, z_g9, z_s9, z_g10, z_s10, z_g11, z_s11, z_g12, z_s12, z_g13, z_s13, z_b0, z_b1, z_b0n, z_b1n, z_up_far1, z_up_far2, z_up_far3, z_up_far4, z_up_far5, z_up_far6, Classical.not_not, not_true_eq_false, z_in, z_inL, Int.cast_ofNat_Int, Nat.reduceLeDiff, List.length_cons, List.length_nil, Nat.reduceAdd, Nat.zero_add, Nat.le_refl, true_and, and_true, List.length, Nat.reduceLT, true_or, or_true, false_or, or_false, false_and, and_false, not_true_eq_false, not_false_eq_true, forall_const, false_implies, true_implies, Int.reduceEq, Int.reduceLT, Int.reduceLE, Int.reduceAdd, Int.reduceSub, Int.reduceMul, Int.reduceNeg, Int.reduceToNat, Int.toNat_natCast, ↓reduceIte, reduceIte, Nat.reduceEqDiff, Nat.reduceSub, Nat.reduceMul, ne_eq, Int.zero_add, Int.add_zero, Int.sub_zero, Nat.add_zero, Int.ofNat_eq_natCast, tX9_ask_0, SX6_has, SX7_has, SX9_kindIn, SX8_toneOf, SX0_begin, W0, W1]
  refine ⟨fun e => absurd e (by omega), fun _ => ⟨fun e => absurd e (by omega), fun _ => ⟨fun e => absurd e (by omega), fun _ => ⟨fun _ => ⟨σ 93, ⟨W, K, by omega, by omega⟩, fun σ1 f1 => ?_⟩, fun e => absurd e (by omega)⟩⟩⟩⟩
  have k := key σ1 f1
  rw [f1 9 6 (by omega), W0]
  rw [f1 10 t (by omega), f1 11 t (by omega), f1 8 6 (by omega), T0, T1, T4]
  generalize hs : z_up (z_up (z_up (z_up (z_up σ1 86 1 0) 86 2 (t : Int)) 86 3 (q_kdD (σ 93) t w)) 86 4 (σ 93 (6 + 6 * t + 0))) 86 5 (q_tone (σ 93 (6 + 6 * t + 1)) (σ 93 (6 + 6 * t + 0)) (σ 93 4)) = σ2
  have k2 := k σ2 (fun c j hc => by rw [← hs, z_up_ne (by omega), z_up_ne (by omega), z_up_ne (by omega), z_up_ne (by omega), z_up_ne (by omega)]) (by rw [← hs, z_up_ne (by omega), z_up_ne (by omega), z_up_ne (by omega), z_up_ne (by omega), z_up_eq]) (by rw [← hs, z_up_ne (by omega), z_up_ne (by omega), z_up_ne (by omega), z_up_eq]) (by rw [← hs, z_up_ne (by omega), z_up_ne (by omega), z_up_eq]) (by rw [← hs, z_up_ne (by omega), z_up_eq]) (by rw [← hs, z_up_eq]; rfl)
  refine ⟨by omega, fun _ => ⟨by omega, fun e => ?_, fun e => ?_⟩⟩
  · have e1 : x3 = 1 := by omega
    subst e1
    exact q_askM k2.1 k2.2
  · subst e
    exact q_askS k2.1 k2.2
theorem dX9_ask_0 : decode cX9_ask 0 = .ok (.aload_n 0, 1) := by decide +kernel
theorem dX9_ask_1 : decode cX9_ask 1 = .ok (.getfield 26, 3) := by decide +kernel
theorem dX9_ask_4 : decode cX9_ask 4 = .ok (.getfield 132, 3) := by decide +kernel
theorem dX9_ask_7 : decode cX9_ask 7 = .ok (.iload_n 1, 1) := by decide +kernel
theorem dX9_ask_8 : decode cX9_ask 8 = .ok (.invokevirtual 170, 3) := by decide +kernel
theorem dX9_ask_11 : decode cX9_ask 11 = .ok (.ifCond .eq 26, 3) := by decide +kernel
theorem dX9_ask_14 : decode cX9_ask 14 = .ok (.aload_n 0, 1) := by decide +kernel
theorem dX9_ask_15 : decode cX9_ask 15 = .ok (.getfield 26, 3) := by decide +kernel
theorem dX9_ask_18 : decode cX9_ask 18 = .ok (.getfield 194, 3) := by decide +kernel
theorem dX9_ask_21 : decode cX9_ask 21 = .ok (.iload_n 2, 1) := by decide +kernel
theorem dX9_ask_22 : decode cX9_ask 22 = .ok (.invokevirtual 198, 3) := by decide +kernel
theorem dX9_ask_25 : decode cX9_ask 25 = .ok (.ifCond .eq 12, 3) := by decide +kernel
theorem dX9_ask_28 : decode cX9_ask 28 = .ok (.iload_n 3, 1) := by decide +kernel
theorem dX9_ask_29 : decode cX9_ask 29 = .ok (.ifCond .lt 8, 3) := by decide +kernel
theorem dX9_ask_32 : decode cX9_ask 32 = .ok (.iload_n 3, 1) := by decide +kernel
theorem dX9_ask_33 : decode cX9_ask 33 = .ok (.iconst 1, 1) := by decide +kernel
theorem dX9_ask_34 : decode cX9_ask 34 = .ok (.if_icmp .le 6, 3) := by decide +kernel
theorem dX9_ask_37 : decode cX9_ask 37 = .ok (.ldc 75, 2) := by decide +kernel
theorem dX9_ask_39 : decode cX9_ask 39 = .ok (.ireturn, 1) := by decide +kernel
theorem dX9_ask_40 : decode cX9_ask 40 = .ok (.aload_n 0, 1) := by decide +kernel
theorem dX9_ask_41 : decode cX9_ask 41 = .ok (.getfield 63, 3) := by decide +kernel
theorem dX9_ask_44 : decode cX9_ask 44 = .ok (.iload_n 1, 1) := by decide +kernel
theorem dX9_ask_45 : decode cX9_ask 45 = .ok (.aload_n 0, 1) := by decide +kernel
theorem dX9_ask_46 : decode cX9_ask 46 = .ok (.iload_n 1, 1) := by decide +kernel
theorem dX9_ask_47 : decode cX9_ask 47 = .ok (.iload_n 2, 1) := by decide +kernel
theorem dX9_ask_48 : decode cX9_ask 48 = .ok (.invokevirtual 267, 3) := by decide +kernel
theorem dX9_ask_51 : decode cX9_ask 51 = .ok (.aload_n 0, 1) := by decide +kernel
theorem dX9_ask_52 : decode cX9_ask 52 = .ok (.getfield 26, 3) := by decide +kernel
theorem dX9_ask_55 : decode cX9_ask 55 = .ok (.getfield 132, 3) := by decide +kernel
theorem dX9_ask_58 : decode cX9_ask 58 = .ok (.getfield 173, 3) := by decide +kernel
theorem dX9_ask_61 : decode cX9_ask 61 = .ok (.iload_n 1, 1) := by decide +kernel
theorem dX9_ask_62 : decode cX9_ask 62 = .ok (.iaload, 1) := by decide +kernel
theorem dX9_ask_63 : decode cX9_ask 63 = .ok (.aload_n 0, 1) := by decide +kernel
theorem dX9_ask_64 : decode cX9_ask 64 = .ok (.getfield 26, 3) := by decide +kernel
theorem dX9_ask_67 : decode cX9_ask 67 = .ok (.iload_n 1, 1) := by decide +kernel
theorem dX9_ask_68 : decode cX9_ask 68 = .ok (.invokevirtual 191, 3) := by decide +kernel
theorem dX9_ask_71 : decode cX9_ask 71 = .ok (.invokevirtual 273, 3) := by decide +kernel
theorem dX9_ask_74 : decode cX9_ask 74 = .ok (.iload_n 3, 1) := by decide +kernel
theorem dX9_ask_75 : decode cX9_ask 75 = .ok (.ifCond .ne 13, 3) := by decide +kernel
theorem dX9_ask_78 : decode cX9_ask 78 = .ok (.aload_n 0, 1) := by decide +kernel
theorem dX9_ask_79 : decode cX9_ask 79 = .ok (.getfield 63, 3) := by decide +kernel
theorem dX9_ask_82 : decode cX9_ask 82 = .ok (.invokevirtual 277, 3) := by decide +kernel
theorem dX9_ask_85 : decode cX9_ask 85 = .ok (.goto 10, 3) := by decide +kernel
theorem dX9_ask_88 : decode cX9_ask 88 = .ok (.aload_n 0, 1) := by decide +kernel
theorem dX9_ask_89 : decode cX9_ask 89 = .ok (.getfield 63, 3) := by decide +kernel
theorem dX9_ask_92 : decode cX9_ask 92 = .ok (.invokevirtual 280, 3) := by decide +kernel
theorem dX9_ask_95 : decode cX9_ask 95 = .ok (.ireturn, 1) := by decide +kernel
set_option maxRecDepth 100000 in
theorem rX9_ask_0 {p : Program} {l : Launch} {e : Env} {s : State} {m : MethodId} {args : Array Value} {below : List Frame} {meth : Method} {c : Code} {D : va_G} {cA : Nat → ClassId} {ad : Nat → Nat} {Ret : zR} (C : z_Cx p { frames := 6, cells := 0, slots := 0, locals := 122 } s m args c cX9_ask yX9_ask.cls 4 D cA ad) (hr : meth.sig.returnType = (some .int)) (hlocks : meth.locks = false) : ∀ L st σ, tX9_ask_0 (z_X p l e { frames := 6, cells := 0, slots := 0, locals := 122 } s m args below meth c (MQ below (z_Qc D cA ad Ret) args s 0 0 (z_A ad)) 4 D cA ad true) Ret L st σ → z_X p l e { frames := 6, cells := 0, slots := 0, locals := 122 } s m args below meth c (MQ below (z_Qc D cA ad Ret) args s 0 0 (z_A ad)) 4 D cA ad true 0 L st σ := (s_aload_n C dX9_ask_0 rfl (s_getr C dX9_ask_1 (j := 2) cls_X9 (by decide) rfl (by decide) (by decide) (by decide +kernel) wd_359 (s_getr C dX9_ask_4 (j := 0) cls_X8 (by decide) rfl (by decide) (by decide) (by decide +kernel) wd_258 (s_iload_n C dX9_ask_7 rfl (s_cv1 C dX9_ask_8 (okX6_has l) cls_X6 wd_714 wd_667 wd_668 wd_79 wd_669 ⟨by decide, by decide, by decide +kernel⟩ ⟨by decide, by decide⟩ (s_ifeq C dX9_ask_11 (by decide) (s_ldc C dX9_ask_37 (v := -1000001) wd_404 ⟨by decide, by decide⟩ (s_iret C dX9_ask_39 hr hlocks)) (s_aload_n C dX9_ask_14 rfl (s_getr C dX9_ask_15 (j := 2) cls_X9 (by decide) rfl (by decide) (by decide) (by decide +kernel) wd_359 (s_getr C dX9_ask_18 (j := 1) cls_X8 (by decide) rfl (by decide) (by decide) (by decide +kernel) wd_261 (s_iload_n C dX9_ask_21 rfl (s_cv1 C dX9_ask_22 (okX7_has l) cls_X7 wd_726 wd_727 wd_728 wd_80 wd_729 ⟨by decide, by decide, by decide +kernel⟩ ⟨by decide, by decide⟩ (s_ifeq C dX9_ask_25 (by decide) (s_ldc C dX9_ask_37 (v := -1000001) wd_404 ⟨by decide, by decide⟩ (s_iret C dX9_ask_39 hr hlocks)) (s_iload_n C dX9_ask_28 rfl (s_iflt C dX9_ask_29 (by decide) (s_ldc C dX9_ask_37 (v := -1000001) wd_404 ⟨by decide, by decide⟩ (s_iret C dX9_ask_39 hr hlocks)) (s_iload_n C dX9_ask_32 rfl (s_iconst C dX9_ask_33 rfl ⟨by decide, by decide⟩ (s_icle C dX9_ask_34 (by decide) (s_aload_n C dX9_ask_40 rfl (s_getr C dX9_ask_41 (j := 9) cls_X9 (by decide) rfl (by decide) (by decide) (by decide +kernel) wd_366 (s_iload_n C dX9_ask_44 rfl (s_aload_n C dX9_ask_45 rfl (s_iload_n C dX9_ask_46 rfl (s_iload_n C dX9_ask_47 rfl (s_cv2 C dX9_ask_48 (okX9_kindIn l) cls_X9 wd_874 wd_876 wd_23 wd_75 wd_877 ⟨by decide, by decide, by decide +kernel⟩ ⟨by decide, by decide⟩ (s_aload_n C dX9_ask_51 rfl (s_getr C dX9_ask_52 (j := 2) cls_X9 (by decide) rfl (by decide) (by decide) (by decide +kernel) wd_359 (s_getr C dX9_ask_55 (j := 0) cls_X8 (by decide) rfl (by decide) (by decide) (by decide +kernel) wd_258 (s_getr C dX9_ask_58 (j := 0) cls_X6 (by decide) rfl (by decide) (by decide) (by decide +kernel) wd_169 (s_iload_n C dX9_ask_61 rfl (s_iald C dX9_ask_62 (s_aload_n C dX9_ask_63 rfl (s_getr C dX9_ask_64 (j := 2) cls_X9 (by decide) rfl (by decide) (by decide) (by decide +kernel) wd_359 (s_iload_n C dX9_ask_67 rfl (s_cv1 C dX9_ask_68 (okX8_toneOf l) cls_X8 wd_715 wd_716 wd_717 wd_78 wd_718 ⟨by decide, by decide, by decide +kernel⟩ ⟨by decide, by decide⟩ (s_cv4 C dX9_ask_71 (okX0_begin l) cls_X0 wd_890 wd_891 wd_892 wd_84 wd_893 ⟨by decide, by decide, by decide +kernel⟩ ⟨by decide, by decide⟩ (s_iload_n C dX9_ask_74 rfl (s_ifne C dX9_ask_75 (by decide) (s_aload_n C dX9_ask_88 rfl (s_getr C dX9_ask_89 (j := 9) cls_X9 (by decide) rfl (by decide) (by decide) (by decide +kernel) wd_366 (s_cv0 C dX9_ask_92 (okX0_markAsked l) cls_X0 wd_930 wd_931 wd_932 wd_84 wd_933 ⟨by decide, by decide, by decide +kernel⟩ ⟨by decide, by decide⟩ (s_iret C dX9_ask_95 hr hlocks)))) (s_aload_n C dX9_ask_78 rfl (s_getr C dX9_ask_79 (j := 9) cls_X9 (by decide) rfl (by decide) (by decide) (by decide +kernel) wd_366 (s_cv0 C dX9_ask_82 (okX0_sizeAsked l) cls_X0 wd_894 wd_895 wd_896 wd_84 wd_897 ⟨by decide, by decide, by decide +kernel⟩ ⟨by decide, by decide⟩ (s_goto C dX9_ask_85 (by decide) (s_iret C dX9_ask_95 hr hlocks))))))))))))))))))))))))) (s_ldc C dX9_ask_37 (v := -1000001) wd_404 ⟨by decide, by decide⟩ (s_iret C dX9_ask_39 hr hlocks)))))))))))))))))))
theorem okX9_ask (l : Launch) : z_OK l yX9_ask cX9_ask 4 (some .int) 6 122 SX9_ask := by
  refine z_ok_of true (by decide +kernel) ?_ ?_
  · intro as σ Ret h
    obtain ⟨k0, x1, x2, x3, rfl⟩ := pX9_ask h
    exact ⟨Nat.le_of_ble_eq_true rfl, by simp⟩
  · intro p e s m args below meth c D cA ad Ret C hr hlocks as σ has hσ h
    obtain ⟨k0, x1, x2, x3, rfl⟩ := pX9_ask h
    exact vX9_ask (rX9_ask_0 C hr hlocks) k0 x1 x2 x3 σ (has _ (List.mem_of_getElem? (i := 0) rfl)) (has _ (List.mem_of_getElem? (i := 1) rfl)) (has _ (List.mem_of_getElem? (i := 2) rfl)) (has _ (List.mem_of_getElem? (i := 3) rfl)) hσ h
