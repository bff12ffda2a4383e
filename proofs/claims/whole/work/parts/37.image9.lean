/-! images, asked of the program -/
theorem q_W_take {σ σ' : zM} {b o : Nat} {D O : Nat → Int} {h : Int} (w : q_W σ o D O h) (e : ∀ i j, q_vp i j → σ' (b + i) j = σ (o + i) j) : q_W σ' b D O h := by
  obtain ⟨⟨⟨⟨a0, b0⟩, ⟨a1, b1⟩, ⟨a2, b2⟩, a3, a4, a5, b5⟩, hT, hW, hJ⟩, hd, h7⟩ := w
  have z : ∀ j, 4 ≤ j → j ≤ 7 → σ' b j = σ o j := fun j h1 h2 => e 0 j (by unfold q_vp; omega)
  refine ⟨⟨⟨⟨?_, b0⟩, ⟨?_, b1⟩, ⟨?_, b2⟩, ?_, ?_, ?_, b5⟩, fun t f h1 h2 => ?_, fun t f h1 h2 => ?_, fun j h1 => ?_⟩, fun i hi => ?_, ?_⟩
  · rw [e 1 6 (by unfold q_vp; omega)]; exact a0
  · rw [e 8 3 (by unfold q_vp; omega)]; exact a1
  · rw [z 4 (by omega) (by omega)]; exact a2
  · rw [z 5 (by omega) (by omega)]; exact a3
  · rw [z 6 (by omega) (by omega)]; exact a4
  · rw [e 12 3 (by unfold q_vp; omega)]; exact a5
  · rw [Nat.add_assoc, e (2 + f) t (by unfold q_vp; omega), ← Nat.add_assoc]
    exact hT t f h1 h2
  · rw [Nat.add_assoc, e (9 + f) t (by unfold q_vp; omega), ← Nat.add_assoc]
    exact hW t f h1 h2
  · rw [e 16 j (by unfold q_vp; omega)]
    exact hJ j h1
  · rw [e 13 i (by unfold q_vp; omega), e 14 i (by unfold q_vp; omega), e 15 i (by unfold q_vp; omega)]
    exact hd i hi
  · rw [z 7 (by omega) (by omega)]; exact h7
def q_gImage (k : Int) (τ : zM) : Int := if ¬ (0 ≤ k ∧ k ≤ 1) then -1000001 else if τ 89 7 = 0 then -1000002 else 1
def q_kp (τ : zM) (k : Nat) : zM := fun c j => if c = 105 ∧ 106 * k ≤ j ∧ j < 106 * k + 106 then τ 93 (j - 106 * k) else if c = 106 ∧ 180 * k ≤ j ∧ j < 180 * k + 180 then τ 95 (j - 180 * k) else if c = 104 ∧ j = k then 1 else τ c j
def q_fImage (k : Int) (τ : zM) : zM := if ¬ (0 ≤ k ∧ k ≤ 1) then τ else if τ 89 7 = 0 then τ else q_kp τ k.toNat
theorem q_W_cgD {σ : zM} {b : Nat} {D D' O O' : Nat → Int} {h : Int} (w : q_W σ b D O h) (e : ∀ i, i < 106 → D' i = D i) (f : ∀ i, i < 180 → O' i = O i) : q_W σ b D' O' h := by
  obtain ⟨⟨⟨⟨a0, b0⟩, ⟨a1, b1⟩, ⟨a2, b2⟩, a3, a4, a5, b5⟩, hT, hW, hJ⟩, hd, h7⟩ := w
  refine ⟨⟨?_, fun t f h1 h2 => ?_, fun t f h1 h2 => ?_, fun j h1 => ?_⟩, fun i hi => ?_, h7⟩
  · rw [e 0 (by omega), e 1 (by omega), e 2 (by omega), e 3 (by omega), e 4 (by omega), e 5 (by omega)]
    exact ⟨⟨a0, b0⟩, ⟨a1, b1⟩, ⟨a2, b2⟩, a3, a4, a5, b5⟩
  · rw [e 0 (by omega)] at h1
    rw [e _ (by omega)]
    exact hT t f h1 h2
  · rw [e 1 (by omega)] at h1
    rw [e _ (by omega)]
    exact hW t f h1 h2
  · rw [e 2 (by omega)] at h1
    rw [e _ (by omega)]
    exact hJ j h1
  · rw [e 5 (by omega)] at hi
    rw [e 0 (by omega), f _ (by omega), f _ (by omega), f _ (by omega)]
    exact hd i hi
def SX9_image : zS := fun as σ Ret => match as with
  | [.inr (.inr (9, 0, _)), .inl k] => q_S9 (q_gImage k) (q_fImage k) σ Ret
  | _ => False
def tX9_image_0 (X : Nat → zB) (Ret : zR) (L : zL) (st : List zV) (σ : zM) : Prop := (z_iload 1 (z_iflt (z_push (-1000001) (z_iret Ret)) (z_iload 1 (z_push 1 (z_icle (z_aload 0 (z_getr 9 8 8 0 (z_geti 8 7 (z_ifne (z_aload 0 (z_iload 1 (z_cv1 9 SX9_imageAt (z_aload 0 (z_getr 9 8 8 0 (z_cv1 8 SX8_takeOver (z_push 1 (z_iret Ret)))))))) (z_push (-1000002) (z_iret Ret)))))) (z_push (-1000001) (z_iret Ret))))))) L st σ
theorem pX9_image {as : List zV} {σ : zM} {Ret : zR} (h : SX9_image as σ Ret) : ∃ (k0 : Nat) (x1 : Int), as = [.inr (.inr (9, 0, k0)), .inl x1] := by
  unfold SX9_image at h
  split at h
  · exact ⟨_, _, rfl⟩
  · exact h.elim
set_option maxRecDepth 10000 in
set_option maxHeartbeats 4000000 in
theorem vX9_image {X : Nat → zB} {Ret : zR} (h0 : ∀ L st σ, tX9_image_0 X Ret L st σ → X 0 L st σ) (k0 : Nat) (x1 : Int) (σ : zM) (hk0 : z_kd k0 = (9, 0)) (hx1 : -2147483648 ≤ x1 ∧ x1 ≤ 2147483647) (hσ : z_okm σ) (h : SX9_image [.inr (.inr (9, 0, k0)), .inl x1] σ Ret) : X 0 [some (.inr (.inr (9, 0, k0))), some (.inl x1)] [] σ := by
  obtain ⟨⟨R, m⟩, h⟩ := h
  obtain rfl := z_kd9 hk0
  have W := R.2.2.2.2.1
  have W3 := W.2.2
  have m4 := m.2.1.2.2
  by_cases c2 : ¬ (0 ≤ x1 ∧ x1 ≤ 1)
  · have fin := h σ (fun _ _ => rfl) (by unfold q_fImage; rw [if_pos c2]; exact R)
    simp only [q_gImage, if_pos c2] at fin
    refine h0 _ _ _ ?_
    simp only [z_push, z_lpush, z_iload, z_lload, z_aload, z_istore, z_istoreP, z_lstore, z_astore, z_iinc, z_iincP, z_iadd, z_isub, z_imul, z_iaddW, z_isubW, z_imulW, z_idiv, z_irem, z_iand, z_ior, z_ixor, z_ishl, z_ishr, z_iushr, z_ineg, z_i2l, z_i2b, z_i2s, z_i2c, z_l2i, z_ladd, z_lsub, z_land, z_lor, z_lshl, z_lshr, z_lcmp, z_dup, z_pop, z_dup2, z_goto, z_tsw, z_cases, z_geti, z_getr, z_puti, z_putz, z_ald, z_iast, z_bast, z_zast, z_alen, z_acopy, z_mmax, z_mmin, z_mabs, z_mabsL, z_iret, z_zret, z_nret, z_lret, z_aret, z_vret, z_cat, z_ldcs, z_strv, z_strc, z_gcs, z_gfm, z_sln, z_sald, z_ifeq, z_ifne, z_iflt, z_ifge, z_ifgt, z_ifle, z_iceq, z_icne, z_iclt, z_icge, z_icgt, z_icle, z_cs0, z_cs1, z_cs2, z_cs3, z_cs4, z_cs5, z_cs6, z_cs7, z_cv0, z_cv1, z_cv2, z_cv3, z_cv4, z_cv5, z_cv6, z_cv7, z_g0, z_s0, z_g1, z_s1, z_g2, z_s2, z_g3, z_s3, z_g4, z_s4, z_g5, z_s5, z_g6, z_s6, z_g7, z_s7, z_g8, z_s8, z_g9, z_s9, z_g10, z_s10, z_g11, z_s11, z_g12, z_s12, z_g13, z_s13, z_b0, z_b1, z_b0n, z_b1n, z_up_far1, z_up_far2, z_up_far3, z_up_far4, z_up_far5, z_up_far6, Classical.not_not, not_true_eq_false, z_in, z_inL, Int.cast_ofNat_Int, Nat.reduceLeDiff, List.length_cons, List.length_nil, Nat.reduceAdd, Nat.zero_add, Nat.le_refl, true_and, and_true, List.length, Nat.reduceLT, true_or, or_true, false_or, or_false, false_and, and_false, not_true_eq_false, not_false_eq_true, forall_const, false_implies, true_implies, Int.reduceEq, Int.reduceLT, Int.reduceLE, Int.reduceAdd, Int.reduceSub, Int.reduceMul, Int.reduceNeg, Int.reduceToNat, Int.toNat_natCast, ↓reduceIte, reduceIte, Nat.reduceEqDiff, Nat.reduceSub, Nat.reduceMul, ne_eq, Int.zero_add, Int.add_zero, Int.sub_zero, Nat.add_zero, Int.ofNat_eq_natCast, tX9_image_0]
    repeat' (first | (intro _) | (with_reducible assumption) | (refine And.intro ?_ ?_))
    all_goals first | omega | assumption | (refine z_fin fin ?_ rfl; first | rfl | omega | (split <;> omega) | (split <;> split <;> omega)) | skip
  by_cases c1 : σ 89 7 = 0
  · have fin := h σ (fun _ _ => rfl) (by unfold q_fImage; rw [if_neg c2, if_pos c1]; exact R)
    simp only [q_gImage, if_neg c2, if_pos c1] at fin
    rw [c1] at W3
    refine h0 _ _ _ ?_
    simp only [z_push, z_lpush, z_iload, z_lload, z_aload, z_istore, z_istoreP, z_lstore, z_astore, z_iinc, z_iincP, z_iadd, z_isub, z_imul, z_iaddW, z_isubW, z_imulW, z_idiv, z_irem, z_iand, z_ior, z_ixor, z_ishl, z_ishr, z_iushr, z_ineg, z_i2l, z_i2b, z_i2s, z_i2c, z_l2i, z_ladd, z_lsub, z_land, z_lor, z_lshl, z_lshr, z_lcmp, z_dup, z_pop, z_dup2, z_goto, z_tsw, z_cases, z_geti, z_getr, z_puti, z_putz, z_ald, z_iast, z_bast, z_zast, z_alen, z_acopy, z_mmax, z_mmin, z_mabs, z_mabsL, z_iret, z_zret, z_nret, z_lret, z_aret, z_vret, z_cat, z_ldcs, z_strv, z_strc, z_gcs, z_gfm, z_sln, z_sald, z_ifeq, z_ifne, z_iflt, z_ifge, z_ifgt, z_ifle, z_iceq, z_icne, z_iclt, z_icge, z_icgt, z_icle, z_cs0, z_cs1, z_cs2, z_cs3, z_cs4, z_cs5, z_cs6, z_cs7, z_cv0, z_cv1, z_cv2, z_cv3, z_cv4, z_cv5, z_cv6, z_cv7, z_g0, z_s0, z_g1, z_s1, z_g2, z_s2, z_g3, z_s3, z_g4, z_s4, z_g5, z_s5, z_g6, z_s6, z_g7, z_s7, z_g8, z_s8, z_g9, z_s9, z_g10, z_s10, z_g11, z_s11, z_g12, z_s12, z_g13, z_s13, z_b0, z_b1, z_b0n, z_b1n, z_up_far1, z_up_far2, z_up_far3, z_up_far4, z_up_far5, z_up_far6, Classical.not_not, not_true_eq_false, z_in, z_inL, Int.cast_ofNat_Int, Nat.reduceLeDiff, List.length_cons, List.length_nil, Nat.reduceAdd, Nat.zero_add, Nat.le_refl, true_and, and_true, List.length, Nat.reduceLT, true_or, or_true, false_or, or_false, false_and, and_false, not_true_eq_false, not_false_eq_true, forall_const, false_implies, true_implies, Int.reduceEq, Int.reduceLT, Int.reduceLE, Int.reduceAdd, Int.reduceSub, Int.reduceMul, Int.reduceNeg, Int.reduceToNat, Int.toNat_natCast, ↓reduceIte, reduceIte, Nat.reduceEqDiff, Nat.reduceSub, Nat.reduceMul, ne_eq, Int.zero_add, Int.add_zero, Int.sub_zero, Nat.add_zero, Int.ofNat_eq_natCast, tX9_image_0, W3]
    repeat' (first | (intro _) | (with_reducible assumption) | (refine And.intro ?_ ?_))
    all_goals first | omega | assumption | (refine z_fin fin ?_ rfl; first | rfl | omega | (split <;> omega) | (split <;> split <;> omega)) | skip
  obtain ⟨k, rfl⟩ := z_nat (show 0 ≤ x1 by omega)
  have hk : k < 2 := by omega
  refine h0 _ _ _ ?_
  simp only [z_push, z_lpush, z_iload, z_lload, z_aload, z_istore, z_istoreP, z_lstore, z_astore, z_iinc, z_iincP, z_iadd, z_isub, z_imul, z_iaddW, z_isubW, z_imulW, z_idiv, z_irem, z_iand, z_ior, z_ixor, z_ishl, z_ishr, z_iushr, z_ineg, z_i2l, z_i2b, z_i2s, z_i2c, z_l2i, z_ladd, z_lsub, z_land, z_lor, z_lshl, z_lshr, z_lcmp, z_dup, z_pop, z_dup2, z_goto, z_tsw, z_cases, z_geti, z_getr, z_puti, z_putz, z_ald, z_iast, z_bast, z_zast, z_alen, z_acopy, z_mmax, z_mmin, z_mabs, z_mabsL, z_iret, z_zret, z_nret, z_lret, z_aret, z_vret, z_cat, z_ldcs, z_strv, z_strc, z_gcs, z_gfm, z_sln, z_sald, z_ifeq, z_ifne, z_iflt, z_ifge, z_ifgt, z_ifle, z_iceq, z_icne, z_iclt, z_icge, z_icgt, z_icle, z_cs0, z_cs1, z_cs2, z_cs3, z_cs4, z_cs5, z_cs6, z_cs7, z_cv0, z_cv1, z_cv2, z_cv3, z_cv4, z_cv5, z_cv6, z_cv7, z_g0, z_s0, z_g1, z_s1, z_g2, z_s2, z_g3, z_s3, z_g4, z_s4, z_g5, z_s5, z_g6, z_s6, z_g7, z_s7, z_g8, z_s8, z_g9, z_s9, z_g10, z_s10, z_g11, z_s11, z_g12, z_s12, z_g13, z_s13, z_b0, z_b1, z_b0n, z_b1n, z_up_far1, z_up_far2, z_up_far3, z_up_far4, z_up_far5, z_up_far6, Classical.not_not, not_true_eq_false, z_in, z_inL, Int.cast_ofNat_Int, Nat.reduceLeDiff, List.length_cons, List.length_nil, Nat.reduceAdd, Nat.zero_add, Nat.le_refl, true_and, and_true, List.length, Nat.reduceLT, true_or, or_true, false_or, or_false, false_and, and_false, not_true_eq_false, not_false_eq_true, forall_const, false_implies, true_implies, Int.reduceEq, Int.reduceLT, Int.reduceLE, Int.reduceAdd, Int.reduceSub, Int.reduceMul, Int.reduceNeg, Int.reduceToNat, Int.toNat_natCast, ↓reduceIte, reduceIte, Nat.reduceEqDiff, Nat.reduceSub, Nat.reduceMul, ne_eq, Int.zero_add, Int.add_zero, Int.sub_zero, Nat.add_zero, Int.ofNat_eq_natCast, tX9_image_0, SX9_imageAt, SX8_takeOver, W3, c1]
  refine ⟨fun e => absurd e (by omega), fun _ => ⟨fun _ _ => ⟨by omega, ⟨⟨by omega, by omega⟩, fun σ1 f1 f2 => ?_⟩⟩, fun e => absurd e (by omega)⟩⟩
  have e9 : ∀ c, 89 ≤ c → σ1 c = σ c := fun c hc => funext fun j => f1 c j (by omega)
  have ef : q_fImage k σ1 = q_kp σ1 k := by unfold q_fImage; rw [if_neg c2, e9 89 (by omega), if_neg c1]; rfl
  have k5 : ∀ q, q < 2 → ∀ i, i < 106 → q_kw (q_kp σ1 k) q i = if q = k then σ 93 i else q_kw σ q i := by
    intro q hq i hi
    unfold q_kw q_kp
    by_cases e : q = k
    · subst e
      rw [if_pos rfl, if_pos ⟨rfl, by omega, by omega⟩, e9 93 (by omega), Nat.add_sub_cancel_left]
    · rw [if_neg e, if_neg (by omega), if_neg (by omega), if_neg (by omega), e9 105 (by omega)]
  have k6 : ∀ q, q < 2 → ∀ i, i < 180 → q_ko (q_kp σ1 k) q i = if q = k then σ 95 i else q_ko σ q i := by
    intro q hq i hi
    unfold q_ko q_kp
    by_cases e : q = k
    · subst e
      rw [if_pos rfl, if_neg (by omega), if_pos ⟨rfl, by omega, by omega⟩, e9 95 (by omega), Nat.add_sub_cancel_left]
    · rw [if_neg e, if_neg (by omega), if_neg (by omega), if_neg (by omega), e9 106 (by omega)]
  have kn : ∀ c j, c ≠ 104 → c ≠ 105 → c ≠ 106 → q_kp σ1 k c j = σ1 c j := by
    intro c j h1 h2 h3
    unfold q_kp
    rw [if_neg (by omega), if_neg (by omega), if_neg (by omega)]
  have r2 : q_R2 σ1 (q_fImage k σ1) := by
    rw [ef]
    obtain ⟨r1, ⟨r2, r3⟩, r4, r5, r6, r7⟩ := R
    have p : ∀ c j, ¬ (42 ≤ c ∧ c ≤ 75) → σ1 c j = σ c j := fun c j hc => f1 c j (by omega)
    have t : ∀ c j, 89 ≤ c → c ≠ 104 → c ≠ 105 → c ≠ 106 → q_kp σ1 k c j = σ c j := fun c j h0 h1 h2 h3 => by rw [kn c j h1 h2 h3, e9 c h0]
    refine ⟨q_rrow_cg r1 (fun c j a1 a2 => p c j (by omega)) (fun c j a1 a2 => t c j (by omega) (by omega) (by omega) (by omega)), ⟨?_, ?_⟩, q_rtape_cg r4 (p _ _ (by omega)) (fun j => p _ _ (by omega)) (t _ _ (by omega) (by omega) (by omega) (by omega)) (fun j => t _ _ (by omega) (by omega) (by omega) (by omega)), q_rtr_cg r5 (p _ _ (by omega)) (fun j => p _ _ (by omega)) (t _ _ (by omega) (by omega) (by omega) (by omega)) (fun j => t _ _ (by omega) (by omega) (by omega) (by omega)), q_rwood_cg r6 (fun c j a1 a2 => p c j (by omega)) (fun j => t _ _ (by omega) (by omega) (by omega) (by omega)) (fun j => t _ _ (by omega) (by omega) (by omega) (by omega)) (t _ _ (by omega) (by omega) (by omega) (by omega)), fun q hq => ?_⟩
    · rw [p _ _ (by omega), t _ _ (by omega) (by omega) (by omega) (by omega)]; exact r2
    · rw [p _ _ (by omega), t _ _ (by omega) (by omega) (by omega) (by omega)]; exact r3
    · by_cases e : q = k
      · have w1 : q_W σ1 (42 + 17 * q) (σ 93) (σ 95) (σ 89 7) := by
          rw [e]
          exact q_W_take W (fun i j hv => f2 i j hv)
        have w2 := q_W_cgD (D' := q_kw (q_kp σ1 k) q) (O' := q_ko (q_kp σ1 k) q) w1 (fun i hi => by rw [k5 q hq i hi, if_pos e]) (fun i hi => by rw [k6 q hq i hi, if_pos e])
        have e7 : q_kp σ1 k 104 q = σ 89 7 := by
          unfold q_kp
          rw [if_neg (by omega), if_neg (by omega), if_pos ⟨rfl, e⟩]
          omega
        rw [e7]
        exact w2
      · have w1 : q_W σ1 (42 + 17 * q) (q_kw σ q) (q_ko σ q) (σ 104 q) := q_W_cg (r7 q hq) (fun c j a1 a2 => f1 c j (by omega))
        have w2 := q_W_cgD (D' := q_kw (q_kp σ1 k) q) (O' := q_ko (q_kp σ1 k) q) w1 (fun i hi => by rw [k5 q hq i hi, if_neg e]) (fun i hi => by rw [k6 q hq i hi, if_neg e])
        have e7 : q_kp σ1 k 104 q = σ 104 q := by
          unfold q_kp
          rw [if_neg (by omega), if_neg (by omega), if_neg (by omega), e9 104 (by omega)]
        rw [e7]
        exact w2
  have fin := h σ1 e9 r2
  simp only [q_gImage, if_neg c2, e9 89 (by omega), if_neg c1] at fin
  exact fin
theorem dX9_image_0 : decode cX9_image 0 = .ok (.iload_n 1, 1) := by decide +kernel
theorem dX9_image_1 : decode cX9_image 1 = .ok (.ifCond .lt 8, 3) := by decide +kernel
theorem dX9_image_4 : decode cX9_image 4 = .ok (.iload_n 1, 1) := by decide +kernel
theorem dX9_image_5 : decode cX9_image 5 = .ok (.iconst 1, 1) := by decide +kernel
theorem dX9_image_6 : decode cX9_image 6 = .ok (.if_icmp .le 6, 3) := by decide +kernel
theorem dX9_image_9 : decode cX9_image 9 = .ok (.ldc 75, 2) := by decide +kernel
theorem dX9_image_11 : decode cX9_image 11 = .ok (.ireturn, 1) := by decide +kernel
theorem dX9_image_12 : decode cX9_image 12 = .ok (.aload_n 0, 1) := by decide +kernel
theorem dX9_image_13 : decode cX9_image 13 = .ok (.getfield 26, 3) := by decide +kernel
theorem dX9_image_16 : decode cX9_image 16 = .ok (.getfield 141, 3) := by decide +kernel
theorem dX9_image_19 : decode cX9_image 19 = .ok (.ifCond .ne 6, 3) := by decide +kernel
theorem dX9_image_22 : decode cX9_image 22 = .ok (.ldc 144, 2) := by decide +kernel
theorem dX9_image_24 : decode cX9_image 24 = .ok (.ireturn, 1) := by decide +kernel
theorem dX9_image_25 : decode cX9_image 25 = .ok (.aload_n 0, 1) := by decide +kernel
theorem dX9_image_26 : decode cX9_image 26 = .ok (.iload_n 1, 1) := by decide +kernel
theorem dX9_image_27 : decode cX9_image 27 = .ok (.invokevirtual 263, 3) := by decide +kernel
theorem dX9_image_30 : decode cX9_image 30 = .ok (.aload_n 0, 1) := by decide +kernel
theorem dX9_image_31 : decode cX9_image 31 = .ok (.getfield 26, 3) := by decide +kernel
theorem dX9_image_34 : decode cX9_image 34 = .ok (.invokevirtual 129, 3) := by decide +kernel
theorem dX9_image_37 : decode cX9_image 37 = .ok (.iconst 1, 1) := by decide +kernel
theorem dX9_image_38 : decode cX9_image 38 = .ok (.ireturn, 1) := by decide +kernel
set_option maxRecDepth 100000 in
theorem rX9_image_0 {p : Program} {l : Launch} {e : Env} {s : State} {m : MethodId} {args : Array Value} {below : List Frame} {meth : Method} {c : Code} {D : va_G} {cA : Nat → ClassId} {ad : Nat → Nat} {Ret : zR} (C : z_Cx p { frames := 3, cells := 0, slots := 0, locals := 68 } s m args c cX9_image yX9_image.cls 2 D cA ad) (hr : meth.sig.returnType = (some .int)) (hlocks : meth.locks = false) : ∀ L st σ, tX9_image_0 (z_X p l e { frames := 3, cells := 0, slots := 0, locals := 68 } s m args below meth c (MQ below (z_Qc D cA ad Ret) args s 0 0 (z_A ad)) 2 D cA ad true) Ret L st σ → z_X p l e { frames := 3, cells := 0, slots := 0, locals := 68 } s m args below meth c (MQ below (z_Qc D cA ad Ret) args s 0 0 (z_A ad)) 2 D cA ad true 0 L st σ := (s_iload_n C dX9_image_0 rfl (s_iflt C dX9_image_1 (by decide) (s_ldc C dX9_image_9 (v := -1000001) wd_404 ⟨by decide, by decide⟩ (s_iret C dX9_image_11 hr hlocks)) (s_iload_n C dX9_image_4 rfl (s_iconst C dX9_image_5 rfl ⟨by decide, by decide⟩ (s_icle C dX9_image_6 (by decide) (s_aload_n C dX9_image_12 rfl (s_getr C dX9_image_13 (j := 2) cls_X9 (by decide) rfl (by decide) (by decide) (by decide +kernel) wd_359 (s_geti C dX9_image_16 cls_X8 (by decide) rfl wd_274 (s_ifne C dX9_image_19 (by decide) (s_aload_n C dX9_image_25 rfl (s_iload_n C dX9_image_26 rfl (s_cv1 C dX9_image_27 (okX9_imageAt l) cls_X9 wd_862 wd_864 wd_22 wd_75 wd_865 ⟨by decide, by decide, by decide +kernel⟩ ⟨by decide, by decide⟩ (s_aload_n C dX9_image_30 rfl (s_getr C dX9_image_31 (j := 2) cls_X9 (by decide) rfl (by decide) (by decide) (by decide +kernel) wd_359 (s_cv1 C dX9_image_34 (okX8_takeOver l) cls_X8 wd_606 wd_607 wd_608 wd_78 wd_609 ⟨by decide, by decide, by decide +kernel⟩ ⟨by decide, by decide⟩ (s_iconst C dX9_image_37 rfl ⟨by decide, by decide⟩ (s_iret C dX9_image_38 hr hlocks)))))))) (s_ldc C dX9_image_22 (v := -1000002) wd_630 ⟨by decide, by decide⟩ (s_iret C dX9_image_24 hr hlocks)))))) (s_ldc C dX9_image_9 (v := -1000001) wd_404 ⟨by decide, by decide⟩ (s_iret C dX9_image_11 hr hlocks)))))))
theorem okX9_image (l : Launch) : z_OK l yX9_image cX9_image 2 (some .int) 3 68 SX9_image := by
  refine z_ok_of true (by decide +kernel) ?_ ?_
  · intro as σ Ret h
    obtain ⟨k0, x1, rfl⟩ := pX9_image h
    exact ⟨Nat.le_of_ble_eq_true rfl, by simp⟩
  · intro p e s m args below meth c D cA ad Ret C hr hlocks as σ has hσ h
    obtain ⟨k0, x1, rfl⟩ := pX9_image h
    exact vX9_image (rX9_image_0 C hr hlocks) k0 x1 σ (has _ (List.mem_of_getElem? (i := 0) rfl)) (has _ (List.mem_of_getElem? (i := 1) rfl)) hσ h
