/-! the whole wood off the tape -/
theorem q_pa_s {b : Nat → Int} {T s p : Nat} {D : Nat → Int} : (q_pa b T s p D).1 ≤ 3 ∧ ((q_pa b T s p D).1 < 3 → (q_pa b T s p D).2.2.2 2 = D 2 ∧ s < 3) := by
  have n : ∀ a c : Nat, ¬ 2 = 6 + 6 * a + c := fun a c => by omega
  have n2 : ∀ a c : Nat, ¬ 2 = 78 + 3 * a + c := fun a c => by omega
  unfold q_pa
  split
  · rename_i g
    have hs : s < 3 := by omega
    split
    · exact ⟨by show 1 ≤ 3; omega, fun _ => ⟨rfl, hs⟩⟩
    · refine ⟨by show 1 ≤ 3; omega, fun _ => ⟨?_, hs⟩⟩
      simp only [q_dT, q_d1]
      simp (disch := omega) only [if_neg]
  · split
    · rename_i g
      have hs : s < 3 := by omega
      split
      · exact ⟨by show 2 ≤ 3; omega, fun _ => ⟨rfl, hs⟩⟩
      · refine ⟨by show 2 ≤ 3; omega, fun _ => ⟨?_, hs⟩⟩
        simp only [q_dW, q_d1]
        simp (disch := omega) only [if_neg]
    · split
      · exact ⟨Nat.le_refl _, fun e => absurd e (by show ¬ 3 < 3; omega)⟩
      · exact ⟨Nat.le_refl _, fun e => absurd e (by show ¬ 3 < 3; omega)⟩
def q_D0 : Nat → Int := fun _ => 0
def q_wr (b : Nat → Int) (T : Nat) : Nat × Int × (Nat → Int) := q_wo b T 0 0 q_D0
def SX4_readWood : zS := fun as σ Ret => match as with
  | [.inr (.inr (4, 0, k)), .inr (.inr (8, 0, w))] => (0 ≤ σ k 1 ∧ σ k 1 ≤ 400) ∧ ∀ σ' : zM, q_fw k w σ σ' → q_rs σ' k (q_by (σ (k + 1)) (σ k 1).toNat) (σ k 1).toNat (q_wr (q_by (σ (k + 1)) (σ k 1).toNat) (σ k 1).toNat).1 (q_wr (q_by (σ (k + 1)) (σ k 1).toNat) (σ k 1).toNat).2.1 → q_dr σ' w (q_wr (q_by (σ (k + 1)) (σ k 1).toNat) (σ k 1).toNat).2.2 → Ret none σ'
  | _ => False
def tX4_readWood_0 (X : Nat → zB) (Ret : zR) (L : zL) (st : List zV) (σ : zM) : Prop := (z_aload 1 (z_cv0 8 SX8_beginAnew (z_aload 0 (z_cv0 4 SX4_begin (z_push 0 (z_istore 2 (z_push 0 (z_istore 3 (X 12))))))))) L st σ
def tX4_readWood_12 (X : Nat → zB) (Ret : zR) (L : zL) (st : List zV) (σ : zM) : Prop := (z_iload 3 (z_ifeq (X 30) (z_iload 3 (z_push 400 (z_icge (z_vret Ret) (z_aload 0 (z_cv0 4 SX4_isMore (z_ifeq (z_vret Ret) (X 30))))))))) L st σ
def tX4_readWood_30 (X : Nat → zB) (Ret : zR) (L : zL) (st : List zV) (σ : zM) : Prop := (z_aload 0 (z_aload 1 (z_iload 2 (z_cv2 4 SX4_readPart (z_istore 2 (z_iinc 3 1 (z_goto (X 12)))))))) L st σ
theorem pX4_readWood {as : List zV} {σ : zM} {Ret : zR} (h : SX4_readWood as σ Ret) : ∃ (k0 : Nat) (k1 : Nat), as = [.inr (.inr (4, 0, k0)), .inr (.inr (8, 0, k1))] := by
  unfold SX4_readWood at h
  split at h
  · exact ⟨_, _, rfl⟩
  · exact h.elim
set_option maxRecDepth 10000 in
set_option maxHeartbeats 4000000 in
theorem vX4_readWood {X : Nat → zB} {Ret : zR} (h0 : ∀ L st σ, tX4_readWood_0 X Ret L st σ → X 0 L st σ) (h12 : ∀ L st σ, tX4_readWood_12 X Ret L st σ → X 12 L st σ) (h30 : ∀ L st σ, tX4_readWood_30 X Ret L st σ → X 30 L st σ) (k0 : Nat) (k1 : Nat) (σ : zM) (hk0 : z_kd k0 = (4, 0)) (hk1 : z_kd k1 = (8, 0)) (hσ : z_okm σ) (h : SX4_readWood [.inr (.inr (4, 0, k0)), .inr (.inr (8, 0, k1))] σ Ret) : X 0 [some (.inr (.inr (4, 0, k0))), some (.inr (.inr (8, 0, k1))), none, none] [] σ := by
  obtain ⟨⟨c0, c1⟩, h⟩ := h
  have ek := z_kd4 hk0
  have ew := z_kd8 hk1
  obtain ⟨T, hT⟩ := z_nat c0
  rw [hT] at h
  simp only [Int.toNat_natCast] at h
  generalize hb : q_by (σ (k0 + 1)) T = b at h
  generalize hr : q_wr b T = r at h
  have hT4 : T ≤ 400 := by omega
  have L30 : ∀ (d i s p : Nat) (D : Nat → Int) (σ1 : zM), T - p < d → i ≤ p → p ≤ T → s ≤ 3 → (s < 3 → D 2 = 0) → q_fw k0 k1 σ σ1 → q_rs σ1 k0 b T p 0 → q_dr σ1 k1 D → q_wo b T s p D = r → X 30 [some (.inr (.inr (4, 0, k0))), some (.inr (.inr (8, 0, k1))), some (.inl (s : Int)), some (.inl (i : Int))] [] σ1 := by
    intro d
    induction d with
    | zero => intro i s p D σ1 hd; omega
    | succ d ih =>
      intro i s p D σ1 hd hi hp hs h2 fw rs dr hq
      have gs := q_pa_s (b := b) (T := T) (s := s) (p := p) (D := D)
      have gi := q_pa_in (b := b) (T := T) (s := s) (p := p) (D := D) hp
      refine h30 _ _ _ ?_
      simp only [z_push, z_lpush, z_iload, z_lload, z_aload, z_istore, z_istoreP, z_lstore, z_astore, z_iinc, z_iincP, z_iadd, z_isub, z_imul, z_iaddW, z_isubW, z_imulW, z_idiv, z_irem, z_iand, z_ior, z_ixor, z_ishl, z_ishr, z_iushr, z_ineg, z_i2l, z_i2b, z_i2s, z_i2c, z_l2i, z_ladd, z_lsub, z_land, z_lor, z_lshl, z_lshr, z_lcmp, z_dup, z_pop, z_dup2, z_goto, z_tsw, z_cases, z_geti, z_getr, z_puti, z_putz, z_ald, z_iast, z_bast, z_zast, z_alen, z_acopy, z_mmax, z_mmin, z_mabs, z_mabsL, z_iret, z_zret, z_nret, z_lret, z_aret, z_vret, z_cat, z_xald, z_xlen, z_ldcs, z_strv, z_strc, z_gcs, z_gfm, z_sln, z_sald, z_ifeq, z_ifne, z_iflt, z_ifge, z_ifgt, z_ifle, z_iceq, z_icne, z_iclt, z_icge, z_icgt, z_icle, z_cs0, z_cs1, z_cs2, z_cs3, z_cs4, z_cs5, z_cs6, z_cs7, z_cv0, z_cv1, z_cv2, z_cv3, z_cv4, z_cv5, z_cv6, z_cv7, z_g0, z_s0, z_g1, z_s1, z_g2, z_s2, z_g3, z_s3, z_g4, z_s4, z_g5, z_s5, z_g6, z_s6, z_g7, z_s7, z_g8, z_s8, z_g9, z_s9, z_g10, z_s10, z_g11, z_s11, z_g12, z_s12, z_g13, z_s13, z_b0, z_b1, z_b0n, z_b1n, z_up_far1, z_up_far2, z_up_far3, z_up_far4, z_up_far5, z_up_far6, Classical.not_not, not_true_eq_false, z_in, z_inL, Int.cast_ofNat_Int, Nat.reduceLeDiff, List.length_cons, List.length_nil, Nat.reduceAdd, Nat.zero_add, Nat.le_refl, true_and, and_true, List.length, Nat.reduceLT, true_or, or_true, false_or, or_false, false_and, and_false, not_true_eq_false, not_false_eq_true, forall_const, false_implies, true_implies, Int.reduceEq, Int.reduceLT, Int.reduceLE, Int.reduceAdd, Int.reduceSub, Int.reduceMul, Int.reduceNeg, Int.reduceToNat, Int.toNat_natCast, ↓reduceIte, reduceIte, Nat.reduceEqDiff, Nat.reduceSub, Nat.reduceMul, ne_eq, Int.zero_add, Int.add_zero, Int.sub_zero, Nat.add_zero, Int.ofNat_eq_natCast, tX4_readWood_30, SX4_readPart]
      refine ⟨b, T, p, D, ⟨rs, dr, ⟨by omega, by omega⟩, fun e => by have := h2 (by omega); omega⟩, fun σ2 f2 g2 d2 => ?_⟩
      have r6 := g2.2.2.2.2.2
      have a3 := g2.2.2.2.1.2.2.1
      by_cases hc : (q_pa b T s p D).2.2.1 = 0 ∧ ¬ q_tk b T (q_pa b T s p D).2.1 = 0
      · rw [q_wo_go hp hc.1 hc.2] at hq
        have gi2 := gi.2 hc.1
        have g4 := q_te_gt gi.1 hc.2
        have g2' := g2
        rw [hc.1] at g2'
        have nx := ih (i + 1) (q_pa b T s p D).1 (q_pa b T s p D).2.1 (q_pa b T s p D).2.2.2 σ2 (by omega) (by omega) gi.1 gs.1 (fun e => by rw [(gs.2 e).1]; exact h2 (gs.2 e).2) (fw.tr f2) g2' d2 hq
        refine ⟨by omega, ?_⟩
        refine h12 _ _ _ ?_
        simp only [z_push, z_lpush, z_iload, z_lload, z_aload, z_istore, z_istoreP, z_lstore, z_astore, z_iinc, z_iincP, z_iadd, z_isub, z_imul, z_iaddW, z_isubW, z_imulW, z_idiv, z_irem, z_iand, z_ior, z_ixor, z_ishl, z_ishr, z_iushr, z_ineg, z_i2l, z_i2b, z_i2s, z_i2c, z_l2i, z_ladd, z_lsub, z_land, z_lor, z_lshl, z_lshr, z_lcmp, z_dup, z_pop, z_dup2, z_goto, z_tsw, z_cases, z_geti, z_getr, z_puti, z_putz, z_ald, z_iast, z_bast, z_zast, z_alen, z_acopy, z_mmax, z_mmin, z_mabs, z_mabsL, z_iret, z_zret, z_nret, z_lret, z_aret, z_vret, z_cat, z_xald, z_xlen, z_ldcs, z_strv, z_strc, z_gcs, z_gfm, z_sln, z_sald, z_ifeq, z_ifne, z_iflt, z_ifge, z_ifgt, z_ifle, z_iceq, z_icne, z_iclt, z_icge, z_icgt, z_icle, z_cs0, z_cs1, z_cs2, z_cs3, z_cs4, z_cs5, z_cs6, z_cs7, z_cv0, z_cv1, z_cv2, z_cv3, z_cv4, z_cv5, z_cv6, z_cv7, z_g0, z_s0, z_g1, z_s1, z_g2, z_s2, z_g3, z_s3, z_g4, z_s4, z_g5, z_s5, z_g6, z_s6, z_g7, z_s7, z_g8, z_s8, z_g9, z_s9, z_g10, z_s10, z_g11, z_s11, z_g12, z_s12, z_g13, z_s13, z_b0, z_b1, z_b0n, z_b1n, z_up_far1, z_up_far2, z_up_far3, z_up_far4, z_up_far5, z_up_far6, Classical.not_not, not_true_eq_false, z_in, z_inL, Int.cast_ofNat_Int, Nat.reduceLeDiff, List.length_cons, List.length_nil, Nat.reduceAdd, Nat.zero_add, Nat.le_refl, true_and, and_true, List.length, Nat.reduceLT, true_or, or_true, false_or, or_false, false_and, and_false, not_true_eq_false, not_false_eq_true, forall_const, false_implies, true_implies, Int.reduceEq, Int.reduceLT, Int.reduceLE, Int.reduceAdd, Int.reduceSub, Int.reduceMul, Int.reduceNeg, Int.reduceToNat, Int.toNat_natCast, ↓reduceIte, reduceIte, Nat.reduceEqDiff, Nat.reduceSub, Nat.reduceMul, ne_eq, Int.zero_add, Int.add_zero, Int.sub_zero, Nat.add_zero, Int.ofNat_eq_natCast, tX4_readWood_12, SX4_isMore, r6, a3, hc.1, hc.2]
        exact ⟨fun e => by omega, fun e => ⟨fun e2 => by omega, fun e2 => nx⟩⟩
      · rw [q_wo_end hc] at hq
        subst hq
        have fin := h σ2 (fw.tr f2) g2 d2
        refine ⟨by omega, ?_⟩
        refine h12 _ _ _ ?_
        by_cases e3 : (q_pa b T s p D).2.2.1 = 0
        · have e4 : q_tk b T (q_pa b T s p D).2.1 = 0 := by
            by_cases q : q_tk b T (q_pa b T s p D).2.1 = 0
            · exact q
            · exact absurd ⟨e3, q⟩ hc
          simp only [z_push, z_lpush, z_iload, z_lload, z_aload, z_istore, z_istoreP, z_lstore, z_astore, z_iinc, z_iincP, z_iadd, z_isub, z_imul, z_iaddW, z_isubW, z_imulW, z_idiv, z_irem, z_iand, z_ior, z_ixor, z_ishl, z_ishr, z_iushr, z_ineg, z_i2l, z_i2b, z_i2s, z_i2c, z_l2i, z_ladd, z_lsub, z_land, z_lor, z_lshl, z_lshr, z_lcmp, z_dup, z_pop, z_dup2, z_goto, z_tsw, z_cases, z_geti, z_getr, z_puti, z_putz, z_ald, z_iast, z_bast, z_zast, z_alen, z_acopy, z_mmax, z_mmin, z_mabs, z_mabsL, z_iret, z_zret, z_nret, z_lret, z_aret, z_vret, z_cat, z_xald, z_xlen, z_ldcs, z_strv, z_strc, z_gcs, z_gfm, z_sln, z_sald, z_ifeq, z_ifne, z_iflt, z_ifge, z_ifgt, z_ifle, z_iceq, z_icne, z_iclt, z_icge, z_icgt, z_icle, z_cs0, z_cs1, z_cs2, z_cs3, z_cs4, z_cs5, z_cs6, z_cs7, z_cv0, z_cv1, z_cv2, z_cv3, z_cv4, z_cv5, z_cv6, z_cv7, z_g0, z_s0, z_g1, z_s1, z_g2, z_s2, z_g3, z_s3, z_g4, z_s4, z_g5, z_s5, z_g6, z_s6, z_g7, z_s7, z_g8, z_s8, z_g9, z_s9, z_g10, z_s10, z_g11, z_s11, z_g12, z_s12, z_g13, z_s13, z_b0, z_b1, z_b0n, z_b1n, z_up_far1, z_up_far2, z_up_far3, z_up_far4, z_up_far5, z_up_far6, Classical.not_not, not_true_eq_false, z_in, z_inL, Int.cast_ofNat_Int, Nat.reduceLeDiff, List.length_cons, List.length_nil, Nat.reduceAdd, Nat.zero_add, Nat.le_refl, true_and, and_true, List.length, Nat.reduceLT, true_or, or_true, false_or, or_false, false_and, and_false, not_true_eq_false, not_false_eq_true, forall_const, false_implies, true_implies, Int.reduceEq, Int.reduceLT, Int.reduceLE, Int.reduceAdd, Int.reduceSub, Int.reduceMul, Int.reduceNeg, Int.reduceToNat, Int.toNat_natCast, ↓reduceIte, reduceIte, Nat.reduceEqDiff, Nat.reduceSub, Nat.reduceMul, ne_eq, Int.zero_add, Int.add_zero, Int.sub_zero, Nat.add_zero, Int.ofNat_eq_natCast, tX4_readWood_12, SX4_isMore, r6, a3, e3, e4]
          exact ⟨fun e => by omega, fun _ => ⟨fun _ => fin, fun _ => fin⟩⟩
        · simp only [z_push, z_lpush, z_iload, z_lload, z_aload, z_istore, z_istoreP, z_lstore, z_astore, z_iinc, z_iincP, z_iadd, z_isub, z_imul, z_iaddW, z_isubW, z_imulW, z_idiv, z_irem, z_iand, z_ior, z_ixor, z_ishl, z_ishr, z_iushr, z_ineg, z_i2l, z_i2b, z_i2s, z_i2c, z_l2i, z_ladd, z_lsub, z_land, z_lor, z_lshl, z_lshr, z_lcmp, z_dup, z_pop, z_dup2, z_goto, z_tsw, z_cases, z_geti, z_getr, z_puti, z_putz, z_ald, z_iast, z_bast, z_zast, z_alen, z_acopy, z_mmax, z_mmin, z_mabs, z_mabsL, z_iret, z_zret, z_nret, z_lret, z_aret, z_vret, z_cat, z_xald, z_xlen, z_ldcs, z_strv, z_strc, z_gcs, z_gfm, z_sln, z_sald, z_ifeq, z_ifne, z_iflt, z_ifge, z_ifgt, z_ifle, z_iceq, z_icne, z_iclt, z_icge, z_icgt, z_icle, z_cs0, z_cs1, z_cs2, z_cs3, z_cs4, z_cs5, z_cs6, z_cs7, z_cv0, z_cv1, z_cv2, z_cv3, z_cv4, z_cv5, z_cv6, z_cv7, z_g0, z_s0, z_g1, z_s1, z_g2, z_s2, z_g3, z_s3, z_g4, z_s4, z_g5, z_s5, z_g6, z_s6, z_g7, z_s7, z_g8, z_s8, z_g9, z_s9, z_g10, z_s10, z_g11, z_s11, z_g12, z_s12, z_g13, z_s13, z_b0, z_b1, z_b0n, z_b1n, z_up_far1, z_up_far2, z_up_far3, z_up_far4, z_up_far5, z_up_far6, Classical.not_not, not_true_eq_false, z_in, z_inL, Int.cast_ofNat_Int, Nat.reduceLeDiff, List.length_cons, List.length_nil, Nat.reduceAdd, Nat.zero_add, Nat.le_refl, true_and, and_true, List.length, Nat.reduceLT, true_or, or_true, false_or, or_false, false_and, and_false, not_true_eq_false, not_false_eq_true, forall_const, false_implies, true_implies, Int.reduceEq, Int.reduceLT, Int.reduceLE, Int.reduceAdd, Int.reduceSub, Int.reduceMul, Int.reduceNeg, Int.reduceToNat, Int.toNat_natCast, ↓reduceIte, reduceIte, Nat.reduceEqDiff, Nat.reduceSub, Nat.reduceMul, ne_eq, Int.zero_add, Int.add_zero, Int.sub_zero, Nat.add_zero, Int.ofNat_eq_natCast, tX4_readWood_12, SX4_isMore, r6, a3, e3]
          exact ⟨fun e => by omega, fun _ => ⟨fun _ => fin, fun _ => fin⟩⟩
  let σ0 : zM := z_up (z_up (z_up (z_up (z_up (z_up (z_up σ (k1 + 1) 6 0) (k1 + 8) 3 0) (k1 + 12) 3 0) k1 4 0) k1 5 0) k1 6 0) k1 7 1
  have hne : ∀ c j, ¬ (k1 ≤ c ∧ c ≤ k1 + 16) → σ0 c j = σ c j := by
    intro c j e
    show z_up _ _ _ _ c j = _
    repeat rw [z_up_ne (by omega)]
  have d0 : q_dr σ0 k1 q_D0 := by
    have n7 : σ0 k1 7 = 1 := by show z_up _ _ _ _ _ _ = _; rw [z_up_eq]
    refine ⟨⟨⟨⟨?_, by show (0 : Int) ≤ 0 ∧ (0 : Int) ≤ 12; omega⟩, ⟨?_, by show (0 : Int) ≤ 0 ∧ (0 : Int) ≤ 6; omega⟩, ⟨?_, by show (0 : Int) ≤ 0 ∧ (0 : Int) ≤ 10; omega⟩, ?_, ?_, ?_, by show (0 : Int) ≤ 0 ∧ (0 : Int) ≤ 60; omega⟩, fun t f h1 => ?_, fun t f h1 => ?_, fun j h1 => ?_⟩, n7, ⟨rfl, rfl, rfl⟩, fun _ _ => ⟨rfl, rfl⟩⟩
    · show z_up _ _ _ _ _ _ = 0
      (simp only [z_up, z_cpy]; simp (disch := omega) only [if_neg, if_pos, Nat.sub_zero, Nat.zero_add, and_self, true_and, and_true, ↓reduceIte])
    · show z_up _ _ _ _ _ _ = 0
      (simp only [z_up, z_cpy]; simp (disch := omega) only [if_neg, if_pos, Nat.sub_zero, Nat.zero_add, and_self, true_and, and_true, ↓reduceIte])
    · show z_up _ _ _ _ _ _ = 0
      (simp only [z_up, z_cpy]; simp (disch := omega) only [if_neg, if_pos, Nat.sub_zero, Nat.zero_add, and_self, true_and, and_true, ↓reduceIte])
    · show z_up _ _ _ _ _ _ = 0
      (simp only [z_up, z_cpy]; simp (disch := omega) only [if_neg, if_pos, Nat.sub_zero, Nat.zero_add, and_self, true_and, and_true, ↓reduceIte])
    · show z_up _ _ _ _ _ _ = 0
      (simp only [z_up, z_cpy]; simp (disch := omega) only [if_neg, if_pos, Nat.sub_zero, Nat.zero_add, and_self, true_and, and_true, ↓reduceIte])
    · show z_up _ _ _ _ _ _ = 0
      (simp only [z_up, z_cpy]; simp (disch := omega) only [if_neg, if_pos, Nat.sub_zero, Nat.zero_add, and_self, true_and, and_true, ↓reduceIte])
    · exact absurd h1 (by show ¬ (t : Int) < 0; omega)
    · exact absurd h1 (by show ¬ (t : Int) < 0; omega)
    · exact absurd h1 (by show ¬ (j : Int) < 0; omega)
  have w0 : q_fw k0 k1 σ σ0 := fun c j _ e => hne c j e
  have e1 : σ0 k0 1 = (T : Int) := by rw [hne _ _ (by omega)]; exact hT
  have e2 : σ0 (k0 + 1) = σ (k0 + 1) := funext fun j => hne _ _ (by omega)
  refine h0 _ _ _ ?_
  simp only [z_push, z_lpush, z_iload, z_lload, z_aload, z_istore, z_istoreP, z_lstore, z_astore, z_iinc, z_iincP, z_iadd, z_isub, z_imul, z_iaddW, z_isubW, z_imulW, z_idiv, z_irem, z_iand, z_ior, z_ixor, z_ishl, z_ishr, z_iushr, z_ineg, z_i2l, z_i2b, z_i2s, z_i2c, z_l2i, z_ladd, z_lsub, z_land, z_lor, z_lshl, z_lshr, z_lcmp, z_dup, z_pop, z_dup2, z_goto, z_tsw, z_cases, z_geti, z_getr, z_puti, z_putz, z_ald, z_iast, z_bast, z_zast, z_alen, z_acopy, z_mmax, z_mmin, z_mabs, z_mabsL, z_iret, z_zret, z_nret, z_lret, z_aret, z_vret, z_cat, z_xald, z_xlen, z_ldcs, z_strv, z_strc, z_gcs, z_gfm, z_sln, z_sald, z_ifeq, z_ifne, z_iflt, z_ifge, z_ifgt, z_ifle, z_iceq, z_icne, z_iclt, z_icge, z_icgt, z_icle, z_cs0, z_cs1, z_cs2, z_cs3, z_cs4, z_cs5, z_cs6, z_cs7, z_cv0, z_cv1, z_cv2, z_cv3, z_cv4, z_cv5, z_cv6, z_cv7, z_g0, z_s0, z_g1, z_s1, z_g2, z_s2, z_g3, z_s3, z_g4, z_s4, z_g5, z_s5, z_g6, z_s6, z_g7, z_s7, z_g8, z_s8, z_g9, z_s9, z_g10, z_s10, z_g11, z_s11, z_g12, z_s12, z_g13, z_s13, z_b0, z_b1, z_b0n, z_b1n, z_up_far1, z_up_far2, z_up_far3, z_up_far4, z_up_far5, z_up_far6, Classical.not_not, not_true_eq_false, z_in, z_inL, Int.cast_ofNat_Int, Nat.reduceLeDiff, List.length_cons, List.length_nil, Nat.reduceAdd, Nat.zero_add, Nat.le_refl, true_and, and_true, List.length, Nat.reduceLT, true_or, or_true, false_or, or_false, false_and, and_false, not_true_eq_false, not_false_eq_true, forall_const, false_implies, true_implies, Int.reduceEq, Int.reduceLT, Int.reduceLE, Int.reduceAdd, Int.reduceSub, Int.reduceMul, Int.reduceNeg, Int.reduceToNat, Int.toNat_natCast, ↓reduceIte, reduceIte, Nat.reduceEqDiff, Nat.reduceSub, Nat.reduceMul, ne_eq, Int.zero_add, Int.add_zero, Int.sub_zero, Nat.add_zero, Int.ofNat_eq_natCast, tX4_readWood_0, SX8_beginAnew, SX4_begin]
  show (0 ≤ σ0 k0 1 ∧ σ0 k0 1 ≤ 400) ∧ ∀ σ' : zM, q_fr k0 σ0 σ' → q_rs σ' k0 (q_by (σ0 (k0 + 1)) (σ0 k0 1).toNat) (σ0 k0 1).toNat 0 0 → X 12 [some (.inr (.inr (4, 0, k0))), some (.inr (.inr (8, 0, k1))), some (.inl 0), some (.inl 0)] [] σ'
  rw [e1, e2, Int.toNat_natCast, hb]
  refine ⟨by omega, fun σ1 f1 g1 => ?_⟩
  have nx := L30 (T + 1) 0 0 0 q_D0 σ1 (by omega) (Nat.le_refl _) (Nat.zero_le _) (by omega) (fun _ => rfl) (w0.tr f1.fw) g1 (d0.fr (fun c j e1 e2 => f1 c j (by omega))) hr
  refine h12 _ _ _ ?_
  simp only [z_push, z_lpush, z_iload, z_lload, z_aload, z_istore, z_istoreP, z_lstore, z_astore, z_iinc, z_iincP, z_iadd, z_isub, z_imul, z_iaddW, z_isubW, z_imulW, z_idiv, z_irem, z_iand, z_ior, z_ixor, z_ishl, z_ishr, z_iushr, z_ineg, z_i2l, z_i2b, z_i2s, z_i2c, z_l2i, z_ladd, z_lsub, z_land, z_lor, z_lshl, z_lshr, z_lcmp, z_dup, z_pop, z_dup2, z_goto, z_tsw, z_cases, z_geti, z_getr, z_puti, z_putz, z_ald, z_iast, z_bast, z_zast, z_alen, z_acopy, z_mmax, z_mmin, z_mabs, z_mabsL, z_iret, z_zret, z_nret, z_lret, z_aret, z_vret, z_cat, z_xald, z_xlen, z_ldcs, z_strv, z_strc, z_gcs, z_gfm, z_sln, z_sald, z_ifeq, z_ifne, z_iflt, z_ifge, z_ifgt, z_ifle, z_iceq, z_icne, z_iclt, z_icge, z_icgt, z_icle, z_cs0, z_cs1, z_cs2, z_cs3, z_cs4, z_cs5, z_cs6, z_cs7, z_cv0, z_cv1, z_cv2, z_cv3, z_cv4, z_cv5, z_cv6, z_cv7, z_g0, z_s0, z_g1, z_s1, z_g2, z_s2, z_g3, z_s3, z_g4, z_s4, z_g5, z_s5, z_g6, z_s6, z_g7, z_s7, z_g8, z_s8, z_g9, z_s9, z_g10, z_s10, z_g11, z_s11, z_g12, z_s12, z_g13, z_s13, z_b0, z_b1, z_b0n, z_b1n, z_up_far1, z_up_far2, z_up_far3, z_up_far4, z_up_far5, z_up_far6, Classical.not_not, not_true_eq_false, z_in, z_inL, Int.cast_ofNat_Int, Nat.reduceLeDiff, List.length_cons, List.length_nil, Nat.reduceAdd, Nat.zero_add, Nat.le_refl, true_and, and_true, List.length, Nat.reduceLT, true_or, or_true, false_or, or_false, false_and, and_false, not_true_eq_false, not_false_eq_true, forall_const, false_implies, true_implies, Int.reduceEq, Int.reduceLT, Int.reduceLE, Int.reduceAdd, Int.reduceSub, Int.reduceMul, Int.reduceNeg, Int.reduceToNat, Int.toNat_natCast, ↓reduceIte, reduceIte, Nat.reduceEqDiff, Nat.reduceSub, Nat.reduceMul, ne_eq, Int.zero_add, Int.add_zero, Int.sub_zero, Nat.add_zero, Int.ofNat_eq_natCast, tX4_readWood_12]
  exact nx
theorem dX4_readWood_0 : decode cX4_readWood 0 = .ok (.aload_n 1, 1) := by decide +kernel
theorem dX4_readWood_1 : decode cX4_readWood 1 = .ok (.invokevirtual 19, 3) := by decide +kernel
theorem dX4_readWood_4 : decode cX4_readWood 4 = .ok (.aload_n 0, 1) := by decide +kernel
theorem dX4_readWood_5 : decode cX4_readWood 5 = .ok (.invokevirtual 24, 3) := by decide +kernel
theorem dX4_readWood_8 : decode cX4_readWood 8 = .ok (.iconst 0, 1) := by decide +kernel
theorem dX4_readWood_9 : decode cX4_readWood 9 = .ok (.istore_n 2, 1) := by decide +kernel
theorem dX4_readWood_10 : decode cX4_readWood 10 = .ok (.iconst 0, 1) := by decide +kernel
theorem dX4_readWood_11 : decode cX4_readWood 11 = .ok (.istore_n 3, 1) := by decide +kernel
theorem dX4_readWood_12 : decode cX4_readWood 12 = .ok (.iload_n 3, 1) := by decide +kernel
theorem dX4_readWood_13 : decode cX4_readWood 13 = .ok (.ifCond .eq 17, 3) := by decide +kernel
theorem dX4_readWood_16 : decode cX4_readWood 16 = .ok (.iload_n 3, 1) := by decide +kernel
theorem dX4_readWood_17 : decode cX4_readWood 17 = .ok (.sipush 400, 3) := by decide +kernel
theorem dX4_readWood_20 : decode cX4_readWood 20 = .ok (.if_icmp .ge 23, 3) := by decide +kernel
theorem dX4_readWood_23 : decode cX4_readWood 23 = .ok (.aload_n 0, 1) := by decide +kernel
theorem dX4_readWood_24 : decode cX4_readWood 24 = .ok (.invokevirtual 27, 3) := by decide +kernel
theorem dX4_readWood_27 : decode cX4_readWood 27 = .ok (.ifCond .eq 16, 3) := by decide +kernel
theorem dX4_readWood_30 : decode cX4_readWood 30 = .ok (.aload_n 0, 1) := by decide +kernel
theorem dX4_readWood_31 : decode cX4_readWood 31 = .ok (.aload_n 1, 1) := by decide +kernel
theorem dX4_readWood_32 : decode cX4_readWood 32 = .ok (.iload_n 2, 1) := by decide +kernel
theorem dX4_readWood_33 : decode cX4_readWood 33 = .ok (.invokevirtual 31, 3) := by decide +kernel
theorem dX4_readWood_36 : decode cX4_readWood 36 = .ok (.istore_n 2, 1) := by decide +kernel
theorem dX4_readWood_37 : decode cX4_readWood 37 = .ok (.iinc 3 1, 3) := by decide +kernel
theorem dX4_readWood_40 : decode cX4_readWood 40 = .ok (.goto (-28), 3) := by decide +kernel
theorem dX4_readWood_43 : decode cX4_readWood 43 = .ok (.return_, 1) := by decide +kernel
set_option maxRecDepth 100000 in
theorem rX4_readWood_0 {zx : zX} {zn : Nat} {p : Program} {l : Launch} {e : Env} {s : State} {m : MethodId} {args : Array Value} {below : List Frame} {meth : Method} {c : Code} {D : va_G} {cA : Nat → ClassId} {ad : Nat → Nat} {Ret : zR} (C : z_Cx zx zn (z_A zn ad) 0 0 p { frames := 6, cells := 0, slots := 0, locals := 130 } s m args c cX4_readWood yX4_readWood.cls 4 D cA ad) (hr : meth.sig.returnType = none) (hlocks : meth.locks = false) : ∀ L st σ, tX4_readWood_0 (z_X zx zn (z_A zn ad) 0 0 p l e { frames := 6, cells := 0, slots := 0, locals := 130 } s m args below meth c (MQ below (z_Qc zn D cA ad Ret) args s 0 0 (z_A zn ad)) 4 D cA ad true) Ret L st σ → z_X zx zn (z_A zn ad) 0 0 p l e { frames := 6, cells := 0, slots := 0, locals := 130 } s m args below meth c (MQ below (z_Qc zn D cA ad Ret) args s 0 0 (z_A zn ad)) 4 D cA ad true 0 L st σ := (s_aload_n C dX4_readWood_0 rfl (s_cv0 C dX4_readWood_1 (okX8_beginAnew l) cls_X8 wd_596 wd_597 wd_598 wd_20 wd_599 ⟨by decide, by decide, by decide +kernel⟩ ⟨by decide, by decide⟩ (s_aload_n C dX4_readWood_4 rfl (s_cv0 C dX4_readWood_5 (okX4_begin l) cls_X4 wd_331 wd_333 wd_0 wd_18 wd_334 ⟨by decide, by decide, by decide +kernel⟩ ⟨by decide, by decide⟩ (s_iconst C dX4_readWood_8 rfl ⟨by decide, by decide⟩ (s_istore_n C dX4_readWood_9 (by decide) rfl rfl (s_iconst C dX4_readWood_10 rfl ⟨by decide, by decide⟩ (s_istore_n C dX4_readWood_11 (by decide) rfl rfl (fun _ _ _ h => h)))))))))
set_option maxRecDepth 100000 in
theorem rX4_readWood_12 {zx : zX} {zn : Nat} {p : Program} {l : Launch} {e : Env} {s : State} {m : MethodId} {args : Array Value} {below : List Frame} {meth : Method} {c : Code} {D : va_G} {cA : Nat → ClassId} {ad : Nat → Nat} {Ret : zR} (C : z_Cx zx zn (z_A zn ad) 0 0 p { frames := 6, cells := 0, slots := 0, locals := 130 } s m args c cX4_readWood yX4_readWood.cls 4 D cA ad) (hr : meth.sig.returnType = none) (hlocks : meth.locks = false) : ∀ L st σ, tX4_readWood_12 (z_X zx zn (z_A zn ad) 0 0 p l e { frames := 6, cells := 0, slots := 0, locals := 130 } s m args below meth c (MQ below (z_Qc zn D cA ad Ret) args s 0 0 (z_A zn ad)) 4 D cA ad true) Ret L st σ → z_X zx zn (z_A zn ad) 0 0 p l e { frames := 6, cells := 0, slots := 0, locals := 130 } s m args below meth c (MQ below (z_Qc zn D cA ad Ret) args s 0 0 (z_A zn ad)) 4 D cA ad true 12 L st σ := (s_iload_n C dX4_readWood_12 rfl (s_ifeq C dX4_readWood_13 (by decide) (fun _ _ _ h => h) (s_iload_n C dX4_readWood_16 rfl (s_sipush C dX4_readWood_17 rfl ⟨by decide, by decide⟩ (s_icge C dX4_readWood_20 (by decide) (s_vret C dX4_readWood_43 hr hlocks) (s_aload_n C dX4_readWood_23 rfl (s_cv0 C dX4_readWood_24 (okX4_isMore l) cls_X4 wd_352 wd_354 wd_3 wd_18 wd_355 ⟨by decide, by decide, by decide +kernel⟩ ⟨by decide, by decide⟩ (s_ifeq C dX4_readWood_27 (by decide) (s_vret C dX4_readWood_43 hr hlocks) (fun _ _ _ h => h)))))))))
set_option maxRecDepth 100000 in
theorem rX4_readWood_30 {zx : zX} {zn : Nat} {p : Program} {l : Launch} {e : Env} {s : State} {m : MethodId} {args : Array Value} {below : List Frame} {meth : Method} {c : Code} {D : va_G} {cA : Nat → ClassId} {ad : Nat → Nat} {Ret : zR} (C : z_Cx zx zn (z_A zn ad) 0 0 p { frames := 6, cells := 0, slots := 0, locals := 130 } s m args c cX4_readWood yX4_readWood.cls 4 D cA ad) (hr : meth.sig.returnType = none) (hlocks : meth.locks = false) : ∀ L st σ, tX4_readWood_30 (z_X zx zn (z_A zn ad) 0 0 p l e { frames := 6, cells := 0, slots := 0, locals := 130 } s m args below meth c (MQ below (z_Qc zn D cA ad Ret) args s 0 0 (z_A zn ad)) 4 D cA ad true) Ret L st σ → z_X zx zn (z_A zn ad) 0 0 p l e { frames := 6, cells := 0, slots := 0, locals := 130 } s m args below meth c (MQ below (z_Qc zn D cA ad Ret) args s 0 0 (z_A zn ad)) 4 D cA ad true 30 L st σ := (s_aload_n C dX4_readWood_30 rfl (s_aload_n C dX4_readWood_31 rfl (s_iload_n C dX4_readWood_32 rfl (s_cv2 C dX4_readWood_33 (okX4_readPart l) cls_X4 wd_600 wd_602 wd_12 wd_18 wd_603 ⟨by decide, by decide, by decide +kernel⟩ ⟨by decide, by decide⟩ (s_istore_n C dX4_readWood_36 (by decide) rfl rfl (s_iinc C dX4_readWood_37 (by decide) rfl (s_goto C dX4_readWood_40 (by decide) (fun _ _ _ h => h))))))))
theorem okX4_readWood {zx : zX} {zn : Nat} (l : Launch) : z_OK zx zn l yX4_readWood cX4_readWood 4 none 6 130 SX4_readWood := by
  refine z_ok_of true (by decide +kernel) ?_ ?_
  · intro as σ Ret h
    obtain ⟨k0, k1, rfl⟩ := pX4_readWood h
    exact ⟨Nat.le_of_ble_eq_true rfl, by simp⟩
  · intro p e s m args below meth c D cA ad Ret C hr hlocks as σ has hσ h
    obtain ⟨k0, k1, rfl⟩ := pX4_readWood h
    exact vX4_readWood (rX4_readWood_0 C hr hlocks) (rX4_readWood_12 C hr hlocks) (rX4_readWood_30 C hr hlocks) k0 k1 σ (has _ (List.mem_of_getElem? (i := 0) rfl)).1 (has _ (List.mem_of_getElem? (i := 1) rfl)).1 hσ h
