/-! orders off the model's tape -/
def q_fz (σ σ' : zM) : Prop := ∀ c j, ¬ (c = 89 ∧ (j = 10 ∨ 15 ≤ j ∧ j ≤ 20)) → c ≠ 96 → σ' c j = σ c j
theorem q_fx.fz {σ σ' : zM} (h : q_fx σ σ') : q_fz σ σ' := fun c j h1 _ => h c j (by omega)
theorem q_fz.tr {σ τ υ : zM} (h1 : q_fz σ τ) (h2 : q_fz τ υ) : q_fz σ υ := fun c j h g => (h2 c j h g).trans (h1 c j h g)
theorem q_96 {σ : zM} {E : Nat → Int} {i c : Nat} {v : Int} (h : ∀ j, j < c → σ 96 j = E j) : ∀ j, j < c ∨ j = i → z_up σ 96 i v 96 j = q_d1 E i v j := by
  intro j hj
  by_cases e : j = i
  · subst e; rw [z_up_eq, q_d1_eq]
  · rw [z_up_ne (by omega), q_d1_ne e]; exact h j (by omega)
def SX10_readOrder : zS := fun as σ Ret => match as with
  | [.inr (.inr (10, 0, _))] => ∃ (b : Nat → Int) (T p c : Nat) (E : Nat → Int), (q_ms σ b T p 0 ∧ ¬ q_ord b T p < 0 ∧ (σ 89 10 = (c : Int) ∧ c ≤ 12) ∧ (1 ≤ σ 93 0 ∧ σ 93 0 ≤ 12) ∧ ∀ j, j < 3 * c → σ 96 j = E j) ∧ ∀ (σ' : zM) (p' : Nat) (f' : Int), q_fz σ σ' → q_ms σ' b T p' f' → (c = 12 → p' = p ∧ f' = 3) → (c < 12 → p' = (q_o3 b T p (σ 93 0)).1 ∧ f' = (q_o3 b T p (σ 93 0)).2) → (f' = 0 → c < 12 ∧ σ' 89 10 = (c : Int) + 1 ∧ ∀ j, j < 3 * (c + 1) → σ' 96 j = q_dO c E (q_ord b T p) (q_o1 b T p (σ 93 0)).1 (q_o2 b T p (σ 93 0)).1 j) → Ret none σ'
  | _ => False
def tX10_readOrder_0 (X : Nat → zB) (Ret : zR) (L : zL) (st : List zV) (σ : zM) : Prop := (z_aload 0 (z_cv0 10 SX10_name (z_cs1 SX10_orderOf (z_istore 1 (z_aload 0 (z_geti 10 10 (z_push 12 (z_icne (X 22) (z_aload 0 (z_push 3 (z_cv1 10 SX10_bad (X 22)))))))))))) L st σ
def tX10_readOrder_22 (X : Nat → zB) (Ret : zR) (L : zL) (st : List zV) (σ : zM) : Prop := (z_aload 0 (z_push 1 (z_cv1 10 SX10_must (z_iload 1 (z_push 6 (z_icge (z_push 0 (X 50)) (z_aload 0 (z_push 0 (z_aload 0 (z_getr 10 4 100 106 (z_push 0 (z_ald 0 (z_push 1 (z_isub (z_cv2 10 SX10_number (z_goto (X 50))))))))))))))))) L st σ
def tX10_readOrder_50 (X : Nat → zB) (Ret : zR) (L : zL) (st : List zV) (σ : zM) : Prop := (z_istore 2 (z_iload 1 (z_ifeq (z_aload 0 (z_push 1 (z_push 89 (z_cv2 10 SX10_number (z_goto (X 86)))))) (z_iload 1 (z_push 1 (z_icne (z_iload 1 (z_push 2 (z_icne (z_push 0 (X 86)) (z_aload 0 (z_push 0 (z_push 7 (z_cv2 10 SX10_number (z_goto (X 86))))))))) (z_aload 0 (z_push 1 (z_push 89 (z_cv2 10 SX10_number (z_goto (X 86)))))))))))) L st σ
def tX10_readOrder_86 (X : Nat → zB) (Ret : zR) (L : zL) (st : List zV) (σ : zM) : Prop := (z_istore 3 (z_aload 0 (z_cv0 10 SX10_mustEnd (z_aload 0 (z_geti 10 19 (z_ifne (z_vret Ret) (z_aload 0 (z_getr 10 7 100 36 (z_push 3 (z_aload 0 (z_geti 10 10 (z_imul (z_iload 1 (z_iast (z_aload 0 (z_getr 10 7 100 36 (z_push 3 (z_aload 0 (z_geti 10 10 (z_imul (z_push 1 (z_iadd (z_iload 2 (z_iast (z_aload 0 (z_getr 10 7 100 36 (z_push 3 (z_aload 0 (z_geti 10 10 (z_imul (z_push 2 (z_iadd (z_iload 3 (z_iast (z_aload 0 (z_dup (z_geti 10 10 (z_push 1 (z_iadd (z_puti 10 10 (z_vret Ret))))))))))))))))))))))))))))))))))))))))) L st σ
theorem pX10_readOrder {as : List zV} {σ : zM} {Ret : zR} (h : SX10_readOrder as σ Ret) : ∃ (k0 : Nat), as = [.inr (.inr (10, 0, k0))] := by
  unfold SX10_readOrder at h
  split at h
  · exact ⟨_, rfl⟩
  · exact h.elim
set_option maxRecDepth 10000 in
set_option maxHeartbeats 4000000 in
theorem vX10_readOrder {X : Nat → zB} {Ret : zR} (h0 : ∀ L st σ, tX10_readOrder_0 X Ret L st σ → X 0 L st σ) (h22 : ∀ L st σ, tX10_readOrder_22 X Ret L st σ → X 22 L st σ) (h50 : ∀ L st σ, tX10_readOrder_50 X Ret L st σ → X 50 L st σ) (h86 : ∀ L st σ, tX10_readOrder_86 X Ret L st σ → X 86 L st σ) (k0 : Nat) (σ : zM) (hk0 : z_kd k0 = (10, 0)) (hσ : z_okm σ) (h : SX10_readOrder [.inr (.inr (10, 0, k0))] σ Ret) : X 0 [some (.inr (.inr (10, 0, k0))), none, none, none] [] σ := by
  obtain ⟨b, T, p, c, E, ⟨ms, ho, ⟨h10, c12⟩, hn, hE⟩, h⟩ := h
  obtain rfl := z_kd10 hk0
  have hp := ms.2.2.2.2.2.1
  have hb255 : ∀ i, i < T → 0 ≤ b i ∧ b i ≤ 255 := fun i hi => (ms.b255 hi).2
  have oo := q_oof_ord hb255 hp
  rw [if_neg ho] at oo
  have oi := q_ord_in (b := b) (T := T) (p := p)
  have m19 := ms.2.2.2.2.2.2.1
  generalize hO : q_ord b T p = o at ho oo oi h
  generalize hN : σ 93 0 = n at hn h
  -- behind the number
  have L86 : ∀ (tv wv : Int) (p2 : Nat) (f2 : Int) (σ1 : zM), q_fx σ σ1 → q_ms σ1 b T p2 f2 → (∀ σ2 : zM, q_fx σ σ2 → q_ms σ2 b T (q_ps b T p2 f2).1 (q_ps b T p2 f2).2 → (¬ (q_ps b T p2 f2).2 = 0 → Ret none σ2) ∧ ((q_ps b T p2 f2).2 = 0 → c < 12 ∧ Ret none (z_up (z_up (z_up (z_up σ2 96 (3 * c) o) 96 (3 * c + 1) tv) 96 (3 * c + 2) wv) 89 10 ((c : Int) + 1)))) → X 86 [some (.inr (.inr (10, 0, 89))), some (.inl o), some (.inl tv), none] [.inl wv] σ1 := by
    intro tv wv p2 f2 σ1 f1 ms1 C
    refine h86 _ _ _ ?_
    simp only [z_push, z_lpush, z_iload, z_lload, z_aload, z_istore, z_istoreP, z_lstore, z_astore, z_iinc, z_iincP, z_iadd, z_isub, z_imul, z_iaddW, z_isubW, z_imulW, z_idiv, z_irem, z_iand, z_ior, z_ixor, z_ishl, z_ishr, z_iushr, z_ineg, z_i2l, z_i2b, z_i2s, z_i2c, z_l2i, z_ladd, z_lsub, z_land, z_lor, z_lshl, z_lshr, z_lcmp, z_dup, z_pop, z_dup2, z_goto, z_tsw, z_cases, z_geti, z_getr, z_puti, z_putz, z_ald, z_iast, z_bast, z_zast, z_alen, z_acopy, z_mmax, z_mmin, z_mabs, z_mabsL, z_iret, z_zret, z_nret, z_lret, z_aret, z_vret, z_cat, z_ldcs, z_strv, z_strc, z_gcs, z_gfm, z_sln, z_sald, z_ifeq, z_ifne, z_iflt, z_ifge, z_ifgt, z_ifle, z_iceq, z_icne, z_iclt, z_icge, z_icgt, z_icle, z_cs0, z_cs1, z_cs2, z_cs3, z_cs4, z_cs5, z_cs6, z_cs7, z_cv0, z_cv1, z_cv2, z_cv3, z_cv4, z_cv5, z_cv6, z_cv7, z_g0, z_s0, z_g1, z_s1, z_g2, z_s2, z_g3, z_s3, z_g4, z_s4, z_g5, z_s5, z_g6, z_s6, z_g7, z_s7, z_g8, z_s8, z_g9, z_s9, z_g10, z_s10, z_g11, z_s11, z_g12, z_s12, z_g13, z_s13, z_b0, z_b1, z_b0n, z_b1n, z_up_far1, z_up_far2, z_up_far3, z_up_far4, z_up_far5, z_up_far6, Classical.not_not, not_true_eq_false, z_in, z_inL, Int.cast_ofNat_Int, Nat.reduceLeDiff, List.length_cons, List.length_nil, Nat.reduceAdd, Nat.zero_add, Nat.le_refl, true_and, and_true, List.length, Nat.reduceLT, true_or, or_true, false_or, or_false, false_and, and_false, not_true_eq_false, not_false_eq_true, forall_const, false_implies, true_implies, Int.reduceEq, Int.reduceLT, Int.reduceLE, Int.reduceAdd, Int.reduceSub, Int.reduceMul, Int.reduceNeg, Int.reduceToNat, Int.toNat_natCast, ↓reduceIte, reduceIte, Nat.reduceEqDiff, Nat.reduceSub, Nat.reduceMul, ne_eq, Int.zero_add, Int.add_zero, Int.sub_zero, Nat.add_zero, Int.ofNat_eq_natCast, tX10_readOrder_86, SX10_mustEnd]
    refine ⟨b, T, p2, f2, ms1, fun σ2 g2 ms2 => ?_⟩
    have m19 := ms2.2.2.2.2.2.2.1
    obtain ⟨C1, C2⟩ := C σ2 (f1.tr g2) ms2
    have e10 : σ2 89 10 = (c : Int) := by rw [(f1.tr g2) 89 10 (by omega)]; exact h10
    have t0 : (3 * (c : Int)).toNat = 3 * c := by omega
    have t1 : (3 * (c : Int) + 1).toNat = 3 * c + 1 := by omega
    have t2 : (3 * (c : Int) + 2).toNat = 3 * c + 2 := by omega
    have r1 : ∀ i v, z_up σ2 96 i v 89 10 = (c : Int) := fun i v => by rw [z_up_ne (by omega)]; exact e10
    have r2 : ∀ i v j w, z_up (z_up σ2 96 i v) 96 j w 89 10 = (c : Int) := fun i v j w => by rw [z_up_ne (by omega)]; exact r1 i v
    have r3 : ∀ i v j w k u, z_up (z_up (z_up σ2 96 i v) 96 j w) 96 k u 89 10 = (c : Int) := fun i v j w k u => by rw [z_up_ne (by omega)]; exact r2 i v j w
    rw [m19]
    simp only [e10, t0, r1, t1, r2, t2, r3]
    refine fun _ => ⟨fun q => C1 q, fun q => ?_⟩
    obtain ⟨C3, C4⟩ := C2 q
    repeat' (first | (intro _) | (with_reducible assumption) | (refine And.intro ?_ ?_))
    all_goals first | omega | assumption | (refine z_fin C4 ?_ rfl; first | rfl | omega | (split <;> omega) | (split <;> split <;> omega)) | skip
  have L50 : ∀ (tv : Int) (p1 : Nat) (f1 : Int) (σ1 : zM), q_fx σ σ1 → q_ms σ1 b T p1 f1 → (∀ (σ2 : zM) (wv : Int), q_fx σ σ2 → q_ms σ2 b T (if o = 0 ∨ o = 1 then q_pn b T p1 f1 1 89 else if o = 2 then q_pn b T p1 f1 0 7 else (0, p1, f1)).2.1 (if o = 0 ∨ o = 1 then q_pn b T p1 f1 1 89 else if o = 2 then q_pn b T p1 f1 0 7 else (0, p1, f1)).2.2 → ((if o = 0 ∨ o = 1 then q_pn b T p1 f1 1 89 else if o = 2 then q_pn b T p1 f1 0 7 else (0, p1, f1)).2.2 = 0 → wv = (if o = 0 ∨ o = 1 then q_pn b T p1 f1 1 89 else if o = 2 then q_pn b T p1 f1 0 7 else (0, p1, f1)).1) → X 86 [some (.inr (.inr (10, 0, 89))), some (.inl o), some (.inl tv), none] [.inl wv] σ2) → X 50 [some (.inr (.inr (10, 0, 89))), some (.inl o), none, none] [.inl tv] σ1 := by
    intro tv p1 f1 σ1 g1 ms1 C
    refine h50 _ _ _ ?_
    simp only [z_push, z_lpush, z_iload, z_lload, z_aload, z_istore, z_istoreP, z_lstore, z_astore, z_iinc, z_iincP, z_iadd, z_isub, z_imul, z_iaddW, z_isubW, z_imulW, z_idiv, z_irem, z_iand, z_ior, z_ixor, z_ishl, z_ishr, z_iushr, z_ineg, z_i2l, z_i2b, z_i2s, z_i2c, z_l2i, z_ladd, z_lsub, z_land, z_lor, z_lshl, z_lshr, z_lcmp, z_dup, z_pop, z_dup2, z_goto, z_tsw, z_cases, z_geti, z_getr, z_puti, z_putz, z_ald, z_iast, z_bast, z_zast, z_alen, z_acopy, z_mmax, z_mmin, z_mabs, z_mabsL, z_iret, z_zret, z_nret, z_lret, z_aret, z_vret, z_cat, z_ldcs, z_strv, z_strc, z_gcs, z_gfm, z_sln, z_sald, z_ifeq, z_ifne, z_iflt, z_ifge, z_ifgt, z_ifle, z_iceq, z_icne, z_iclt, z_icge, z_icgt, z_icle, z_cs0, z_cs1, z_cs2, z_cs3, z_cs4, z_cs5, z_cs6, z_cs7, z_cv0, z_cv1, z_cv2, z_cv3, z_cv4, z_cv5, z_cv6, z_cv7, z_g0, z_s0, z_g1, z_s1, z_g2, z_s2, z_g3, z_s3, z_g4, z_s4, z_g5, z_s5, z_g6, z_s6, z_g7, z_s7, z_g8, z_s8, z_g9, z_s9, z_g10, z_s10, z_g11, z_s11, z_g12, z_s12, z_g13, z_s13, z_b0, z_b1, z_b0n, z_b1n, z_up_far1, z_up_far2, z_up_far3, z_up_far4, z_up_far5, z_up_far6, Classical.not_not, not_true_eq_false, z_in, z_inL, Int.cast_ofNat_Int, Nat.reduceLeDiff, List.length_cons, List.length_nil, Nat.reduceAdd, Nat.zero_add, Nat.le_refl, true_and, and_true, List.length, Nat.reduceLT, true_or, or_true, false_or, or_false, false_and, and_false, not_true_eq_false, not_false_eq_true, forall_const, false_implies, true_implies, Int.reduceEq, Int.reduceLT, Int.reduceLE, Int.reduceAdd, Int.reduceSub, Int.reduceMul, Int.reduceNeg, Int.reduceToNat, Int.toNat_natCast, ↓reduceIte, reduceIte, Nat.reduceEqDiff, Nat.reduceSub, Nat.reduceMul, ne_eq, Int.zero_add, Int.add_zero, Int.sub_zero, Nat.add_zero, Int.ofNat_eq_natCast, tX10_readOrder_50, SX10_number]
    by_cases e : o = 0 ∨ o = 1
    · rw [if_pos e] at C
      refine ⟨fun _ => ⟨b, T, p1, f1, ms1, fun σ2 v g2 ms2 e2 => C σ2 v (g1.tr g2) ms2 e2⟩, fun e0 => ⟨fun e1 => absurd e (by omega), fun _ => ⟨b, T, p1, f1, ms1, fun σ2 v g2 ms2 e2 => C σ2 v (g1.tr g2) ms2 e2⟩⟩⟩
    · rw [if_neg e] at C
      by_cases e2 : o = 2
      · rw [if_pos e2] at C
        refine ⟨fun q => absurd q (by omega), fun _ => ⟨fun _ => ⟨fun q => absurd e2 q, fun _ => ⟨b, T, p1, f1, ms1, fun σ2 v g2 ms2 e3 => C σ2 v (g1.tr g2) ms2 e3⟩⟩, fun q => absurd q (by omega)⟩⟩
      · rw [if_neg e2] at C
        refine ⟨fun q => absurd q (by omega), fun _ => ⟨fun _ => ⟨fun _ => C σ1 0 g1 ms1 (fun _ => rfl), fun q => absurd q e2⟩, fun q => absurd q (by omega)⟩⟩
  have L22 : ∀ (p0 : Nat) (f0 : Int) (σ1 : zM), q_fx σ σ1 → q_ms σ1 b T p0 f0 → (∀ (σ2 : zM) (tv : Int), q_fx σ σ2 → q_ms σ2 b T (if o = 6 ∨ o = 7 then (0, (q_mu b T p0 f0 1).1, (q_mu b T p0 f0 1).2) else q_pn b T (q_mu b T p0 f0 1).1 (q_mu b T p0 f0 1).2 0 (n - 1)).2.1 (if o = 6 ∨ o = 7 then (0, (q_mu b T p0 f0 1).1, (q_mu b T p0 f0 1).2) else q_pn b T (q_mu b T p0 f0 1).1 (q_mu b T p0 f0 1).2 0 (n - 1)).2.2 → ((if o = 6 ∨ o = 7 then (0, (q_mu b T p0 f0 1).1, (q_mu b T p0 f0 1).2) else q_pn b T (q_mu b T p0 f0 1).1 (q_mu b T p0 f0 1).2 0 (n - 1)).2.2 = 0 → tv = (if o = 6 ∨ o = 7 then (0, (q_mu b T p0 f0 1).1, (q_mu b T p0 f0 1).2) else q_pn b T (q_mu b T p0 f0 1).1 (q_mu b T p0 f0 1).2 0 (n - 1)).1) → X 50 [some (.inr (.inr (10, 0, 89))), some (.inl o), none, none] [.inl tv] σ2) → X 22 [some (.inr (.inr (10, 0, 89))), some (.inl o), none, none] [] σ1 := by
    intro p0 f0 σ1 g1 ms1 C
    refine h22 _ _ _ ?_
    simp only [z_push, z_lpush, z_iload, z_lload, z_aload, z_istore, z_istoreP, z_lstore, z_astore, z_iinc, z_iincP, z_iadd, z_isub, z_imul, z_iaddW, z_isubW, z_imulW, z_idiv, z_irem, z_iand, z_ior, z_ixor, z_ishl, z_ishr, z_iushr, z_ineg, z_i2l, z_i2b, z_i2s, z_i2c, z_l2i, z_ladd, z_lsub, z_land, z_lor, z_lshl, z_lshr, z_lcmp, z_dup, z_pop, z_dup2, z_goto, z_tsw, z_cases, z_geti, z_getr, z_puti, z_putz, z_ald, z_iast, z_bast, z_zast, z_alen, z_acopy, z_mmax, z_mmin, z_mabs, z_mabsL, z_iret, z_zret, z_nret, z_lret, z_aret, z_vret, z_cat, z_ldcs, z_strv, z_strc, z_gcs, z_gfm, z_sln, z_sald, z_ifeq, z_ifne, z_iflt, z_ifge, z_ifgt, z_ifle, z_iceq, z_icne, z_iclt, z_icge, z_icgt, z_icle, z_cs0, z_cs1, z_cs2, z_cs3, z_cs4, z_cs5, z_cs6, z_cs7, z_cv0, z_cv1, z_cv2, z_cv3, z_cv4, z_cv5, z_cv6, z_cv7, z_g0, z_s0, z_g1, z_s1, z_g2, z_s2, z_g3, z_s3, z_g4, z_s4, z_g5, z_s5, z_g6, z_s6, z_g7, z_s7, z_g8, z_s8, z_g9, z_s9, z_g10, z_s10, z_g11, z_s11, z_g12, z_s12, z_g13, z_s13, z_b0, z_b1, z_b0n, z_b1n, z_up_far1, z_up_far2, z_up_far3, z_up_far4, z_up_far5, z_up_far6, Classical.not_not, not_true_eq_false, z_in, z_inL, Int.cast_ofNat_Int, Nat.reduceLeDiff, List.length_cons, List.length_nil, Nat.reduceAdd, Nat.zero_add, Nat.le_refl, true_and, and_true, List.length, Nat.reduceLT, true_or, or_true, false_or, or_false, false_and, and_false, not_true_eq_false, not_false_eq_true, forall_const, false_implies, true_implies, Int.reduceEq, Int.reduceLT, Int.reduceLE, Int.reduceAdd, Int.reduceSub, Int.reduceMul, Int.reduceNeg, Int.reduceToNat, Int.toNat_natCast, ↓reduceIte, reduceIte, Nat.reduceEqDiff, Nat.reduceSub, Nat.reduceMul, ne_eq, Int.zero_add, Int.add_zero, Int.sub_zero, Nat.add_zero, Int.ofNat_eq_natCast, tX10_readOrder_22, SX10_must, SX10_number]
    refine ⟨b, T, p0, f0, ms1, fun σ2 g2 ms2 => ?_⟩
    have e93 : σ2 93 0 = n := by rw [(g1.tr g2) 93 0 (by omega)]; exact hN
    rw [e93]
    by_cases e : o = 6 ∨ o = 7
    · rw [if_pos e] at C
      refine ⟨fun _ => C σ2 0 (g1.tr g2) ms2 (fun _ => rfl), fun q => absurd q (by omega)⟩
    · rw [if_neg e] at C
      refine ⟨fun q => absurd q (by omega), fun _ _ => ⟨by omega, ⟨b, T, _, _, ms2, fun σ3 v g3 ms3 e3 => C σ3 v ((g1.tr g2).tr g3) ms3 e3⟩⟩⟩
  have st : X 22 [some (.inr (.inr (10, 0, 89))), some (.inl o), none, none] [] (if c = 12 then z_up (z_up σ 89 19 3) 89 20 (σ 89 17) else σ) := by
    by_cases c1 : c = 12
    · rw [if_pos c1]
      have mb := ms.bad (τ' := z_up (z_up σ 89 19 3) 89 20 (σ 89 17)) (n := 3) (by omega) (fun c j hc => by rw [z_up_ne (by omega), z_up_ne (by omega)]) (by rw [z_up_ne (by omega), z_up_eq]) z_up_eq
      have fb : q_fx σ (z_up (z_up σ 89 19 3) 89 20 (σ 89 17)) := fun c j hc => by rw [z_up_ne (by omega), z_up_ne (by omega)]
      have em : q_mu b T p 3 1 = (p, 3) := if_pos (by omega)
      refine L22 p 3 _ fb mb (fun σ2 tv g2 ms2 _ => ?_)
      rw [em] at ms2
      have ms2 : q_ms σ2 b T p 3 := by
        by_cases e : o = 6 ∨ o = 7
        · rw [if_pos e] at ms2; exact ms2
        · rw [if_neg e, q_pn_3 (by omega)] at ms2; exact ms2
      refine L50 tv p 3 σ2 g2 ms2 (fun σ3 wv g3 ms3 _ => ?_)
      have ms3 : q_ms σ3 b T p 3 := by
        by_cases e : o = 0 ∨ o = 1
        · rw [if_pos e, q_pn_3 (by omega)] at ms3; exact ms3
        · rw [if_neg e] at ms3
          by_cases e2 : o = 2
          · rw [if_pos e2, q_pn_3 (by omega)] at ms3; exact ms3
          · rw [if_neg e2] at ms3; exact ms3
      refine L86 tv wv p 3 σ3 g3 ms3 (fun σ4 g4 ms4 => ?_)
      rw [q_ps_3 (by omega)] at ms4 ⊢
      exact ⟨fun _ => h σ4 p 3 g4.fz ms4 (fun _ => ⟨rfl, rfl⟩) (fun q => absurd q (by omega)) (fun q => absurd q (by omega)), fun q => by have q : (3 : Int) = 0 := q; omega⟩
    · rw [if_neg c1]
      have em : q_mu b T p 0 1 = (q_te b T p, 0) := rfl
      refine L22 p 0 σ q_fx.rf ms (fun σ2 tv g2 ms2 e2 => ?_)
      rw [em] at ms2 e2
      have eo1 : (if o = 6 ∨ o = 7 then ((0 : Int), q_te b T p, (0 : Int)) else q_pn b T (q_te b T p) 0 0 (n - 1)) = q_o1 b T p n := by unfold q_o1; rw [hO]
      dsimp only at ms2 e2
      rw [eo1] at ms2 e2
      refine L50 tv _ _ σ2 g2 ms2 (fun σ3 wv g3 ms3 e3 => ?_)
      have eo2 : (if o = 0 ∨ o = 1 then q_pn b T (q_o1 b T p n).2.1 (q_o1 b T p n).2.2 1 89 else if o = 2 then q_pn b T (q_o1 b T p n).2.1 (q_o1 b T p n).2.2 0 7 else ((0 : Int), (q_o1 b T p n).2.1, (q_o1 b T p n).2.2)) = q_o2 b T p n := by unfold q_o2; rw [hO]
      rw [eo2] at ms3 e3
      refine L86 tv wv _ _ σ3 g3 ms3 (fun σ4 g4 ms4 => ?_)
      have ms4 : q_ms σ4 b T (q_o3 b T p n).1 (q_o3 b T p n).2 := ms4
      show (¬ (q_o3 b T p n).2 = 0 → _) ∧ ((q_o3 b T p n).2 = 0 → _)
      refine ⟨fun q => h σ4 _ _ g4.fz ms4 (fun q => absurd q c1) (fun _ => ⟨rfl, rfl⟩) (fun z => absurd z q), fun z => ⟨by omega, ?_⟩⟩
      have z2 : (q_o2 b T p n).2.2 = 0 := q_ps_f z
      have w2 := e3 z2
      have z1 : (q_o1 b T p n).2.2 = 0 := by
        rw [← eo2] at z2
        by_cases e : o = 0 ∨ o = 1
        · rw [if_pos e] at z2; exact q_pn_f z2
        · rw [if_neg e] at z2
          by_cases e2 : o = 2
          · rw [if_pos e2] at z2; exact q_pn_f z2
          · rw [if_neg e2] at z2; exact z2
      have w1 := e2 z1
      have e96 : ∀ j, j < 3 * c → σ4 96 j = E j := fun j hj => by rw [g4 96 j (by omega)]; exact hE j hj
      refine h _ _ _ (fun c j h1 h2 => ?_) (ms4.fr (fun c j hc => ?_)) (fun q => absurd q c1) (fun _ => ⟨rfl, rfl⟩) (fun _ => ⟨by omega, z_up_eq, fun j hj => ?_⟩)
      · rw [z_up_ne (by omega), z_up_ne (by omega), z_up_ne (by omega), z_up_ne (by omega)]
        exact g4 c j (by omega)
      · rw [z_up_ne (by omega), z_up_ne (by omega), z_up_ne (by omega), z_up_ne (by omega)]
      · rw [z_up_ne (by omega), w1, w2]
        unfold q_dO
        by_cases j2 : j = 3 * c + 2
        · subst j2; rw [z_up_eq, q_d1_eq]
        · rw [z_up_ne (by omega), q_d1_ne j2]
          by_cases j1 : j = 3 * c + 1
          · subst j1; rw [z_up_eq, q_d1_eq]
          · rw [z_up_ne (by omega), q_d1_ne j1]
            by_cases j0 : j = 3 * c
            · subst j0; rw [z_up_eq, q_d1_eq]
            · rw [z_up_ne (by omega), q_d1_ne j0]
              exact e96 j (by omega)
  refine h0 _ _ _ ?_
  simp only [z_push, z_lpush, z_iload, z_lload, z_aload, z_istore, z_istoreP, z_lstore, z_astore, z_iinc, z_iincP, z_iadd, z_isub, z_imul, z_iaddW, z_isubW, z_imulW, z_idiv, z_irem, z_iand, z_ior, z_ixor, z_ishl, z_ishr, z_iushr, z_ineg, z_i2l, z_i2b, z_i2s, z_i2c, z_l2i, z_ladd, z_lsub, z_land, z_lor, z_lshl, z_lshr, z_lcmp, z_dup, z_pop, z_dup2, z_goto, z_tsw, z_cases, z_geti, z_getr, z_puti, z_putz, z_ald, z_iast, z_bast, z_zast, z_alen, z_acopy, z_mmax, z_mmin, z_mabs, z_mabsL, z_iret, z_zret, z_nret, z_lret, z_aret, z_vret, z_cat, z_ldcs, z_strv, z_strc, z_gcs, z_gfm, z_sln, z_sald, z_ifeq, z_ifne, z_iflt, z_ifge, z_ifgt, z_ifle, z_iceq, z_icne, z_iclt, z_icge, z_icgt, z_icle, z_cs0, z_cs1, z_cs2, z_cs3, z_cs4, z_cs5, z_cs6, z_cs7, z_cv0, z_cv1, z_cv2, z_cv3, z_cv4, z_cv5, z_cv6, z_cv7, z_g0, z_s0, z_g1, z_s1, z_g2, z_s2, z_g3, z_s3, z_g4, z_s4, z_g5, z_s5, z_g6, z_s6, z_g7, z_s7, z_g8, z_s8, z_g9, z_s9, z_g10, z_s10, z_g11, z_s11, z_g12, z_s12, z_g13, z_s13, z_b0, z_b1, z_b0n, z_b1n, z_up_far1, z_up_far2, z_up_far3, z_up_far4, z_up_far5, z_up_far6, Classical.not_not, not_true_eq_false, z_in, z_inL, Int.cast_ofNat_Int, Nat.reduceLeDiff, List.length_cons, List.length_nil, Nat.reduceAdd, Nat.zero_add, Nat.le_refl, true_and, and_true, List.length, Nat.reduceLT, true_or, or_true, false_or, or_false, false_and, and_false, not_true_eq_false, not_false_eq_true, forall_const, false_implies, true_implies, Int.reduceEq, Int.reduceLT, Int.reduceLE, Int.reduceAdd, Int.reduceSub, Int.reduceMul, Int.reduceNeg, Int.reduceToNat, Int.toNat_natCast, ↓reduceIte, reduceIte, Nat.reduceEqDiff, Nat.reduceSub, Nat.reduceMul, ne_eq, Int.zero_add, Int.add_zero, Int.sub_zero, Nat.add_zero, Int.ofNat_eq_natCast, tX10_readOrder_0, SX10_name, SX10_orderOf, SX10_bad, m19, h10]
  refine ⟨b, T, p, 0, ms, ?_⟩
  rw [if_pos rfl, oo]
  refine fun _ => ⟨fun e => ?_, fun e => ?_⟩
  · rw [if_neg (by omega)] at st
    exact st
  · rw [if_pos (by omega)] at st
    exact st
theorem dX10_readOrder_0 : decode cX10_readOrder 0 = .ok (.aload_n 0, 1) := by decide +kernel
theorem dX10_readOrder_1 : decode cX10_readOrder 1 = .ok (.invokevirtual 183, 3) := by decide +kernel
theorem dX10_readOrder_4 : decode cX10_readOrder 4 = .ok (.invokestatic 209, 3) := by decide +kernel
theorem dX10_readOrder_7 : decode cX10_readOrder 7 = .ok (.istore_n 1, 1) := by decide +kernel
theorem dX10_readOrder_8 : decode cX10_readOrder 8 = .ok (.aload_n 0, 1) := by decide +kernel
theorem dX10_readOrder_9 : decode cX10_readOrder 9 = .ok (.getfield 213, 3) := by decide +kernel
theorem dX10_readOrder_12 : decode cX10_readOrder 12 = .ok (.bipush 12, 2) := by decide +kernel
theorem dX10_readOrder_14 : decode cX10_readOrder 14 = .ok (.if_icmp .ne 8, 3) := by decide +kernel
theorem dX10_readOrder_17 : decode cX10_readOrder 17 = .ok (.aload_n 0, 1) := by decide +kernel
theorem dX10_readOrder_18 : decode cX10_readOrder 18 = .ok (.iconst 3, 1) := by decide +kernel
theorem dX10_readOrder_19 : decode cX10_readOrder 19 = .ok (.invokevirtual 132, 3) := by decide +kernel
theorem dX10_readOrder_22 : decode cX10_readOrder 22 = .ok (.aload_n 0, 1) := by decide +kernel
theorem dX10_readOrder_23 : decode cX10_readOrder 23 = .ok (.iconst 1, 1) := by decide +kernel
theorem dX10_readOrder_24 : decode cX10_readOrder 24 = .ok (.invokevirtual 140, 3) := by decide +kernel
theorem dX10_readOrder_27 : decode cX10_readOrder 27 = .ok (.iload_n 1, 1) := by decide +kernel
theorem dX10_readOrder_28 : decode cX10_readOrder 28 = .ok (.bipush 6, 2) := by decide +kernel
theorem dX10_readOrder_30 : decode cX10_readOrder 30 = .ok (.if_icmp .ge 19, 3) := by decide +kernel
theorem dX10_readOrder_33 : decode cX10_readOrder 33 = .ok (.aload_n 0, 1) := by decide +kernel
theorem dX10_readOrder_34 : decode cX10_readOrder 34 = .ok (.iconst 0, 1) := by decide +kernel
theorem dX10_readOrder_35 : decode cX10_readOrder 35 = .ok (.aload_n 0, 1) := by decide +kernel
theorem dX10_readOrder_36 : decode cX10_readOrder 36 = .ok (.getfield 19, 3) := by decide +kernel
theorem dX10_readOrder_39 : decode cX10_readOrder 39 = .ok (.iconst 0, 1) := by decide +kernel
theorem dX10_readOrder_40 : decode cX10_readOrder 40 = .ok (.iaload, 1) := by decide +kernel
theorem dX10_readOrder_41 : decode cX10_readOrder 41 = .ok (.iconst 1, 1) := by decide +kernel
theorem dX10_readOrder_42 : decode cX10_readOrder 42 = .ok (.isub, 1) := by decide +kernel
theorem dX10_readOrder_43 : decode cX10_readOrder 43 = .ok (.invokevirtual 164, 3) := by decide +kernel
theorem dX10_readOrder_46 : decode cX10_readOrder 46 = .ok (.goto 4, 3) := by decide +kernel
theorem dX10_readOrder_49 : decode cX10_readOrder 49 = .ok (.iconst 0, 1) := by decide +kernel
theorem dX10_readOrder_50 : decode cX10_readOrder 50 = .ok (.istore_n 2, 1) := by decide +kernel
theorem dX10_readOrder_51 : decode cX10_readOrder 51 = .ok (.iload_n 1, 1) := by decide +kernel
theorem dX10_readOrder_52 : decode cX10_readOrder 52 = .ok (.ifCond .eq 8, 3) := by decide +kernel
theorem dX10_readOrder_55 : decode cX10_readOrder 55 = .ok (.iload_n 1, 1) := by decide +kernel
theorem dX10_readOrder_56 : decode cX10_readOrder 56 = .ok (.iconst 1, 1) := by decide +kernel
theorem dX10_readOrder_57 : decode cX10_readOrder 57 = .ok (.if_icmp .ne 13, 3) := by decide +kernel
theorem dX10_readOrder_60 : decode cX10_readOrder 60 = .ok (.aload_n 0, 1) := by decide +kernel
theorem dX10_readOrder_61 : decode cX10_readOrder 61 = .ok (.iconst 1, 1) := by decide +kernel
theorem dX10_readOrder_62 : decode cX10_readOrder 62 = .ok (.bipush 89, 2) := by decide +kernel
theorem dX10_readOrder_64 : decode cX10_readOrder 64 = .ok (.invokevirtual 164, 3) := by decide +kernel
theorem dX10_readOrder_67 : decode cX10_readOrder 67 = .ok (.goto 19, 3) := by decide +kernel
theorem dX10_readOrder_70 : decode cX10_readOrder 70 = .ok (.iload_n 1, 1) := by decide +kernel
theorem dX10_readOrder_71 : decode cX10_readOrder 71 = .ok (.iconst 2, 1) := by decide +kernel
theorem dX10_readOrder_72 : decode cX10_readOrder 72 = .ok (.if_icmp .ne 13, 3) := by decide +kernel
theorem dX10_readOrder_75 : decode cX10_readOrder 75 = .ok (.aload_n 0, 1) := by decide +kernel
theorem dX10_readOrder_76 : decode cX10_readOrder 76 = .ok (.iconst 0, 1) := by decide +kernel
theorem dX10_readOrder_77 : decode cX10_readOrder 77 = .ok (.bipush 7, 2) := by decide +kernel
theorem dX10_readOrder_79 : decode cX10_readOrder 79 = .ok (.invokevirtual 164, 3) := by decide +kernel
theorem dX10_readOrder_82 : decode cX10_readOrder 82 = .ok (.goto 4, 3) := by decide +kernel
theorem dX10_readOrder_85 : decode cX10_readOrder 85 = .ok (.iconst 0, 1) := by decide +kernel
theorem dX10_readOrder_86 : decode cX10_readOrder 86 = .ok (.istore_n 3, 1) := by decide +kernel
theorem dX10_readOrder_87 : decode cX10_readOrder 87 = .ok (.aload_n 0, 1) := by decide +kernel
theorem dX10_readOrder_88 : decode cX10_readOrder 88 = .ok (.invokevirtual 168, 3) := by decide +kernel
theorem dX10_readOrder_91 : decode cX10_readOrder 91 = .ok (.aload_n 0, 1) := by decide +kernel
theorem dX10_readOrder_92 : decode cX10_readOrder 92 = .ok (.getfield 123, 3) := by decide +kernel
theorem dX10_readOrder_95 : decode cX10_readOrder 95 = .ok (.ifCond .ne 53, 3) := by decide +kernel
theorem dX10_readOrder_98 : decode cX10_readOrder 98 = .ok (.aload_n 0, 1) := by decide +kernel
theorem dX10_readOrder_99 : decode cX10_readOrder 99 = .ok (.getfield 28, 3) := by decide +kernel
theorem dX10_readOrder_102 : decode cX10_readOrder 102 = .ok (.iconst 3, 1) := by decide +kernel
theorem dX10_readOrder_103 : decode cX10_readOrder 103 = .ok (.aload_n 0, 1) := by decide +kernel
theorem dX10_readOrder_104 : decode cX10_readOrder 104 = .ok (.getfield 213, 3) := by decide +kernel
theorem dX10_readOrder_107 : decode cX10_readOrder 107 = .ok (.imul, 1) := by decide +kernel
theorem dX10_readOrder_108 : decode cX10_readOrder 108 = .ok (.iload_n 1, 1) := by decide +kernel
theorem dX10_readOrder_109 : decode cX10_readOrder 109 = .ok (.iastore, 1) := by decide +kernel
theorem dX10_readOrder_110 : decode cX10_readOrder 110 = .ok (.aload_n 0, 1) := by decide +kernel
theorem dX10_readOrder_111 : decode cX10_readOrder 111 = .ok (.getfield 28, 3) := by decide +kernel
theorem dX10_readOrder_114 : decode cX10_readOrder 114 = .ok (.iconst 3, 1) := by decide +kernel
theorem dX10_readOrder_115 : decode cX10_readOrder 115 = .ok (.aload_n 0, 1) := by decide +kernel
theorem dX10_readOrder_116 : decode cX10_readOrder 116 = .ok (.getfield 213, 3) := by decide +kernel
theorem dX10_readOrder_119 : decode cX10_readOrder 119 = .ok (.imul, 1) := by decide +kernel
theorem dX10_readOrder_120 : decode cX10_readOrder 120 = .ok (.iconst 1, 1) := by decide +kernel
theorem dX10_readOrder_121 : decode cX10_readOrder 121 = .ok (.iadd, 1) := by decide +kernel
theorem dX10_readOrder_122 : decode cX10_readOrder 122 = .ok (.iload_n 2, 1) := by decide +kernel
theorem dX10_readOrder_123 : decode cX10_readOrder 123 = .ok (.iastore, 1) := by decide +kernel
theorem dX10_readOrder_124 : decode cX10_readOrder 124 = .ok (.aload_n 0, 1) := by decide +kernel
theorem dX10_readOrder_125 : decode cX10_readOrder 125 = .ok (.getfield 28, 3) := by decide +kernel
theorem dX10_readOrder_128 : decode cX10_readOrder 128 = .ok (.iconst 3, 1) := by decide +kernel
theorem dX10_readOrder_129 : decode cX10_readOrder 129 = .ok (.aload_n 0, 1) := by decide +kernel
theorem dX10_readOrder_130 : decode cX10_readOrder 130 = .ok (.getfield 213, 3) := by decide +kernel
theorem dX10_readOrder_133 : decode cX10_readOrder 133 = .ok (.imul, 1) := by decide +kernel
theorem dX10_readOrder_134 : decode cX10_readOrder 134 = .ok (.iconst 2, 1) := by decide +kernel
theorem dX10_readOrder_135 : decode cX10_readOrder 135 = .ok (.iadd, 1) := by decide +kernel
theorem dX10_readOrder_136 : decode cX10_readOrder 136 = .ok (.iload_n 3, 1) := by decide +kernel
theorem dX10_readOrder_137 : decode cX10_readOrder 137 = .ok (.iastore, 1) := by decide +kernel
theorem dX10_readOrder_138 : decode cX10_readOrder 138 = .ok (.aload_n 0, 1) := by decide +kernel
theorem dX10_readOrder_139 : decode cX10_readOrder 139 = .ok (.dup, 1) := by decide +kernel
theorem dX10_readOrder_140 : decode cX10_readOrder 140 = .ok (.getfield 213, 3) := by decide +kernel
theorem dX10_readOrder_143 : decode cX10_readOrder 143 = .ok (.iconst 1, 1) := by decide +kernel
theorem dX10_readOrder_144 : decode cX10_readOrder 144 = .ok (.iadd, 1) := by decide +kernel
theorem dX10_readOrder_145 : decode cX10_readOrder 145 = .ok (.putfield 213, 3) := by decide +kernel
theorem dX10_readOrder_148 : decode cX10_readOrder 148 = .ok (.return_, 1) := by decide +kernel
set_option maxRecDepth 100000 in
theorem rX10_readOrder_0 {p : Program} {l : Launch} {e : Env} {s : State} {m : MethodId} {args : Array Value} {below : List Frame} {meth : Method} {c : Code} {D : va_G} {cA : Nat → ClassId} {ad : Nat → Nat} {Ret : zR} (C : z_Cx p { frames := 4, cells := 0, slots := 0, locals := 86 } s m args c cX10_readOrder yX10_readOrder.cls 4 D cA ad) (hr : meth.sig.returnType = none) (hlocks : meth.locks = false) : ∀ L st σ, tX10_readOrder_0 (z_X p l e { frames := 4, cells := 0, slots := 0, locals := 86 } s m args below meth c (MQ below (z_Qc D cA ad Ret) args s 0 0 (z_A ad)) 4 D cA ad true) Ret L st σ → z_X p l e { frames := 4, cells := 0, slots := 0, locals := 86 } s m args below meth c (MQ below (z_Qc D cA ad Ret) args s 0 0 (z_A ad)) 4 D cA ad true 0 L st σ := (s_aload_n C dX10_readOrder_0 rfl (s_cv0 C dX10_readOrder_1 (okX10_name l) cls_X10 wd_1134 wd_1136 wd_39 wd_85 wd_1137 ⟨by decide, by decide, by decide +kernel⟩ ⟨by decide, by decide⟩ (s_cs1 C dX10_readOrder_4 (okX10_orderOf l) wd_1192 wd_1193 wd_85 wd_1194 ⟨by decide, by decide, by decide +kernel⟩ ⟨by decide, by decide⟩ (s_istore_n C dX10_readOrder_7 (by decide) rfl rfl (s_aload_n C dX10_readOrder_8 rfl (s_geti C dX10_readOrder_9 cls_X10 (by decide) rfl wd_978 (s_bipush C dX10_readOrder_12 rfl ⟨by decide, by decide⟩ (s_icne C dX10_readOrder_14 (by decide) (fun _ _ _ h => h) (s_aload_n C dX10_readOrder_17 rfl (s_iconst C dX10_readOrder_18 rfl ⟨by decide, by decide⟩ (s_cv1 C dX10_readOrder_19 (okX10_bad l) cls_X10 wd_1139 wd_1141 wd_40 wd_85 wd_1142 ⟨by decide, by decide, by decide +kernel⟩ ⟨by decide, by decide⟩ (fun _ _ _ h => h))))))))))))
set_option maxRecDepth 100000 in
theorem rX10_readOrder_22 {p : Program} {l : Launch} {e : Env} {s : State} {m : MethodId} {args : Array Value} {below : List Frame} {meth : Method} {c : Code} {D : va_G} {cA : Nat → ClassId} {ad : Nat → Nat} {Ret : zR} (C : z_Cx p { frames := 4, cells := 0, slots := 0, locals := 86 } s m args c cX10_readOrder yX10_readOrder.cls 4 D cA ad) (hr : meth.sig.returnType = none) (hlocks : meth.locks = false) : ∀ L st σ, tX10_readOrder_22 (z_X p l e { frames := 4, cells := 0, slots := 0, locals := 86 } s m args below meth c (MQ below (z_Qc D cA ad Ret) args s 0 0 (z_A ad)) 4 D cA ad true) Ret L st σ → z_X p l e { frames := 4, cells := 0, slots := 0, locals := 86 } s m args below meth c (MQ below (z_Qc D cA ad Ret) args s 0 0 (z_A ad)) 4 D cA ad true 22 L st σ := (s_aload_n C dX10_readOrder_22 rfl (s_iconst C dX10_readOrder_23 rfl ⟨by decide, by decide⟩ (s_cv1 C dX10_readOrder_24 (okX10_must l) cls_X10 wd_1151 wd_1153 wd_43 wd_85 wd_1154 ⟨by decide, by decide, by decide +kernel⟩ ⟨by decide, by decide⟩ (s_iload_n C dX10_readOrder_27 rfl (s_bipush C dX10_readOrder_28 rfl ⟨by decide, by decide⟩ (s_icge C dX10_readOrder_30 (by decide) (s_iconst C dX10_readOrder_49 rfl ⟨by decide, by decide⟩ (fun _ _ _ h => h)) (s_aload_n C dX10_readOrder_33 rfl (s_iconst C dX10_readOrder_34 rfl ⟨by decide, by decide⟩ (s_aload_n C dX10_readOrder_35 rfl (s_getr C dX10_readOrder_36 (j := 5) cls_X10 (by decide) rfl (by decide) (by decide) (by decide +kernel) wd_973 (s_iconst C dX10_readOrder_39 rfl ⟨by decide, by decide⟩ (s_iald C dX10_readOrder_40 (s_iconst C dX10_readOrder_41 rfl ⟨by decide, by decide⟩ (s_isub C dX10_readOrder_42 (s_cv2 C dX10_readOrder_43 (okX10_number l) cls_X10 wd_1155 wd_1157 wd_44 wd_85 wd_1158 ⟨by decide, by decide, by decide +kernel⟩ ⟨by decide, by decide⟩ (s_goto C dX10_readOrder_46 (by decide) (fun _ _ _ h => h)))))))))))))))))
set_option maxRecDepth 100000 in
theorem rX10_readOrder_50 {p : Program} {l : Launch} {e : Env} {s : State} {m : MethodId} {args : Array Value} {below : List Frame} {meth : Method} {c : Code} {D : va_G} {cA : Nat → ClassId} {ad : Nat → Nat} {Ret : zR} (C : z_Cx p { frames := 4, cells := 0, slots := 0, locals := 86 } s m args c cX10_readOrder yX10_readOrder.cls 4 D cA ad) (hr : meth.sig.returnType = none) (hlocks : meth.locks = false) : ∀ L st σ, tX10_readOrder_50 (z_X p l e { frames := 4, cells := 0, slots := 0, locals := 86 } s m args below meth c (MQ below (z_Qc D cA ad Ret) args s 0 0 (z_A ad)) 4 D cA ad true) Ret L st σ → z_X p l e { frames := 4, cells := 0, slots := 0, locals := 86 } s m args below meth c (MQ below (z_Qc D cA ad Ret) args s 0 0 (z_A ad)) 4 D cA ad true 50 L st σ := (s_istore_n C dX10_readOrder_50 (by decide) rfl rfl (s_iload_n C dX10_readOrder_51 rfl (s_ifeq C dX10_readOrder_52 (by decide) (s_aload_n C dX10_readOrder_60 rfl (s_iconst C dX10_readOrder_61 rfl ⟨by decide, by decide⟩ (s_bipush C dX10_readOrder_62 rfl ⟨by decide, by decide⟩ (s_cv2 C dX10_readOrder_64 (okX10_number l) cls_X10 wd_1155 wd_1157 wd_44 wd_85 wd_1158 ⟨by decide, by decide, by decide +kernel⟩ ⟨by decide, by decide⟩ (s_goto C dX10_readOrder_67 (by decide) (fun _ _ _ h => h)))))) (s_iload_n C dX10_readOrder_55 rfl (s_iconst C dX10_readOrder_56 rfl ⟨by decide, by decide⟩ (s_icne C dX10_readOrder_57 (by decide) (s_iload_n C dX10_readOrder_70 rfl (s_iconst C dX10_readOrder_71 rfl ⟨by decide, by decide⟩ (s_icne C dX10_readOrder_72 (by decide) (s_iconst C dX10_readOrder_85 rfl ⟨by decide, by decide⟩ (fun _ _ _ h => h)) (s_aload_n C dX10_readOrder_75 rfl (s_iconst C dX10_readOrder_76 rfl ⟨by decide, by decide⟩ (s_bipush C dX10_readOrder_77 rfl ⟨by decide, by decide⟩ (s_cv2 C dX10_readOrder_79 (okX10_number l) cls_X10 wd_1155 wd_1157 wd_44 wd_85 wd_1158 ⟨by decide, by decide, by decide +kernel⟩ ⟨by decide, by decide⟩ (s_goto C dX10_readOrder_82 (by decide) (fun _ _ _ h => h))))))))) (s_aload_n C dX10_readOrder_60 rfl (s_iconst C dX10_readOrder_61 rfl ⟨by decide, by decide⟩ (s_bipush C dX10_readOrder_62 rfl ⟨by decide, by decide⟩ (s_cv2 C dX10_readOrder_64 (okX10_number l) cls_X10 wd_1155 wd_1157 wd_44 wd_85 wd_1158 ⟨by decide, by decide, by decide +kernel⟩ ⟨by decide, by decide⟩ (s_goto C dX10_readOrder_67 (by decide) (fun _ _ _ h => h))))))))))))
set_option maxRecDepth 100000 in
theorem rX10_readOrder_86 {p : Program} {l : Launch} {e : Env} {s : State} {m : MethodId} {args : Array Value} {below : List Frame} {meth : Method} {c : Code} {D : va_G} {cA : Nat → ClassId} {ad : Nat → Nat} {Ret : zR} (C : z_Cx p { frames := 4, cells := 0, slots := 0, locals := 86 } s m args c cX10_readOrder yX10_readOrder.cls 4 D cA ad) (hr : meth.sig.returnType = none) (hlocks : meth.locks = false) : ∀ L st σ, tX10_readOrder_86 (z_X p l e { frames := 4, cells := 0, slots := 0, locals := 86 } s m args below meth c (MQ below (z_Qc D cA ad Ret) args s 0 0 (z_A ad)) 4 D cA ad true) Ret L st σ → z_X p l e { frames := 4, cells := 0, slots := 0, locals := 86 } s m args below meth c (MQ below (z_Qc D cA ad Ret) args s 0 0 (z_A ad)) 4 D cA ad true 86 L st σ := (s_istore_n C dX10_readOrder_86 (by decide) rfl rfl (s_aload_n C dX10_readOrder_87 rfl (s_cv0 C dX10_readOrder_88 (okX10_mustEnd l) cls_X10 wd_1163 wd_1165 wd_46 wd_85 wd_1166 ⟨by decide, by decide, by decide +kernel⟩ ⟨by decide, by decide⟩ (s_aload_n C dX10_readOrder_91 rfl (s_geti C dX10_readOrder_92 cls_X10 (by decide) rfl wd_987 (s_ifne C dX10_readOrder_95 (by decide) (s_vret C dX10_readOrder_148 hr hlocks) (s_aload_n C dX10_readOrder_98 rfl (s_getr C dX10_readOrder_99 (j := 9) cls_X10 (by decide) rfl (by decide) (by decide) (by decide +kernel) wd_977 (s_iconst C dX10_readOrder_102 rfl ⟨by decide, by decide⟩ (s_aload_n C dX10_readOrder_103 rfl (s_geti C dX10_readOrder_104 cls_X10 (by decide) rfl wd_978 (s_imul C dX10_readOrder_107 (s_iload_n C dX10_readOrder_108 rfl (s_iast C dX10_readOrder_109 (s_aload_n C dX10_readOrder_110 rfl (s_getr C dX10_readOrder_111 (j := 9) cls_X10 (by decide) rfl (by decide) (by decide) (by decide +kernel) wd_977 (s_iconst C dX10_readOrder_114 rfl ⟨by decide, by decide⟩ (s_aload_n C dX10_readOrder_115 rfl (s_geti C dX10_readOrder_116 cls_X10 (by decide) rfl wd_978 (s_imul C dX10_readOrder_119 (s_iconst C dX10_readOrder_120 rfl ⟨by decide, by decide⟩ (s_iadd C dX10_readOrder_121 (s_iload_n C dX10_readOrder_122 rfl (s_iast C dX10_readOrder_123 (s_aload_n C dX10_readOrder_124 rfl (s_getr C dX10_readOrder_125 (j := 9) cls_X10 (by decide) rfl (by decide) (by decide) (by decide +kernel) wd_977 (s_iconst C dX10_readOrder_128 rfl ⟨by decide, by decide⟩ (s_aload_n C dX10_readOrder_129 rfl (s_geti C dX10_readOrder_130 cls_X10 (by decide) rfl wd_978 (s_imul C dX10_readOrder_133 (s_iconst C dX10_readOrder_134 rfl ⟨by decide, by decide⟩ (s_iadd C dX10_readOrder_135 (s_iload_n C dX10_readOrder_136 rfl (s_iast C dX10_readOrder_137 (s_aload_n C dX10_readOrder_138 rfl (s_dup C dX10_readOrder_139 (s_geti C dX10_readOrder_140 cls_X10 (by decide) rfl wd_978 (s_iconst C dX10_readOrder_143 rfl ⟨by decide, by decide⟩ (s_iadd C dX10_readOrder_144 (s_puti C dX10_readOrder_145 cls_X10 (by decide) rfl wd_978 rfl rfl (s_vret C dX10_readOrder_148 hr hlocks)))))))))))))))))))))))))))))))))))))))))
theorem okX10_readOrder (l : Launch) : z_OK l yX10_readOrder cX10_readOrder 4 none 4 86 SX10_readOrder := by
  refine z_ok_of true (by decide +kernel) ?_ ?_
  · intro as σ Ret h
    obtain ⟨k0, rfl⟩ := pX10_readOrder h
    exact ⟨Nat.le_of_ble_eq_true rfl, by simp⟩
  · intro p e s m args below meth c D cA ad Ret C hr hlocks as σ has hσ h
    obtain ⟨k0, rfl⟩ := pX10_readOrder h
    exact vX10_readOrder (rX10_readOrder_0 C hr hlocks) (rX10_readOrder_22 C hr hlocks) (rX10_readOrder_50 C hr hlocks) (rX10_readOrder_86 C hr hlocks) k0 σ (has _ (List.mem_of_getElem? (i := 0) rfl)) hσ h
