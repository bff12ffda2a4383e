def x_B (zx : zX) (i : Nat) (D O : Nat → Int) (k : Nat) (σ : zM) : Prop := w_at σ D O 1 (w_sn (w_go (w_be zx i)) k) ∧ w_ok2 zx D ∧ w_t σ 108 (w_bd zx i D O k).1 ∧ w_d σ 109 (w_bd zx i D O k).1 (w_bd zx i D O k).2 ∧ ((0 ≤ D 5 ∧ D 5 ≤ 50) ∧ (w_bd zx i D O k).1 5 ≤ 50) ∧ k ≤ 4
set_option maxRecDepth 10000 in
set_option maxHeartbeats 4000000 in
theorem x_batch {zx : zX} {Z : Nat → zB} (h89 : ∀ L st σ, tL_law_89 zx Z L st σ → Z 89 L st σ) (h137 : ∀ L st σ, tL_law_137 zx Z L st σ → Z 137 L st σ) (h155 : ∀ L st σ, tL_law_155 zx Z L st σ → Z 155 L st σ)
    {D O : Nat → Int} {i : Nat} (hi : i < 26) (K : ∀ σ' D' O' u6 u7 u8 u9 u10, w_I zx σ' D' O' → D' 3 = D 3 → Z 278 [some (.inr (.inr (252, 0, 1400))), some (.inr (.inr (9, 0, 0))), some (.inr (.inr (100, 64, 108))), some (.inr (.inr (100, 64, 109))), some (.inl (w_nt zx)), some (.inl (i : Int)), u6, u7, u8, u9, u10] [] σ') (many : Nat) (hm : many ≤ 4) :
    ∀ (d k : Nat) (σ : zM) (u6 u7 u10 : Option zV), k + d = many → x_B zx i D O k σ → Z 89 [some (.inr (.inr (252, 0, 1400))), some (.inr (.inr (9, 0, 0))), some (.inr (.inr (100, 64, 108))), some (.inr (.inr (100, 64, 109))), some (.inl (w_nt zx)), some (.inl (i : Int)), u6, u7, some (.inl (many : Int)), some (.inl (k : Int)), u10] [] σ := by
  have nt := w_nt_in zx
  have D3 : ∀ k, (w_bd zx i D O k).1 3 = D 3 := by
    intro k
    induction k with
    | zero => rfl
    | succ k ih =>
      have p := q_pl_ne (o := w_low (w_bx zx i k) 8) (t := (w_otr zx (w_bx zx i k)).toNat) (w_be_ok zx i k).1
      rw [w_bd_S, ← ih]
      unfold q_ddD
      dsimp only
      rw [q_d1_ne (by omega), q_d1_ne (by omega)]
  have T155 : ∀ (k : Nat) (σ : zM) (v : Int) (u6 u7 u8 u9 u10 : Option zV), x_B zx i D O k σ → v = (if k = 0 then -1000100 else (w_bd zx i D O k).1 5) → Z 155 [some (.inr (.inr (252, 0, 1400))), some (.inr (.inr (9, 0, 0))), some (.inr (.inr (100, 64, 108))), some (.inr (.inr (100, 64, 109))), some (.inl (w_nt zx)), some (.inl (i : Int)), u6, u7, u8, u9, u10] [.inl v] σ := by
    intro k σ v u6 u7 u8 u9 u10 b hv
    obtain ⟨b1, b2, b3, b4, b5, b6⟩ := b
    refine h155 _ _ _ ?_
    simp only [z_push, z_lpush, z_iload, z_lload, z_aload, z_istore, z_istoreP, z_lstore, z_astore, z_iinc, z_iincP, z_iadd, z_isub, z_imul, z_iaddW, z_isubW, z_imulW, z_idiv, z_irem, z_iand, z_ior, z_ixor, z_ishl, z_ishr, z_iushr, z_ineg, z_i2l, z_i2b, z_i2s, z_i2c, z_l2i, z_ladd, z_lsub, z_land, z_lor, z_lshl, z_lshr, z_lcmp, z_dup, z_pop, z_dup2, z_goto, z_tsw, z_cases, z_geti, z_getr, z_puti, z_putz, z_ald, z_iast, z_bast, z_zast, z_alen, z_acopy, z_mmax, z_mmin, z_mabs, z_mabsL, z_iret, z_zret, z_nret, z_lret, z_aret, z_vret, z_cat, z_xald, z_xlen, z_ldcs, z_strv, z_strc, z_gcs, z_gfm, z_sln, z_sald, z_ifeq, z_ifne, z_iflt, z_ifge, z_ifgt, z_ifle, z_iceq, z_icne, z_iclt, z_icge, z_icgt, z_icle, z_cs0, z_cs1, z_cs2, z_cs3, z_cs4, z_cs5, z_cs6, z_cs7, z_cv0, z_cv1, z_cv2, z_cv3, z_cv4, z_cv5, z_cv6, z_cv7, z_g0, z_s0, z_g1, z_s1, z_g2, z_s2, z_g3, z_s3, z_g4, z_s4, z_g5, z_s5, z_g6, z_s6, z_g7, z_s7, z_g8, z_s8, z_g9, z_s9, z_g10, z_s10, z_g11, z_s11, z_g12, z_s12, z_g13, z_s13, z_b0, z_b1, z_b0n, z_b1n, z_up_far1, z_up_far2, z_up_far3, z_up_far4, z_up_far5, z_up_far6, Classical.not_not, not_true_eq_false, z_in, z_inL, Int.cast_ofNat_Int, Nat.reduceLeDiff, List.length_cons, List.length_nil, Nat.reduceAdd, Nat.zero_add, Nat.le_refl, true_and, and_true, List.length, Nat.reduceLT, true_or, or_true, false_or, or_false, false_and, and_false, not_true_eq_false, not_false_eq_true, forall_const, false_implies, true_implies, Int.reduceEq, Int.reduceLT, Int.reduceLE, Int.reduceAdd, Int.reduceSub, Int.reduceMul, Int.reduceNeg, Int.reduceToNat, Int.toNat_natCast, ↓reduceIte, reduceIte, Nat.reduceEqDiff, Nat.reduceSub, Nat.reduceMul, ne_eq, Int.zero_add, Int.add_zero, Int.sub_zero, Nat.add_zero, Int.ofNat_eq_natCast, tL_law_155, SW_orders]
    by_cases c : k = 0
    · subst c
      rw [if_pos rfl] at hv
      have no := w_none (D 0)
      refine ⟨D, O, [], b1, Or.inl ⟨no.1, fun σ' f a => ?_⟩⟩
      have e : -1000100 - ((q_ts (w_fn []) ([] : List Int).length (w_oo [] (D 0)).1 : Nat) : Int) = v := by
        rw [hv, show q_ts (w_fn []) ([] : List Int).length (w_oo [] (D 0)).1 = 0 from no.2]
        rfl
      rw [e]
      exact ⟨fun _ => K σ' D O _ _ _ _ _ ⟨a, b2, w_t_fr b3 f (by omega), w_d_cg b4 (f 109 (by omega)), b5.1⟩ rfl, fun ne => absurd rfl ne⟩
    · rw [if_neg c] at hv
      have ok := w_bd_ok (w_at_ok b1) b2 i k (by omega)
      have D0 := b2.1.1
      have ba := w_batch (N := D 0) (by omega) (e := w_be zx i) (fun k => by rw [D0]; exact w_be_ok zx i k) k (by omega)
      refine ⟨D, O, _, b1, Or.inr ⟨ba.1, ?_, fun σ' f a => ?_⟩⟩
      · rw [ba.2.1]; omega
      · rw [ba.2.1] at a ⊢
        rw [ba.2.2] at a
        have e : D 5 + (k : Int) = v := by rw [hv]; exact ok.2.1.symm
        rw [e]
        exact ⟨fun _ => K σ' (w_bd zx i D O k).1 (w_bd zx i D O k).2 _ _ _ _ _ ⟨a, ok.2.2.2, w_t_fr b3 f (by omega), w_d_cg b4 (f 109 (by omega)), by omega⟩ (D3 k), fun ne => absurd rfl ne⟩
  have T137 : ∀ (k : Nat) (σ : zM) (u6 u7 u8 u9 u10 : Option zV), x_B zx i D O k σ → Z 137 [some (.inr (.inr (252, 0, 1400))), some (.inr (.inr (9, 0, 0))), some (.inr (.inr (100, 64, 108))), some (.inr (.inr (100, 64, 109))), some (.inl (w_nt zx)), some (.inl (i : Int)), u6, u7, u8, u9, u10] [] σ := by
    intro k σ u6 u7 u8 u9 u10 b
    obtain ⟨b1, b2, b3, b4, b5, b6⟩ := id b
    refine h137 _ _ _ ?_
    simp only [z_push, z_lpush, z_iload, z_lload, z_aload, z_istore, z_istoreP, z_lstore, z_astore, z_iinc, z_iincP, z_iadd, z_isub, z_imul, z_iaddW, z_isubW, z_imulW, z_idiv, z_irem, z_iand, z_ior, z_ixor, z_ishl, z_ishr, z_iushr, z_ineg, z_i2l, z_i2b, z_i2s, z_i2c, z_l2i, z_ladd, z_lsub, z_land, z_lor, z_lshl, z_lshr, z_lcmp, z_dup, z_pop, z_dup2, z_goto, z_tsw, z_cases, z_geti, z_getr, z_puti, z_putz, z_ald, z_iast, z_bast, z_zast, z_alen, z_acopy, z_mmax, z_mmin, z_mabs, z_mabsL, z_iret, z_zret, z_nret, z_lret, z_aret, z_vret, z_cat, z_xald, z_xlen, z_ldcs, z_strv, z_strc, z_gcs, z_gfm, z_sln, z_sald, z_ifeq, z_ifne, z_iflt, z_ifge, z_ifgt, z_ifle, z_iceq, z_icne, z_iclt, z_icge, z_icgt, z_icle, z_cs0, z_cs1, z_cs2, z_cs3, z_cs4, z_cs5, z_cs6, z_cs7, z_cv0, z_cv1, z_cv2, z_cv3, z_cv4, z_cv5, z_cv6, z_cv7, z_g0, z_s0, z_g1, z_s1, z_g2, z_s2, z_g3, z_s3, z_g4, z_s4, z_g5, z_s5, z_g6, z_s6, z_g7, z_s7, z_g8, z_s8, z_g9, z_s9, z_g10, z_s10, z_g11, z_s11, z_g12, z_s12, z_g13, z_s13, z_b0, z_b1, z_b0n, z_b1n, z_up_far1, z_up_far2, z_up_far3, z_up_far4, z_up_far5, z_up_far6, Classical.not_not, not_true_eq_false, z_in, z_inL, Int.cast_ofNat_Int, Nat.reduceLeDiff, List.length_cons, List.length_nil, Nat.reduceAdd, Nat.zero_add, Nat.le_refl, true_and, and_true, List.length, Nat.reduceLT, true_or, or_true, false_or, or_false, false_and, and_false, not_true_eq_false, not_false_eq_true, forall_const, false_implies, true_implies, Int.reduceEq, Int.reduceLT, Int.reduceLE, Int.reduceAdd, Int.reduceSub, Int.reduceMul, Int.reduceNeg, Int.reduceToNat, Int.toNat_natCast, ↓reduceIte, reduceIte, Nat.reduceEqDiff, Nat.reduceSub, Nat.reduceMul, ne_eq, Int.zero_add, Int.add_zero, Int.sub_zero, Nat.add_zero, Int.ofNat_eq_natCast, tL_law_137, SW_count]
    refine ⟨D, O, 1, _, b1, fun σ' f a => ?_⟩
    have b' : x_B zx i D O k σ' := ⟨a, b2, w_t_fr b3 f (by omega), w_d_cg b4 (f 109 (by omega)), b5, b6⟩
    rw [b'.2.2.1.2.2.2]
    by_cases c : k = 0
    · subst c
      exact ⟨fun ne => absurd rfl ne, fun _ => T155 0 σ' _ _ _ _ _ _ b' rfl⟩
    · have l := w_sn_pos (e := w_be zx i) (k := k) (by omega)
      exact ⟨fun _ _ => T155 k σ' _ _ _ _ _ _ b' (if_neg c).symm, fun q => by omega⟩
  intro d
  induction d with
  | zero =>
    intro k σ u6 u7 u10 hd b
    refine h89 _ _ _ ?_
    simp only [z_push, z_lpush, z_iload, z_lload, z_aload, z_istore, z_istoreP, z_lstore, z_astore, z_iinc, z_iincP, z_iadd, z_isub, z_imul, z_iaddW, z_isubW, z_imulW, z_idiv, z_irem, z_iand, z_ior, z_ixor, z_ishl, z_ishr, z_iushr, z_ineg, z_i2l, z_i2b, z_i2s, z_i2c, z_l2i, z_ladd, z_lsub, z_land, z_lor, z_lshl, z_lshr, z_lcmp, z_dup, z_pop, z_dup2, z_goto, z_tsw, z_cases, z_geti, z_getr, z_puti, z_putz, z_ald, z_iast, z_bast, z_zast, z_alen, z_acopy, z_mmax, z_mmin, z_mabs, z_mabsL, z_iret, z_zret, z_nret, z_lret, z_aret, z_vret, z_cat, z_xald, z_xlen, z_ldcs, z_strv, z_strc, z_gcs, z_gfm, z_sln, z_sald, z_ifeq, z_ifne, z_iflt, z_ifge, z_ifgt, z_ifle, z_iceq, z_icne, z_iclt, z_icge, z_icgt, z_icle, z_cs0, z_cs1, z_cs2, z_cs3, z_cs4, z_cs5, z_cs6, z_cs7, z_cv0, z_cv1, z_cv2, z_cv3, z_cv4, z_cv5, z_cv6, z_cv7, z_g0, z_s0, z_g1, z_s1, z_g2, z_s2, z_g3, z_s3, z_g4, z_s4, z_g5, z_s5, z_g6, z_s6, z_g7, z_s7, z_g8, z_s8, z_g9, z_s9, z_g10, z_s10, z_g11, z_s11, z_g12, z_s12, z_g13, z_s13, z_b0, z_b1, z_b0n, z_b1n, z_up_far1, z_up_far2, z_up_far3, z_up_far4, z_up_far5, z_up_far6, Classical.not_not, not_true_eq_false, z_in, z_inL, Int.cast_ofNat_Int, Nat.reduceLeDiff, List.length_cons, List.length_nil, Nat.reduceAdd, Nat.zero_add, Nat.le_refl, true_and, and_true, List.length, Nat.reduceLT, true_or, or_true, false_or, or_false, false_and, and_false, not_true_eq_false, not_false_eq_true, forall_const, false_implies, true_implies, Int.reduceEq, Int.reduceLT, Int.reduceLE, Int.reduceAdd, Int.reduceSub, Int.reduceMul, Int.reduceNeg, Int.reduceToNat, Int.toNat_natCast, ↓reduceIte, reduceIte, Nat.reduceEqDiff, Nat.reduceSub, Nat.reduceMul, ne_eq, Int.zero_add, Int.add_zero, Int.sub_zero, Nat.add_zero, Int.ofNat_eq_natCast, tL_law_89]
    exact ⟨fun _ => T137 k σ _ _ _ _ _ b, fun q => by omega⟩
  | succ d ih =>
    intro k σ u6 u7 u10 hd b
    obtain ⟨b1, b2, b3, b4, b5, b6⟩ := id b
    have ok := w_bd_ok (w_at_ok b1) b2 i k (by omega)
    have e50 : σ 108 50 = (w_bd zx i D O k).1 5 := b3.2.2.2
    have e46 : (46 + (i : Int)).toNat = 46 + i := by omega
    have el : (w_sn (w_go (w_be zx i)) k).length ≤ 13 * k := w_sn_len (fun j => (w_go_len _ j).2) k
    refine h89 _ _ _ ?_
    simp only [z_push, z_lpush, z_iload, z_lload, z_aload, z_istore, z_istoreP, z_lstore, z_astore, z_iinc, z_iincP, z_iadd, z_isub, z_imul, z_iaddW, z_isubW, z_imulW, z_idiv, z_irem, z_iand, z_ior, z_ixor, z_ishl, z_ishr, z_iushr, z_ineg, z_i2l, z_i2b, z_i2s, z_i2c, z_l2i, z_ladd, z_lsub, z_land, z_lor, z_lshl, z_lshr, z_lcmp, z_dup, z_pop, z_dup2, z_goto, z_tsw, z_cases, z_geti, z_getr, z_puti, z_putz, z_ald, z_iast, z_bast, z_zast, z_alen, z_acopy, z_mmax, z_mmin, z_mabs, z_mabsL, z_iret, z_zret, z_nret, z_lret, z_aret, z_vret, z_cat, z_xald, z_xlen, z_ldcs, z_strv, z_strc, z_gcs, z_gfm, z_sln, z_sald, z_ifeq, z_ifne, z_iflt, z_ifge, z_ifgt, z_ifle, z_iceq, z_icne, z_iclt, z_icge, z_icgt, z_icle, z_cs0, z_cs1, z_cs2, z_cs3, z_cs4, z_cs5, z_cs6, z_cs7, z_cv0, z_cv1, z_cv2, z_cv3, z_cv4, z_cv5, z_cv6, z_cv7, z_g0, z_s0, z_g1, z_s1, z_g2, z_s2, z_g3, z_s3, z_g4, z_s4, z_g5, z_s5, z_g6, z_s6, z_g7, z_s7, z_g8, z_s8, z_g9, z_s9, z_g10, z_s10, z_g11, z_s11, z_g12, z_s12, z_g13, z_s13, z_b0, z_b1, z_b0n, z_b1n, z_up_far1, z_up_far2, z_up_far3, z_up_far4, z_up_far5, z_up_far6, Classical.not_not, not_true_eq_false, z_in, z_inL, Int.cast_ofNat_Int, Nat.reduceLeDiff, List.length_cons, List.length_nil, Nat.reduceAdd, Nat.zero_add, Nat.le_refl, true_and, and_true, List.length, Nat.reduceLT, true_or, or_true, false_or, or_false, false_and, and_false, not_true_eq_false, not_false_eq_true, forall_const, false_implies, true_implies, Int.reduceEq, Int.reduceLT, Int.reduceLE, Int.reduceAdd, Int.reduceSub, Int.reduceMul, Int.reduceNeg, Int.reduceToNat, Int.toNat_natCast, ↓reduceIte, reduceIte, Nat.reduceEqDiff, Nat.reduceSub, Nat.reduceMul, ne_eq, Int.zero_add, Int.add_zero, Int.sub_zero, Nat.add_zero, Int.ofNat_eq_natCast, tL_law_89, z_cs2n, z_w1, e50, SL_cell, SL_orders, e46, w_sar_f]
    refine ⟨fun q => by omega, fun _ _ => ⟨fun _ => T137 k σ _ _ _ _ _ b, fun c => ?_⟩⟩
    have e : w_sar (w_cell zx (46 + i)) (3 * (k : Int)) = w_bx zx i k := rfl
    have v := w_be_ok zx i k
    refine fun _ => ⟨by omega, by omega, by omega, D, O, _, (w_bd zx i D O k).1, b1, ⟨ok.2.2, b3, by omega, by omega⟩, by omega, fun σ' f a r => ⟨by omega, by omega, ?_⟩⟩
    rw [e] at a r ⊢
    refine ih (k + 1) _ _ _ _ (by omega) ⟨w_at_cg a (fun c hc => funext fun j => z_up_ne (by omega)), b2, ?_, ?_, ⟨b5.1, ?_⟩, by omega⟩
    · rw [w_bd_S]
      exact w_t_ek r (w_ek.up (fun _ _ => rfl) _ _) (by omega)
    · rw [w_bd_S]
      exact w_d_snoc (σ := σ) v.1 v.2.1.1 (by omega) b4 (fun j => by rw [z_up_same, f 109 (by omega) (by omega)])
    · rw [w_bd_S]
      have e5 : q_ddD (w_bd zx i D O k).1 (w_low (w_bx zx i k) 8) (w_otr zx (w_bx zx i k)).toNat (w_on (w_bx zx i k)) 5 = (w_bd zx i D O k).1 5 + 1 := (q_ddD_0 v.1).2
      dsimp only
      rw [e5]
      omega
