def SL_tell (zx : zX) : zS := fun as σ Ret => match as with
  | [.inr (.inr (9, 0, _)), .inr (.inr (252, 0, _))] => ∃ D O h, w_at σ D O h [] ∧ ∀ σ', w_fr σ σ' → w_at σ' (fun j => if j < 106 then w_Df zx j else D j) O 1 [] → Ret (some (.inl 1)) σ'
  | _ => False
theorem w_gT_len (zx : zX) (i : Nat) : (w_gT zx i).length ≤ 21 := by
  unfold w_gT w_tx
  simp only [List.length_append, List.length_cons, List.length_nil]
  have := w_num_len (w_tr zx i 0)
  have := w_num_len (w_tr zx i 1)
  have := w_num_len (w_tr zx i 2)
  have := w_num_len (w_tr zx i 3)
  omega
theorem w_gW_len (zx : zX) (i : Nat) : (w_gW zx i).length ≤ 17 := by
  unfold w_gW w_wx
  simp only [List.length_append, List.length_cons, List.length_nil]
  have := w_num_len (w_wi zx i 0)
  have := w_num_len (w_wi zx i 1)
  have := w_num_len (w_wi zx i 2)
  omega
def tL_tell_0 (zx : zX) (X : Nat → zB) (Ret : zR) (L : zL) (st : List zV) (σ : zM) : Prop := (z_push 0 (z_istore 2 (X 2))) L st σ
def tL_tell_2 (zx : zX) (X : Nat → zB) (Ret : zR) (L : zL) (st : List zV) (σ : zM) : Prop := (z_iload 2 (z_aload 1 (z_cs1 (SL_trees zx) (z_icge (z_push 0 (z_istore 2 (X 55))) (z_aload 0 (z_lpush 1953654117 (z_cs2 (SL_word zx) (z_push 0 (z_istore 3 (X 19)))))))))) L st σ
def tL_tell_19 (zx : zX) (X : Nat → zB) (Ret : zR) (L : zL) (st : List zV) (σ : zM) : Prop := (z_iload 3 (z_push 4 (z_icge (z_aload 0 (z_lpush 59 (z_cs2 (SL_word zx) (z_iinc 2 1 (z_goto (X 2)))))) (z_aload 0 (z_aload 1 (z_iload 2 (z_iload 3 (z_cs3 (SL_tree zx) (z_cs2 (SL_number zx) (z_iinc 3 1 (z_goto (X 19)))))))))))) L st σ
def tL_tell_55 (zx : zX) (X : Nat → zB) (Ret : zR) (L : zL) (st : List zV) (σ : zM) : Prop := (z_iload 2 (z_aload 1 (z_cs1 (SL_winds zx) (z_icge (z_aload 1 (z_cs1 (SL_tones zx) (z_ifle (X 152) (z_aload 0 (z_lpush 1953853029 (z_cs2 (SL_word zx) (z_push 0 (z_istore 2 (X 122))))))))) (z_aload 0 (z_lpush 2003398244 (z_cs2 (SL_word zx) (z_push 0 (z_istore 3 (X 72)))))))))) L st σ
def tL_tell_72 (zx : zX) (X : Nat → zB) (Ret : zR) (L : zL) (st : List zV) (σ : zM) : Prop := (z_iload 3 (z_push 3 (z_icge (z_aload 0 (z_lpush 59 (z_cs2 (SL_word zx) (z_iinc 2 1 (z_goto (X 55)))))) (z_aload 0 (z_aload 1 (z_iload 2 (z_iload 3 (z_cs3 (SL_wind zx) (z_cs2 (SL_number zx) (z_iinc 3 1 (z_goto (X 72)))))))))))) L st σ
def tL_tell_122 (zx : zX) (X : Nat → zB) (Ret : zR) (L : zL) (st : List zV) (σ : zM) : Prop := (z_iload 2 (z_aload 1 (z_cs1 (SL_tones zx) (z_icge (z_aload 0 (z_lpush 59 (z_cs2 (SL_word zx) (X 152)))) (z_aload 0 (z_aload 1 (z_iload 2 (z_cs2 (SL_tune zx) (z_cs2 (SL_number zx) (z_iinc 2 1 (z_goto (X 122)))))))))))) L st σ
def tL_tell_152 (zx : zX) (X : Nat → zB) (Ret : zR) (L : zL) (st : List zV) (σ : zM) : Prop := (z_aload 0 (z_cv0 9 SW_wood (z_aload 1 (z_cs1 (SL_trees zx) (z_icne (z_push 0 (z_zret Ret)) (z_aload 0 (z_push 2 (z_cv1 9 SW_count (z_aload 1 (z_cs1 (SL_winds zx) (z_icne (z_push 0 (z_zret Ret)) (z_aload 0 (z_push 3 (z_cv1 9 SW_count (z_aload 1 (z_cs1 (SL_tones zx) (z_icne (z_push 0 (z_zret Ret)) (z_aload 0 (z_push 4 (z_cv1 9 SW_count (z_ifne (z_push 0 (z_zret Ret)) (z_aload 0 (z_push 5 (z_cv1 9 SW_count (z_ifne (z_push 0 (z_zret Ret)) (z_aload 0 (z_push 6 (z_cv1 9 SW_count (z_ifne (z_push 0 (z_zret Ret)) (z_push 1 (z_goto (z_zret Ret)))))))))))))))))))))))))))))))) L st σ
theorem pL_tell {zx : zX} {as : List zV} {σ : zM} {Ret : zR} (h : (SL_tell zx) as σ Ret) : ∃ (k1 : Nat) (k2 : Nat), as = [.inr (.inr (9, 0, k1)), .inr (.inr (252, 0, k2))] := by
  unfold SL_tell at h
  split at h
  · exact ⟨_, _, rfl⟩
  · exact h.elim
set_option maxRecDepth 10000 in
set_option maxHeartbeats 4000000 in
theorem vL_tell {zx : zX} {X : Nat → zB} {Ret : zR} (h0 : ∀ L st σ, tL_tell_0 zx X Ret L st σ → X 0 L st σ) (h2 : ∀ L st σ, tL_tell_2 zx X Ret L st σ → X 2 L st σ) (h19 : ∀ L st σ, tL_tell_19 zx X Ret L st σ → X 19 L st σ) (h55 : ∀ L st σ, tL_tell_55 zx X Ret L st σ → X 55 L st σ) (h72 : ∀ L st σ, tL_tell_72 zx X Ret L st σ → X 72 L st σ) (h122 : ∀ L st σ, tL_tell_122 zx X Ret L st σ → X 122 L st σ) (h152 : ∀ L st σ, tL_tell_152 zx X Ret L st σ → X 152 L st σ) (k1 : Nat) (k2 : Nat) (σ : zM) (hk1 : z_kd k1 = (9, 0)) (hk2 : z_kd k2 = (252, 0)) (hσ : z_okm σ) (h : (SL_tell zx) [.inr (.inr (9, 0, k1)), .inr (.inr (252, 0, k2))] σ Ret) : X 0 [some (.inr (.inr (9, 0, k1))), some (.inr (.inr (252, 0, k2))), none, none] [] σ := by
  obtain ⟨D, O, hh, a, h⟩ := h
  have nt := w_nt_in zx
  have nw := w_nw_in zx
  have nn := w_nn_in zx
  obtain ⟨n, hn⟩ := z_nat (show 0 ≤ w_nt zx by omega)
  obtain ⟨m, hm⟩ := z_nat (show 0 ≤ w_nw zx by omega)
  obtain ⟨r, hr⟩ := z_nat (show 0 ≤ w_nn zx by omega)
  have lT : ∀ i, i ≤ n → (w_sn (w_gT zx) i).length ≤ 168 := fun i hi => by have := w_sn_len (w_gT_len zx) i; omega
  have lW : ∀ i, i ≤ m → (w_sn (w_gW zx) i).length ≤ 68 := fun i hi => by have := w_sn_len (w_gW_len zx) i; omega
  have lJ : ∀ i, i ≤ r → (w_sn (w_gJ zx) i).length ≤ 24 := fun i hi => by have := w_sn_len (g := w_gJ zx) (m := 4) (fun i => w_num_len _) i; omega
  have ap : ∀ (l s : List Int) (x : Nat), l.length ≤ x → (l ++ s).length ≤ x + s.length := fun l s x hx => by rw [List.length_append]; omega
  have df := w_Df_at zx
  have X152 : ∀ (τ : zM) (u v : Option zV), w_fr σ τ → w_at τ D O hh (w_text zx) → X 152 [some (.inr (.inr (9, 0, k1))), some (.inr (.inr (252, 0, k2))), u, v] [] τ := by
    intro τ u v f ta
    obtain ⟨e1, e2⟩ := w_text_wo zx
    refine h152 _ _ _ ?_
    simp only [z_push, z_lpush, z_iload, z_lload, z_aload, z_istore, z_istoreP, z_lstore, z_astore, z_iinc, z_iincP, z_iadd, z_isub, z_imul, z_iaddW, z_isubW, z_imulW, z_idiv, z_irem, z_iand, z_ior, z_ixor, z_ishl, z_ishr, z_iushr, z_ineg, z_i2l, z_i2b, z_i2s, z_i2c, z_l2i, z_ladd, z_lsub, z_land, z_lor, z_lshl, z_lshr, z_lcmp, z_dup, z_pop, z_dup2, z_goto, z_tsw, z_cases, z_geti, z_getr, z_puti, z_putz, z_ald, z_iast, z_bast, z_zast, z_alen, z_acopy, z_mmax, z_mmin, z_mabs, z_mabsL, z_iret, z_zret, z_nret, z_lret, z_aret, z_vret, z_cat, z_xald, z_xlen, z_ldcs, z_strv, z_strc, z_gcs, z_gfm, z_sln, z_sald, z_ifeq, z_ifne, z_iflt, z_ifge, z_ifgt, z_ifle, z_iceq, z_icne, z_iclt, z_icge, z_icgt, z_icle, z_cs0, z_cs1, z_cs2, z_cs3, z_cs4, z_cs5, z_cs6, z_cs7, z_cv0, z_cv1, z_cv2, z_cv3, z_cv4, z_cv5, z_cv6, z_cv7, z_g0, z_s0, z_g1, z_s1, z_g2, z_s2, z_g3, z_s3, z_g4, z_s4, z_g5, z_s5, z_g6, z_s6, z_g7, z_s7, z_g8, z_s8, z_g9, z_s9, z_g10, z_s10, z_g11, z_s11, z_g12, z_s12, z_g13, z_s13, z_b0, z_b1, z_b0n, z_b1n, z_up_far1, z_up_far2, z_up_far3, z_up_far4, z_up_far5, z_up_far6, Classical.not_not, not_true_eq_false, z_in, z_inL, Int.cast_ofNat_Int, Nat.reduceLeDiff, List.length_cons, List.length_nil, Nat.reduceAdd, Nat.zero_add, Nat.le_refl, true_and, and_true, List.length, Nat.reduceLT, true_or, or_true, false_or, or_false, false_and, and_false, not_true_eq_false, not_false_eq_true, forall_const, false_implies, true_implies, Int.reduceEq, Int.reduceLT, Int.reduceLE, Int.reduceAdd, Int.reduceSub, Int.reduceMul, Int.reduceNeg, Int.reduceToNat, Int.toNat_natCast, ↓reduceIte, reduceIte, Nat.reduceEqDiff, Nat.reduceSub, Nat.reduceMul, ne_eq, Int.zero_add, Int.add_zero, Int.sub_zero, Nat.add_zero, Int.ofNat_eq_natCast, tL_tell_152, SW_wood, SW_count, SL_trees, SL_winds, SL_tones, z_zret]
    refine ⟨D, O, hh, w_text zx, ta, e1, fun τ1 f1 a1 => ?_⟩
    rw [e2] at a1 ⊢
    have q1 : (if 1 < 106 then w_Df zx 1 else D 1) = w_nw zx := by rw [if_pos (by omega)]; exact df.1.2.1
    have q2 : (if 2 < 106 then w_Df zx 2 else D 2) = w_nn zx := by rw [if_pos (by omega)]; exact df.1.2.2.1
    have q3 : (if 3 < 106 then w_Df zx 3 else D 3) = 0 := by rw [if_pos (by omega)]; exact df.1.2.2.2.1
    have q4 : (if 4 < 106 then w_Df zx 4 else D 4) = 0 := by rw [if_pos (by omega)]; exact df.1.2.2.2.2.1
    have q5 : (if 5 < 106 then w_Df zx 5 else D 5) = 0 := by rw [if_pos (by omega)]; exact df.1.2.2.2.2.2
    refine ⟨fun q => absurd df.1.1 q, fun _ => ⟨_, O, 1, [], a1, fun τ2 f2 a2 => ⟨fun q => absurd q1 q, fun _ => ⟨_, O, 1, [], a2, fun τ3 f3 a3 => ⟨fun q => absurd q2 q, fun _ => ⟨_, O, 1, [], a3, fun τ4 f4 a4 => ⟨fun q => absurd q3 q, fun _ => ⟨_, O, 1, [], a4, fun τ5 f5 a5 => ⟨fun q => absurd q4 q, fun _ => ⟨_, O, 1, [], a5, fun τ6 f6 a6 => ⟨fun q => absurd q5 q, fun _ => ?_⟩⟩⟩⟩⟩⟩⟩⟩⟩⟩⟩
    exact h τ6 (((((f.tr f1).tr f2).tr f3).tr f4).tr (f5.tr f6)) a6
  -- the tune
  have X122 : ∀ (d i : Nat) (τ : zM) (u : Option zV), i + d = r → ¬ w_nn zx ≤ 0 → w_fr σ τ → w_at τ D O hh (w_sn (w_gT zx) n ++ (w_sn (w_gW zx) m ++ ([116, 117, 110, 101] ++ w_sn (w_gJ zx) i))) → X 122 [some (.inr (.inr (9, 0, k1))), some (.inr (.inr (252, 0, k2))), some (.inl (i : Int)), u] [] τ := by
    intro d
    induction d with
    | zero =>
      intro i τ u hi hn0 f ta
      have l1 := lT n (Nat.le_refl _)
      have l2 := lW m (Nat.le_refl _)
      have l3 := lJ i (by omega)
      refine h122 _ _ _ ?_
      simp only [z_push, z_lpush, z_iload, z_lload, z_aload, z_istore, z_istoreP, z_lstore, z_astore, z_iinc, z_iincP, z_iadd, z_isub, z_imul, z_iaddW, z_isubW, z_imulW, z_idiv, z_irem, z_iand, z_ior, z_ixor, z_ishl, z_ishr, z_iushr, z_ineg, z_i2l, z_i2b, z_i2s, z_i2c, z_l2i, z_ladd, z_lsub, z_land, z_lor, z_lshl, z_lshr, z_lcmp, z_dup, z_pop, z_dup2, z_goto, z_tsw, z_cases, z_geti, z_getr, z_puti, z_putz, z_ald, z_iast, z_bast, z_zast, z_alen, z_acopy, z_mmax, z_mmin, z_mabs, z_mabsL, z_iret, z_zret, z_nret, z_lret, z_aret, z_vret, z_cat, z_xald, z_xlen, z_ldcs, z_strv, z_strc, z_gcs, z_gfm, z_sln, z_sald, z_ifeq, z_ifne, z_iflt, z_ifge, z_ifgt, z_ifle, z_iceq, z_icne, z_iclt, z_icge, z_icgt, z_icle, z_cs0, z_cs1, z_cs2, z_cs3, z_cs4, z_cs5, z_cs6, z_cs7, z_cv0, z_cv1, z_cv2, z_cv3, z_cv4, z_cv5, z_cv6, z_cv7, z_g0, z_s0, z_g1, z_s1, z_g2, z_s2, z_g3, z_s3, z_g4, z_s4, z_g5, z_s5, z_g6, z_s6, z_g7, z_s7, z_g8, z_s8, z_g9, z_s9, z_g10, z_s10, z_g11, z_s11, z_g12, z_s12, z_g13, z_s13, z_b0, z_b1, z_b0n, z_b1n, z_up_far1, z_up_far2, z_up_far3, z_up_far4, z_up_far5, z_up_far6, Classical.not_not, not_true_eq_false, z_in, z_inL, Int.cast_ofNat_Int, Nat.reduceLeDiff, List.length_cons, List.length_nil, Nat.reduceAdd, Nat.zero_add, Nat.le_refl, true_and, and_true, List.length, Nat.reduceLT, true_or, or_true, false_or, or_false, false_and, and_false, not_true_eq_false, not_false_eq_true, forall_const, false_implies, true_implies, Int.reduceEq, Int.reduceLT, Int.reduceLE, Int.reduceAdd, Int.reduceSub, Int.reduceMul, Int.reduceNeg, Int.reduceToNat, Int.toNat_natCast, ↓reduceIte, reduceIte, Nat.reduceEqDiff, Nat.reduceSub, Nat.reduceMul, ne_eq, Int.zero_add, Int.add_zero, Int.sub_zero, Nat.add_zero, Int.ofNat_eq_natCast, tL_tell_122, SL_tones, SL_word, hr]
      refine ⟨fun _ => ⟨D, O, hh, _, ta, [59], by decide, ?_, fun τ2 f2 a2 => X152 τ2 _ _ (f.tr f2) ?_⟩, fun q => by omega⟩
      · simp only [List.length_append, List.length_cons, List.length_nil]; omega
      · refine (congrArg (w_at τ2 D O hh) ?_).mp a2
        unfold w_text w_R3
        rw [if_neg hn0, hn, hm, hr, Int.toNat_natCast, Int.toNat_natCast, Int.toNat_natCast, show r = i by omega]
        simp only [List.append_assoc]
    | succ d ih =>
      intro i τ u hi hn0 f ta
      have l1 := lT n (Nat.le_refl _)
      have l2 := lW m (Nat.le_refl _)
      have l3 := lJ i (by omega)
      have tu := w_tu_in zx i
      refine h122 _ _ _ ?_
      simp only [z_push, z_lpush, z_iload, z_lload, z_aload, z_istore, z_istoreP, z_lstore, z_astore, z_iinc, z_iincP, z_iadd, z_isub, z_imul, z_iaddW, z_isubW, z_imulW, z_idiv, z_irem, z_iand, z_ior, z_ixor, z_ishl, z_ishr, z_iushr, z_ineg, z_i2l, z_i2b, z_i2s, z_i2c, z_l2i, z_ladd, z_lsub, z_land, z_lor, z_lshl, z_lshr, z_lcmp, z_dup, z_pop, z_dup2, z_goto, z_tsw, z_cases, z_geti, z_getr, z_puti, z_putz, z_ald, z_iast, z_bast, z_zast, z_alen, z_acopy, z_mmax, z_mmin, z_mabs, z_mabsL, z_iret, z_zret, z_nret, z_lret, z_aret, z_vret, z_cat, z_xald, z_xlen, z_ldcs, z_strv, z_strc, z_gcs, z_gfm, z_sln, z_sald, z_ifeq, z_ifne, z_iflt, z_ifge, z_ifgt, z_ifle, z_iceq, z_icne, z_iclt, z_icge, z_icgt, z_icle, z_cs0, z_cs1, z_cs2, z_cs3, z_cs4, z_cs5, z_cs6, z_cs7, z_cv0, z_cv1, z_cv2, z_cv3, z_cv4, z_cv5, z_cv6, z_cv7, z_g0, z_s0, z_g1, z_s1, z_g2, z_s2, z_g3, z_s3, z_g4, z_s4, z_g5, z_s5, z_g6, z_s6, z_g7, z_s7, z_g8, z_s8, z_g9, z_s9, z_g10, z_s10, z_g11, z_s11, z_g12, z_s12, z_g13, z_s13, z_b0, z_b1, z_b0n, z_b1n, z_up_far1, z_up_far2, z_up_far3, z_up_far4, z_up_far5, z_up_far6, Classical.not_not, not_true_eq_false, z_in, z_inL, Int.cast_ofNat_Int, Nat.reduceLeDiff, List.length_cons, List.length_nil, Nat.reduceAdd, Nat.zero_add, Nat.le_refl, true_and, and_true, List.length, Nat.reduceLT, true_or, or_true, false_or, or_false, false_and, and_false, not_true_eq_false, not_false_eq_true, forall_const, false_implies, true_implies, Int.reduceEq, Int.reduceLT, Int.reduceLE, Int.reduceAdd, Int.reduceSub, Int.reduceMul, Int.reduceNeg, Int.reduceToNat, Int.toNat_natCast, ↓reduceIte, reduceIte, Nat.reduceEqDiff, Nat.reduceSub, Nat.reduceMul, ne_eq, Int.zero_add, Int.add_zero, Int.sub_zero, Nat.add_zero, Int.ofNat_eq_natCast, tL_tell_122, SL_tones, SL_tune, SL_number, hr]
      refine ⟨fun q => by omega, fun _ => ⟨⟨by omega, by omega⟩, D, O, hh, _, ta, tu, ?_, fun τ2 f2 a2 => ⟨by omega, ih (i + 1) τ2 _ (by omega) hn0 (f.tr f2) ?_⟩⟩⟩
      · simp only [List.length_append, List.length_cons, List.length_nil]; omega
      · refine (congrArg (w_at τ2 D O hh) ?_).mp a2
        rw [w_sn]
        simp only [List.append_assoc]
        rfl
  -- the winds
  have X55 : ∀ (d i : Nat) (τ : zM) (u : Option zV), i + d = m → w_fr σ τ → w_at τ D O hh (w_sn (w_gT zx) n ++ w_sn (w_gW zx) i) → X 55 [some (.inr (.inr (9, 0, k1))), some (.inr (.inr (252, 0, k2))), some (.inl (i : Int)), u] [] τ := by
    intro d
    induction d with
    | zero =>
      intro i τ u hi f ta
      have l1 := lT n (Nat.le_refl _)
      have l2 := lW i (by omega)
      refine h55 _ _ _ ?_
      simp only [z_push, z_lpush, z_iload, z_lload, z_aload, z_istore, z_istoreP, z_lstore, z_astore, z_iinc, z_iincP, z_iadd, z_isub, z_imul, z_iaddW, z_isubW, z_imulW, z_idiv, z_irem, z_iand, z_ior, z_ixor, z_ishl, z_ishr, z_iushr, z_ineg, z_i2l, z_i2b, z_i2s, z_i2c, z_l2i, z_ladd, z_lsub, z_land, z_lor, z_lshl, z_lshr, z_lcmp, z_dup, z_pop, z_dup2, z_goto, z_tsw, z_cases, z_geti, z_getr, z_puti, z_putz, z_ald, z_iast, z_bast, z_zast, z_alen, z_acopy, z_mmax, z_mmin, z_mabs, z_mabsL, z_iret, z_zret, z_nret, z_lret, z_aret, z_vret, z_cat, z_xald, z_xlen, z_ldcs, z_strv, z_strc, z_gcs, z_gfm, z_sln, z_sald, z_ifeq, z_ifne, z_iflt, z_ifge, z_ifgt, z_ifle, z_iceq, z_icne, z_iclt, z_icge, z_icgt, z_icle, z_cs0, z_cs1, z_cs2, z_cs3, z_cs4, z_cs5, z_cs6, z_cs7, z_cv0, z_cv1, z_cv2, z_cv3, z_cv4, z_cv5, z_cv6, z_cv7, z_g0, z_s0, z_g1, z_s1, z_g2, z_s2, z_g3, z_s3, z_g4, z_s4, z_g5, z_s5, z_g6, z_s6, z_g7, z_s7, z_g8, z_s8, z_g9, z_s9, z_g10, z_s10, z_g11, z_s11, z_g12, z_s12, z_g13, z_s13, z_b0, z_b1, z_b0n, z_b1n, z_up_far1, z_up_far2, z_up_far3, z_up_far4, z_up_far5, z_up_far6, Classical.not_not, not_true_eq_false, z_in, z_inL, Int.cast_ofNat_Int, Nat.reduceLeDiff, List.length_cons, List.length_nil, Nat.reduceAdd, Nat.zero_add, Nat.le_refl, true_and, and_true, List.length, Nat.reduceLT, true_or, or_true, false_or, or_false, false_and, and_false, not_true_eq_false, not_false_eq_true, forall_const, false_implies, true_implies, Int.reduceEq, Int.reduceLT, Int.reduceLE, Int.reduceAdd, Int.reduceSub, Int.reduceMul, Int.reduceNeg, Int.reduceToNat, Int.toNat_natCast, ↓reduceIte, reduceIte, Nat.reduceEqDiff, Nat.reduceSub, Nat.reduceMul, ne_eq, Int.zero_add, Int.add_zero, Int.sub_zero, Nat.add_zero, Int.ofNat_eq_natCast, tL_tell_55, SL_winds, SL_tones, SL_word, hm]
      refine ⟨fun _ => ⟨fun c => X152 τ _ _ f ?_, fun c => ⟨D, O, hh, _, ta, [116, 117, 110, 101], by decide, ?_, fun τ2 f2 a2 => ?_⟩⟩, fun q => by omega⟩
      · refine (congrArg (w_at τ D O hh) ?_).mp ta
        unfold w_text w_R3
        rw [if_pos c, hn, hm, Int.toNat_natCast, Int.toNat_natCast, show m = i by omega, List.append_nil]
      · simp only [List.length_append]; omega
      · refine X122 r 0 τ2 _ (by omega) c (f.tr f2) ((congrArg (w_at τ2 D O hh) ?_).mp a2)
        rw [show m = i by omega, w_sn, List.append_nil, List.append_assoc]
    | succ d ih =>
      intro i τ u hi f ta
      have l1 := lT n (Nat.le_refl _)
      have l2 := lW i (by omega)
      have X72 : ∀ (e q : Nat) (τ : zM), q + e = 3 → w_fr σ τ → w_at τ D O hh (w_sn (w_gT zx) n ++ (w_sn (w_gW zx) i ++ ([119, 105, 110, 100] ++ w_sn (fun q => w_num (w_wi zx i q)) q))) → X 72 [some (.inr (.inr (9, 0, k1))), some (.inr (.inr (252, 0, k2))), some (.inl (i : Int)), some (.inl (q : Int))] [] τ := by
        intro e
        induction e with
        | zero =>
          intro q τ hq f ta
          have l3 := w_sn_len (g := fun q => w_num (w_wi zx i q)) (m := 4) (fun _ => w_num_len _) q
          have hq : q = 3 := by omega
          subst hq
          refine h72 _ _ _ ?_
          simp only [z_push, z_lpush, z_iload, z_lload, z_aload, z_istore, z_istoreP, z_lstore, z_astore, z_iinc, z_iincP, z_iadd, z_isub, z_imul, z_iaddW, z_isubW, z_imulW, z_idiv, z_irem, z_iand, z_ior, z_ixor, z_ishl, z_ishr, z_iushr, z_ineg, z_i2l, z_i2b, z_i2s, z_i2c, z_l2i, z_ladd, z_lsub, z_land, z_lor, z_lshl, z_lshr, z_lcmp, z_dup, z_pop, z_dup2, z_goto, z_tsw, z_cases, z_geti, z_getr, z_puti, z_putz, z_ald, z_iast, z_bast, z_zast, z_alen, z_acopy, z_mmax, z_mmin, z_mabs, z_mabsL, z_iret, z_zret, z_nret, z_lret, z_aret, z_vret, z_cat, z_xald, z_xlen, z_ldcs, z_strv, z_strc, z_gcs, z_gfm, z_sln, z_sald, z_ifeq, z_ifne, z_iflt, z_ifge, z_ifgt, z_ifle, z_iceq, z_icne, z_iclt, z_icge, z_icgt, z_icle, z_cs0, z_cs1, z_cs2, z_cs3, z_cs4, z_cs5, z_cs6, z_cs7, z_cv0, z_cv1, z_cv2, z_cv3, z_cv4, z_cv5, z_cv6, z_cv7, z_g0, z_s0, z_g1, z_s1, z_g2, z_s2, z_g3, z_s3, z_g4, z_s4, z_g5, z_s5, z_g6, z_s6, z_g7, z_s7, z_g8, z_s8, z_g9, z_s9, z_g10, z_s10, z_g11, z_s11, z_g12, z_s12, z_g13, z_s13, z_b0, z_b1, z_b0n, z_b1n, z_up_far1, z_up_far2, z_up_far3, z_up_far4, z_up_far5, z_up_far6, Classical.not_not, not_true_eq_false, z_in, z_inL, Int.cast_ofNat_Int, Nat.reduceLeDiff, List.length_cons, List.length_nil, Nat.reduceAdd, Nat.zero_add, Nat.le_refl, true_and, and_true, List.length, Nat.reduceLT, true_or, or_true, false_or, or_false, false_and, and_false, not_true_eq_false, not_false_eq_true, forall_const, false_implies, true_implies, Int.reduceEq, Int.reduceLT, Int.reduceLE, Int.reduceAdd, Int.reduceSub, Int.reduceMul, Int.reduceNeg, Int.reduceToNat, Int.toNat_natCast, ↓reduceIte, reduceIte, Nat.reduceEqDiff, Nat.reduceSub, Nat.reduceMul, ne_eq, Int.zero_add, Int.add_zero, Int.sub_zero, Nat.add_zero, Int.ofNat_eq_natCast, tL_tell_72, SL_word]
          refine ⟨D, O, hh, _, ta, [59], by decide, ?_, fun τ2 f2 a2 => ⟨by omega, ih (i + 1) τ2 _ (by omega) (f.tr f2) ?_⟩⟩
          · simp only [List.length_append, List.length_cons, List.length_nil]; omega
          · refine (congrArg (w_at τ2 D O hh) ?_).mp a2
            rw [show w_sn (w_gW zx) (i + 1) = w_sn (w_gW zx) i ++ ([119, 105, 110, 100] ++ (w_num (w_wi zx i 0) ++ (w_num (w_wi zx i 1) ++ (w_num (w_wi zx i 2) ++ [59])))) from rfl]
            simp only [w_sn, List.append_assoc, List.nil_append]
        | succ e ihe =>
          intro q τ hq f ta
          have l3 := w_sn_len (g := fun q => w_num (w_wi zx i q)) (m := 4) (fun _ => w_num_len _) q
          have wi := w_wi_in zx i q
          have wi2 : w_wi zx i q ≤ 999 := by
            have hq : q = 0 ∨ q = 1 ∨ 1 < q := by omega
            rcases hq with e | e | e
            · have := wi.2.1 e; omega
            · have := wi.2.2.1 e; omega
            · have := wi.2.2.2 e; omega
          refine h72 _ _ _ ?_
          simp only [z_push, z_lpush, z_iload, z_lload, z_aload, z_istore, z_istoreP, z_lstore, z_astore, z_iinc, z_iincP, z_iadd, z_isub, z_imul, z_iaddW, z_isubW, z_imulW, z_idiv, z_irem, z_iand, z_ior, z_ixor, z_ishl, z_ishr, z_iushr, z_ineg, z_i2l, z_i2b, z_i2s, z_i2c, z_l2i, z_ladd, z_lsub, z_land, z_lor, z_lshl, z_lshr, z_lcmp, z_dup, z_pop, z_dup2, z_goto, z_tsw, z_cases, z_geti, z_getr, z_puti, z_putz, z_ald, z_iast, z_bast, z_zast, z_alen, z_acopy, z_mmax, z_mmin, z_mabs, z_mabsL, z_iret, z_zret, z_nret, z_lret, z_aret, z_vret, z_cat, z_xald, z_xlen, z_ldcs, z_strv, z_strc, z_gcs, z_gfm, z_sln, z_sald, z_ifeq, z_ifne, z_iflt, z_ifge, z_ifgt, z_ifle, z_iceq, z_icne, z_iclt, z_icge, z_icgt, z_icle, z_cs0, z_cs1, z_cs2, z_cs3, z_cs4, z_cs5, z_cs6, z_cs7, z_cv0, z_cv1, z_cv2, z_cv3, z_cv4, z_cv5, z_cv6, z_cv7, z_g0, z_s0, z_g1, z_s1, z_g2, z_s2, z_g3, z_s3, z_g4, z_s4, z_g5, z_s5, z_g6, z_s6, z_g7, z_s7, z_g8, z_s8, z_g9, z_s9, z_g10, z_s10, z_g11, z_s11, z_g12, z_s12, z_g13, z_s13, z_b0, z_b1, z_b0n, z_b1n, z_up_far1, z_up_far2, z_up_far3, z_up_far4, z_up_far5, z_up_far6, Classical.not_not, not_true_eq_false, z_in, z_inL, Int.cast_ofNat_Int, Nat.reduceLeDiff, List.length_cons, List.length_nil, Nat.reduceAdd, Nat.zero_add, Nat.le_refl, true_and, and_true, List.length, Nat.reduceLT, true_or, or_true, false_or, or_false, false_and, and_false, not_true_eq_false, not_false_eq_true, forall_const, false_implies, true_implies, Int.reduceEq, Int.reduceLT, Int.reduceLE, Int.reduceAdd, Int.reduceSub, Int.reduceMul, Int.reduceNeg, Int.reduceToNat, Int.toNat_natCast, ↓reduceIte, reduceIte, Nat.reduceEqDiff, Nat.reduceSub, Nat.reduceMul, ne_eq, Int.zero_add, Int.add_zero, Int.sub_zero, Nat.add_zero, Int.ofNat_eq_natCast, tL_tell_72, SL_wind, SL_number]
          refine ⟨fun q => by omega, fun _ => ⟨⟨⟨by omega, by omega⟩, by omega, by omega⟩, D, O, hh, _, ta, ⟨wi.1, wi2⟩, ?_, fun τ2 f2 a2 => ⟨by omega, ihe (q + 1) τ2 (by omega) (f.tr f2) ?_⟩⟩⟩
          · simp only [List.length_append, List.length_cons, List.length_nil]; omega
          · refine (congrArg (w_at τ2 D O hh) ?_).mp a2
            rw [w_sn]
            simp only [List.append_assoc]
      refine h55 _ _ _ ?_
      simp only [z_push, z_lpush, z_iload, z_lload, z_aload, z_istore, z_istoreP, z_lstore, z_astore, z_iinc, z_iincP, z_iadd, z_isub, z_imul, z_iaddW, z_isubW, z_imulW, z_idiv, z_irem, z_iand, z_ior, z_ixor, z_ishl, z_ishr, z_iushr, z_ineg, z_i2l, z_i2b, z_i2s, z_i2c, z_l2i, z_ladd, z_lsub, z_land, z_lor, z_lshl, z_lshr, z_lcmp, z_dup, z_pop, z_dup2, z_goto, z_tsw, z_cases, z_geti, z_getr, z_puti, z_putz, z_ald, z_iast, z_bast, z_zast, z_alen, z_acopy, z_mmax, z_mmin, z_mabs, z_mabsL, z_iret, z_zret, z_nret, z_lret, z_aret, z_vret, z_cat, z_xald, z_xlen, z_ldcs, z_strv, z_strc, z_gcs, z_gfm, z_sln, z_sald, z_ifeq, z_ifne, z_iflt, z_ifge, z_ifgt, z_ifle, z_iceq, z_icne, z_iclt, z_icge, z_icgt, z_icle, z_cs0, z_cs1, z_cs2, z_cs3, z_cs4, z_cs5, z_cs6, z_cs7, z_cv0, z_cv1, z_cv2, z_cv3, z_cv4, z_cv5, z_cv6, z_cv7, z_g0, z_s0, z_g1, z_s1, z_g2, z_s2, z_g3, z_s3, z_g4, z_s4, z_g5, z_s5, z_g6, z_s6, z_g7, z_s7, z_g8, z_s8, z_g9, z_s9, z_g10, z_s10, z_g11, z_s11, z_g12, z_s12, z_g13, z_s13, z_b0, z_b1, z_b0n, z_b1n, z_up_far1, z_up_far2, z_up_far3, z_up_far4, z_up_far5, z_up_far6, Classical.not_not, not_true_eq_false, z_in, z_inL, Int.cast_ofNat_Int, Nat.reduceLeDiff, List.length_cons, List.length_nil, Nat.reduceAdd, Nat.zero_add, Nat.le_refl, true_and, and_true, List.length, Nat.reduceLT, true_or, or_true, false_or, or_false, false_and, and_false, not_true_eq_false, not_false_eq_true, forall_const, false_implies, true_implies, Int.reduceEq, Int.reduceLT, Int.reduceLE, Int.reduceAdd, Int.reduceSub, Int.reduceMul, Int.reduceNeg, Int.reduceToNat, Int.toNat_natCast, ↓reduceIte, reduceIte, Nat.reduceEqDiff, Nat.reduceSub, Nat.reduceMul, ne_eq, Int.zero_add, Int.add_zero, Int.sub_zero, Nat.add_zero, Int.ofNat_eq_natCast, tL_tell_55, SL_winds, SL_word, hm]
      refine ⟨fun q => by omega, fun _ => ⟨D, O, hh, _, ta, [119, 105, 110, 100], by decide, ?_, fun τ2 f2 a2 => X72 3 0 τ2 rfl (f.tr f2) ?_⟩⟩
      · simp only [List.length_append]; omega
      · refine (congrArg (w_at τ2 D O hh) ?_).mp a2
        rw [w_sn, List.append_nil, List.append_assoc]
  -- the trees
  have X2 : ∀ (d i : Nat) (τ : zM) (u : Option zV), i + d = n → w_fr σ τ → w_at τ D O hh (w_sn (w_gT zx) i) → X 2 [some (.inr (.inr (9, 0, k1))), some (.inr (.inr (252, 0, k2))), some (.inl (i : Int)), u] [] τ := by
    intro d
    induction d with
    | zero =>
      intro i τ u hi f ta
      refine h2 _ _ _ ?_
      simp only [z_push, z_lpush, z_iload, z_lload, z_aload, z_istore, z_istoreP, z_lstore, z_astore, z_iinc, z_iincP, z_iadd, z_isub, z_imul, z_iaddW, z_isubW, z_imulW, z_idiv, z_irem, z_iand, z_ior, z_ixor, z_ishl, z_ishr, z_iushr, z_ineg, z_i2l, z_i2b, z_i2s, z_i2c, z_l2i, z_ladd, z_lsub, z_land, z_lor, z_lshl, z_lshr, z_lcmp, z_dup, z_pop, z_dup2, z_goto, z_tsw, z_cases, z_geti, z_getr, z_puti, z_putz, z_ald, z_iast, z_bast, z_zast, z_alen, z_acopy, z_mmax, z_mmin, z_mabs, z_mabsL, z_iret, z_zret, z_nret, z_lret, z_aret, z_vret, z_cat, z_xald, z_xlen, z_ldcs, z_strv, z_strc, z_gcs, z_gfm, z_sln, z_sald, z_ifeq, z_ifne, z_iflt, z_ifge, z_ifgt, z_ifle, z_iceq, z_icne, z_iclt, z_icge, z_icgt, z_icle, z_cs0, z_cs1, z_cs2, z_cs3, z_cs4, z_cs5, z_cs6, z_cs7, z_cv0, z_cv1, z_cv2, z_cv3, z_cv4, z_cv5, z_cv6, z_cv7, z_g0, z_s0, z_g1, z_s1, z_g2, z_s2, z_g3, z_s3, z_g4, z_s4, z_g5, z_s5, z_g6, z_s6, z_g7, z_s7, z_g8, z_s8, z_g9, z_s9, z_g10, z_s10, z_g11, z_s11, z_g12, z_s12, z_g13, z_s13, z_b0, z_b1, z_b0n, z_b1n, z_up_far1, z_up_far2, z_up_far3, z_up_far4, z_up_far5, z_up_far6, Classical.not_not, not_true_eq_false, z_in, z_inL, Int.cast_ofNat_Int, Nat.reduceLeDiff, List.length_cons, List.length_nil, Nat.reduceAdd, Nat.zero_add, Nat.le_refl, true_and, and_true, List.length, Nat.reduceLT, true_or, or_true, false_or, or_false, false_and, and_false, not_true_eq_false, not_false_eq_true, forall_const, false_implies, true_implies, Int.reduceEq, Int.reduceLT, Int.reduceLE, Int.reduceAdd, Int.reduceSub, Int.reduceMul, Int.reduceNeg, Int.reduceToNat, Int.toNat_natCast, ↓reduceIte, reduceIte, Nat.reduceEqDiff, Nat.reduceSub, Nat.reduceMul, ne_eq, Int.zero_add, Int.add_zero, Int.sub_zero, Nat.add_zero, Int.ofNat_eq_natCast, tL_tell_2, SL_trees, hn]
      refine ⟨fun _ => X55 m 0 τ _ (by omega) f ?_, fun q => by omega⟩
      rw [w_sn, List.append_nil, show n = i by omega]
      exact ta
    | succ d ih =>
      intro i τ u hi f ta
      have l1 := lT i (by omega)
      have X19 : ∀ (e q : Nat) (τ : zM), q + e = 4 → w_fr σ τ → w_at τ D O hh (w_sn (w_gT zx) i ++ ([116, 114, 101, 101] ++ w_sn (fun q => w_num (w_tr zx i q)) q)) → X 19 [some (.inr (.inr (9, 0, k1))), some (.inr (.inr (252, 0, k2))), some (.inl (i : Int)), some (.inl (q : Int))] [] τ := by
        intro e
        induction e with
        | zero =>
          intro q τ hq f ta
          have l3 := w_sn_len (g := fun q => w_num (w_tr zx i q)) (m := 4) (fun _ => w_num_len _) q
          have hq : q = 4 := by omega
          subst hq
          refine h19 _ _ _ ?_
          simp only [z_push, z_lpush, z_iload, z_lload, z_aload, z_istore, z_istoreP, z_lstore, z_astore, z_iinc, z_iincP, z_iadd, z_isub, z_imul, z_iaddW, z_isubW, z_imulW, z_idiv, z_irem, z_iand, z_ior, z_ixor, z_ishl, z_ishr, z_iushr, z_ineg, z_i2l, z_i2b, z_i2s, z_i2c, z_l2i, z_ladd, z_lsub, z_land, z_lor, z_lshl, z_lshr, z_lcmp, z_dup, z_pop, z_dup2, z_goto, z_tsw, z_cases, z_geti, z_getr, z_puti, z_putz, z_ald, z_iast, z_bast, z_zast, z_alen, z_acopy, z_mmax, z_mmin, z_mabs, z_mabsL, z_iret, z_zret, z_nret, z_lret, z_aret, z_vret, z_cat, z_xald, z_xlen, z_ldcs, z_strv, z_strc, z_gcs, z_gfm, z_sln, z_sald, z_ifeq, z_ifne, z_iflt, z_ifge, z_ifgt, z_ifle, z_iceq, z_icne, z_iclt, z_icge, z_icgt, z_icle, z_cs0, z_cs1, z_cs2, z_cs3, z_cs4, z_cs5, z_cs6, z_cs7, z_cv0, z_cv1, z_cv2, z_cv3, z_cv4, z_cv5, z_cv6, z_cv7, z_g0, z_s0, z_g1, z_s1, z_g2, z_s2, z_g3, z_s3, z_g4, z_s4, z_g5, z_s5, z_g6, z_s6, z_g7, z_s7, z_g8, z_s8, z_g9, z_s9, z_g10, z_s10, z_g11, z_s11, z_g12, z_s12, z_g13, z_s13, z_b0, z_b1, z_b0n, z_b1n, z_up_far1, z_up_far2, z_up_far3, z_up_far4, z_up_far5, z_up_far6, Classical.not_not, not_true_eq_false, z_in, z_inL, Int.cast_ofNat_Int, Nat.reduceLeDiff, List.length_cons, List.length_nil, Nat.reduceAdd, Nat.zero_add, Nat.le_refl, true_and, and_true, List.length, Nat.reduceLT, true_or, or_true, false_or, or_false, false_and, and_false, not_true_eq_false, not_false_eq_true, forall_const, false_implies, true_implies, Int.reduceEq, Int.reduceLT, Int.reduceLE, Int.reduceAdd, Int.reduceSub, Int.reduceMul, Int.reduceNeg, Int.reduceToNat, Int.toNat_natCast, ↓reduceIte, reduceIte, Nat.reduceEqDiff, Nat.reduceSub, Nat.reduceMul, ne_eq, Int.zero_add, Int.add_zero, Int.sub_zero, Nat.add_zero, Int.ofNat_eq_natCast, tL_tell_19, SL_word]
          refine ⟨D, O, hh, _, ta, [59], by decide, ?_, fun τ2 f2 a2 => ⟨by omega, ih (i + 1) τ2 _ (by omega) (f.tr f2) ?_⟩⟩
          · simp only [List.length_append, List.length_cons, List.length_nil]; omega
          · refine (congrArg (w_at τ2 D O hh) ?_).mp a2
            rw [show w_sn (w_gT zx) (i + 1) = w_sn (w_gT zx) i ++ ([116, 114, 101, 101] ++ (w_num (w_tr zx i 0) ++ (w_num (w_tr zx i 1) ++ (w_num (w_tr zx i 2) ++ (w_num (w_tr zx i 3) ++ [59]))))) from rfl]
            simp only [w_sn, List.append_assoc, List.nil_append]
        | succ e ihe =>
          intro q τ hq f ta
          have l3 := w_sn_len (g := fun q => w_num (w_tr zx i q)) (m := 4) (fun _ => w_num_len _) q
          have wi := w_tr_in zx i q
          have wi2 : w_tr zx i q ≤ 999 := by
            have hq : q = 0 ∨ q = 1 ∨ q = 2 ∨ 2 < q := by omega
            rcases hq with e | e | e | e
            · have := wi.2.1 e; omega
            · have := wi.2.2.1 e; omega
            · have := wi.2.2.2.1 e; omega
            · have := wi.2.2.2.2 e; omega
          refine h19 _ _ _ ?_
          simp only [z_push, z_lpush, z_iload, z_lload, z_aload, z_istore, z_istoreP, z_lstore, z_astore, z_iinc, z_iincP, z_iadd, z_isub, z_imul, z_iaddW, z_isubW, z_imulW, z_idiv, z_irem, z_iand, z_ior, z_ixor, z_ishl, z_ishr, z_iushr, z_ineg, z_i2l, z_i2b, z_i2s, z_i2c, z_l2i, z_ladd, z_lsub, z_land, z_lor, z_lshl, z_lshr, z_lcmp, z_dup, z_pop, z_dup2, z_goto, z_tsw, z_cases, z_geti, z_getr, z_puti, z_putz, z_ald, z_iast, z_bast, z_zast, z_alen, z_acopy, z_mmax, z_mmin, z_mabs, z_mabsL, z_iret, z_zret, z_nret, z_lret, z_aret, z_vret, z_cat, z_xald, z_xlen, z_ldcs, z_strv, z_strc, z_gcs, z_gfm, z_sln, z_sald, z_ifeq, z_ifne, z_iflt, z_ifge, z_ifgt, z_ifle, z_iceq, z_icne, z_iclt, z_icge, z_icgt, z_icle, z_cs0, z_cs1, z_cs2, z_cs3, z_cs4, z_cs5, z_cs6, z_cs7, z_cv0, z_cv1, z_cv2, z_cv3, z_cv4, z_cv5, z_cv6, z_cv7, z_g0, z_s0, z_g1, z_s1, z_g2, z_s2, z_g3, z_s3, z_g4, z_s4, z_g5, z_s5, z_g6, z_s6, z_g7, z_s7, z_g8, z_s8, z_g9, z_s9, z_g10, z_s10, z_g11, z_s11, z_g12, z_s12, z_g13, z_s13, z_b0, z_b1, z_b0n, z_b1n, z_up_far1, z_up_far2, z_up_far3, z_up_far4, z_up_far5, z_up_far6, Classical.not_not, not_true_eq_false, z_in, z_inL, Int.cast_ofNat_Int, Nat.reduceLeDiff, List.length_cons, List.length_nil, Nat.reduceAdd, Nat.zero_add, Nat.le_refl, true_and, and_true, List.length, Nat.reduceLT, true_or, or_true, false_or, or_false, false_and, and_false, not_true_eq_false, not_false_eq_true, forall_const, false_implies, true_implies, Int.reduceEq, Int.reduceLT, Int.reduceLE, Int.reduceAdd, Int.reduceSub, Int.reduceMul, Int.reduceNeg, Int.reduceToNat, Int.toNat_natCast, ↓reduceIte, reduceIte, Nat.reduceEqDiff, Nat.reduceSub, Nat.reduceMul, ne_eq, Int.zero_add, Int.add_zero, Int.sub_zero, Nat.add_zero, Int.ofNat_eq_natCast, tL_tell_19, SL_tree, SL_number]
          refine ⟨fun q => by omega, fun _ => ⟨⟨⟨by omega, by omega⟩, by omega, by omega⟩, D, O, hh, _, ta, ⟨wi.1, wi2⟩, ?_, fun τ2 f2 a2 => ⟨by omega, ihe (q + 1) τ2 (by omega) (f.tr f2) ?_⟩⟩⟩
          · simp only [List.length_append, List.length_cons, List.length_nil]; omega
          · refine (congrArg (w_at τ2 D O hh) ?_).mp a2
            rw [w_sn]
            simp only [List.append_assoc]
      refine h2 _ _ _ ?_
      simp only [z_push, z_lpush, z_iload, z_lload, z_aload, z_istore, z_istoreP, z_lstore, z_astore, z_iinc, z_iincP, z_iadd, z_isub, z_imul, z_iaddW, z_isubW, z_imulW, z_idiv, z_irem, z_iand, z_ior, z_ixor, z_ishl, z_ishr, z_iushr, z_ineg, z_i2l, z_i2b, z_i2s, z_i2c, z_l2i, z_ladd, z_lsub, z_land, z_lor, z_lshl, z_lshr, z_lcmp, z_dup, z_pop, z_dup2, z_goto, z_tsw, z_cases, z_geti, z_getr, z_puti, z_putz, z_ald, z_iast, z_bast, z_zast, z_alen, z_acopy, z_mmax, z_mmin, z_mabs, z_mabsL, z_iret, z_zret, z_nret, z_lret, z_aret, z_vret, z_cat, z_xald, z_xlen, z_ldcs, z_strv, z_strc, z_gcs, z_gfm, z_sln, z_sald, z_ifeq, z_ifne, z_iflt, z_ifge, z_ifgt, z_ifle, z_iceq, z_icne, z_iclt, z_icge, z_icgt, z_icle, z_cs0, z_cs1, z_cs2, z_cs3, z_cs4, z_cs5, z_cs6, z_cs7, z_cv0, z_cv1, z_cv2, z_cv3, z_cv4, z_cv5, z_cv6, z_cv7, z_g0, z_s0, z_g1, z_s1, z_g2, z_s2, z_g3, z_s3, z_g4, z_s4, z_g5, z_s5, z_g6, z_s6, z_g7, z_s7, z_g8, z_s8, z_g9, z_s9, z_g10, z_s10, z_g11, z_s11, z_g12, z_s12, z_g13, z_s13, z_b0, z_b1, z_b0n, z_b1n, z_up_far1, z_up_far2, z_up_far3, z_up_far4, z_up_far5, z_up_far6, Classical.not_not, not_true_eq_false, z_in, z_inL, Int.cast_ofNat_Int, Nat.reduceLeDiff, List.length_cons, List.length_nil, Nat.reduceAdd, Nat.zero_add, Nat.le_refl, true_and, and_true, List.length, Nat.reduceLT, true_or, or_true, false_or, or_false, false_and, and_false, not_true_eq_false, not_false_eq_true, forall_const, false_implies, true_implies, Int.reduceEq, Int.reduceLT, Int.reduceLE, Int.reduceAdd, Int.reduceSub, Int.reduceMul, Int.reduceNeg, Int.reduceToNat, Int.toNat_natCast, ↓reduceIte, reduceIte, Nat.reduceEqDiff, Nat.reduceSub, Nat.reduceMul, ne_eq, Int.zero_add, Int.add_zero, Int.sub_zero, Nat.add_zero, Int.ofNat_eq_natCast, tL_tell_2, SL_trees, SL_word, hn]
      refine ⟨fun q => by omega, fun _ => ⟨D, O, hh, _, ta, [116, 114, 101, 101], by decide, ?_, fun τ2 f2 a2 => X19 4 0 τ2 rfl (f.tr f2) ?_⟩⟩
      · omega
      · refine (congrArg (w_at τ2 D O hh) ?_).mp a2
        rw [w_sn, List.append_nil]
  refine h0 _ _ _ ?_
  simp only [z_push, z_lpush, z_iload, z_lload, z_aload, z_istore, z_istoreP, z_lstore, z_astore, z_iinc, z_iincP, z_iadd, z_isub, z_imul, z_iaddW, z_isubW, z_imulW, z_idiv, z_irem, z_iand, z_ior, z_ixor, z_ishl, z_ishr, z_iushr, z_ineg, z_i2l, z_i2b, z_i2s, z_i2c, z_l2i, z_ladd, z_lsub, z_land, z_lor, z_lshl, z_lshr, z_lcmp, z_dup, z_pop, z_dup2, z_goto, z_tsw, z_cases, z_geti, z_getr, z_puti, z_putz, z_ald, z_iast, z_bast, z_zast, z_alen, z_acopy, z_mmax, z_mmin, z_mabs, z_mabsL, z_iret, z_zret, z_nret, z_lret, z_aret, z_vret, z_cat, z_xald, z_xlen, z_ldcs, z_strv, z_strc, z_gcs, z_gfm, z_sln, z_sald, z_ifeq, z_ifne, z_iflt, z_ifge, z_ifgt, z_ifle, z_iceq, z_icne, z_iclt, z_icge, z_icgt, z_icle, z_cs0, z_cs1, z_cs2, z_cs3, z_cs4, z_cs5, z_cs6, z_cs7, z_cv0, z_cv1, z_cv2, z_cv3, z_cv4, z_cv5, z_cv6, z_cv7, z_g0, z_s0, z_g1, z_s1, z_g2, z_s2, z_g3, z_s3, z_g4, z_s4, z_g5, z_s5, z_g6, z_s6, z_g7, z_s7, z_g8, z_s8, z_g9, z_s9, z_g10, z_s10, z_g11, z_s11, z_g12, z_s12, z_g13, z_s13, z_b0, z_b1, z_b0n, z_b1n, z_up_far1, z_up_far2, z_up_far3, z_up_far4, z_up_far5, z_up_far6, Classical.not_not, not_true_eq_false, z_in, z_inL, Int.cast_ofNat_Int, Nat.reduceLeDiff, List.length_cons, List.length_nil, Nat.reduceAdd, Nat.zero_add, Nat.le_refl, true_and, and_true, List.length, Nat.reduceLT, true_or, or_true, false_or, or_false, false_and, and_false, not_true_eq_false, not_false_eq_true, forall_const, false_implies, true_implies, Int.reduceEq, Int.reduceLT, Int.reduceLE, Int.reduceAdd, Int.reduceSub, Int.reduceMul, Int.reduceNeg, Int.reduceToNat, Int.toNat_natCast, ↓reduceIte, reduceIte, Nat.reduceEqDiff, Nat.reduceSub, Nat.reduceMul, ne_eq, Int.zero_add, Int.add_zero, Int.sub_zero, Nat.add_zero, Int.ofNat_eq_natCast, tL_tell_0]
  exact X2 n 0 σ _ (by omega) w_fr.rf a
theorem dL_tell_0 : decode cL_tell 0 = .ok (.iconst 0, 1) := by decide +kernel
theorem dL_tell_1 : decode cL_tell 1 = .ok (.istore_n 2, 1) := by decide +kernel
theorem dL_tell_2 : decode cL_tell 2 = .ok (.iload_n 2, 1) := by decide +kernel
theorem dL_tell_3 : decode cL_tell 3 = .ok (.aload_n 1, 1) := by decide +kernel
theorem dL_tell_4 : decode cL_tell 4 = .ok (.invokestatic 27, 3) := by decide +kernel
theorem dL_tell_7 : decode cL_tell 7 = .ok (.if_icmp .ge 46, 3) := by decide +kernel
theorem dL_tell_10 : decode cL_tell 10 = .ok (.aload_n 0, 1) := by decide +kernel
theorem dL_tell_11 : decode cL_tell 11 = .ok (.ldc2_w 35, 3) := by decide +kernel
theorem dL_tell_14 : decode cL_tell 14 = .ok (.invokestatic 37, 3) := by decide +kernel
theorem dL_tell_17 : decode cL_tell 17 = .ok (.iconst 0, 1) := by decide +kernel
theorem dL_tell_18 : decode cL_tell 18 = .ok (.istore_n 3, 1) := by decide +kernel
theorem dL_tell_19 : decode cL_tell 19 = .ok (.iload_n 3, 1) := by decide +kernel
theorem dL_tell_20 : decode cL_tell 20 = .ok (.iconst 4, 1) := by decide +kernel
theorem dL_tell_21 : decode cL_tell 21 = .ok (.if_icmp .ge 19, 3) := by decide +kernel
theorem dL_tell_24 : decode cL_tell 24 = .ok (.aload_n 0, 1) := by decide +kernel
theorem dL_tell_25 : decode cL_tell 25 = .ok (.aload_n 1, 1) := by decide +kernel
theorem dL_tell_26 : decode cL_tell 26 = .ok (.iload_n 2, 1) := by decide +kernel
theorem dL_tell_27 : decode cL_tell 27 = .ok (.iload_n 3, 1) := by decide +kernel
theorem dL_tell_28 : decode cL_tell 28 = .ok (.invokestatic 31, 3) := by decide +kernel
theorem dL_tell_31 : decode cL_tell 31 = .ok (.invokestatic 41, 3) := by decide +kernel
theorem dL_tell_34 : decode cL_tell 34 = .ok (.iinc 3 1, 3) := by decide +kernel
theorem dL_tell_37 : decode cL_tell 37 = .ok (.goto (-18), 3) := by decide +kernel
theorem dL_tell_40 : decode cL_tell 40 = .ok (.aload_n 0, 1) := by decide +kernel
theorem dL_tell_41 : decode cL_tell 41 = .ok (.ldc2_w 45, 3) := by decide +kernel
theorem dL_tell_44 : decode cL_tell 44 = .ok (.invokestatic 37, 3) := by decide +kernel
theorem dL_tell_47 : decode cL_tell 47 = .ok (.iinc 2 1, 3) := by decide +kernel
theorem dL_tell_50 : decode cL_tell 50 = .ok (.goto (-48), 3) := by decide +kernel
theorem dL_tell_53 : decode cL_tell 53 = .ok (.iconst 0, 1) := by decide +kernel
theorem dL_tell_54 : decode cL_tell 54 = .ok (.istore_n 2, 1) := by decide +kernel
theorem dL_tell_55 : decode cL_tell 55 = .ok (.iload_n 2, 1) := by decide +kernel
theorem dL_tell_56 : decode cL_tell 56 = .ok (.aload_n 1, 1) := by decide +kernel
theorem dL_tell_57 : decode cL_tell 57 = .ok (.invokestatic 47, 3) := by decide +kernel
theorem dL_tell_60 : decode cL_tell 60 = .ok (.if_icmp .ge 46, 3) := by decide +kernel
theorem dL_tell_63 : decode cL_tell 63 = .ok (.aload_n 0, 1) := by decide +kernel
theorem dL_tell_64 : decode cL_tell 64 = .ok (.ldc2_w 50, 3) := by decide +kernel
theorem dL_tell_67 : decode cL_tell 67 = .ok (.invokestatic 37, 3) := by decide +kernel
theorem dL_tell_70 : decode cL_tell 70 = .ok (.iconst 0, 1) := by decide +kernel
theorem dL_tell_71 : decode cL_tell 71 = .ok (.istore_n 3, 1) := by decide +kernel
theorem dL_tell_72 : decode cL_tell 72 = .ok (.iload_n 3, 1) := by decide +kernel
theorem dL_tell_73 : decode cL_tell 73 = .ok (.iconst 3, 1) := by decide +kernel
theorem dL_tell_74 : decode cL_tell 74 = .ok (.if_icmp .ge 19, 3) := by decide +kernel
theorem dL_tell_77 : decode cL_tell 77 = .ok (.aload_n 0, 1) := by decide +kernel
theorem dL_tell_78 : decode cL_tell 78 = .ok (.aload_n 1, 1) := by decide +kernel
theorem dL_tell_79 : decode cL_tell 79 = .ok (.iload_n 2, 1) := by decide +kernel
theorem dL_tell_80 : decode cL_tell 80 = .ok (.iload_n 3, 1) := by decide +kernel
theorem dL_tell_81 : decode cL_tell 81 = .ok (.invokestatic 52, 3) := by decide +kernel
theorem dL_tell_84 : decode cL_tell 84 = .ok (.invokestatic 41, 3) := by decide +kernel
theorem dL_tell_87 : decode cL_tell 87 = .ok (.iinc 3 1, 3) := by decide +kernel
theorem dL_tell_90 : decode cL_tell 90 = .ok (.goto (-18), 3) := by decide +kernel
theorem dL_tell_93 : decode cL_tell 93 = .ok (.aload_n 0, 1) := by decide +kernel
theorem dL_tell_94 : decode cL_tell 94 = .ok (.ldc2_w 45, 3) := by decide +kernel
theorem dL_tell_97 : decode cL_tell 97 = .ok (.invokestatic 37, 3) := by decide +kernel
theorem dL_tell_100 : decode cL_tell 100 = .ok (.iinc 2 1, 3) := by decide +kernel
theorem dL_tell_103 : decode cL_tell 103 = .ok (.goto (-48), 3) := by decide +kernel
theorem dL_tell_106 : decode cL_tell 106 = .ok (.aload_n 1, 1) := by decide +kernel
theorem dL_tell_107 : decode cL_tell 107 = .ok (.invokestatic 55, 3) := by decide +kernel
theorem dL_tell_110 : decode cL_tell 110 = .ok (.ifCond .le 42, 3) := by decide +kernel
theorem dL_tell_113 : decode cL_tell 113 = .ok (.aload_n 0, 1) := by decide +kernel
theorem dL_tell_114 : decode cL_tell 114 = .ok (.ldc2_w 58, 3) := by decide +kernel
theorem dL_tell_117 : decode cL_tell 117 = .ok (.invokestatic 37, 3) := by decide +kernel
theorem dL_tell_120 : decode cL_tell 120 = .ok (.iconst 0, 1) := by decide +kernel
theorem dL_tell_121 : decode cL_tell 121 = .ok (.istore_n 2, 1) := by decide +kernel
theorem dL_tell_122 : decode cL_tell 122 = .ok (.iload_n 2, 1) := by decide +kernel
theorem dL_tell_123 : decode cL_tell 123 = .ok (.aload_n 1, 1) := by decide +kernel
theorem dL_tell_124 : decode cL_tell 124 = .ok (.invokestatic 55, 3) := by decide +kernel
theorem dL_tell_127 : decode cL_tell 127 = .ok (.if_icmp .ge 18, 3) := by decide +kernel
theorem dL_tell_130 : decode cL_tell 130 = .ok (.aload_n 0, 1) := by decide +kernel
theorem dL_tell_131 : decode cL_tell 131 = .ok (.aload_n 1, 1) := by decide +kernel
theorem dL_tell_132 : decode cL_tell 132 = .ok (.iload_n 2, 1) := by decide +kernel
theorem dL_tell_133 : decode cL_tell 133 = .ok (.invokestatic 60, 3) := by decide +kernel
theorem dL_tell_136 : decode cL_tell 136 = .ok (.invokestatic 41, 3) := by decide +kernel
theorem dL_tell_139 : decode cL_tell 139 = .ok (.iinc 2 1, 3) := by decide +kernel
theorem dL_tell_142 : decode cL_tell 142 = .ok (.goto (-20), 3) := by decide +kernel
theorem dL_tell_145 : decode cL_tell 145 = .ok (.aload_n 0, 1) := by decide +kernel
theorem dL_tell_146 : decode cL_tell 146 = .ok (.ldc2_w 45, 3) := by decide +kernel
theorem dL_tell_149 : decode cL_tell 149 = .ok (.invokestatic 37, 3) := by decide +kernel
theorem dL_tell_152 : decode cL_tell 152 = .ok (.aload_n 0, 1) := by decide +kernel
theorem dL_tell_153 : decode cL_tell 153 = .ok (.invokevirtual 63, 3) := by decide +kernel
theorem dL_tell_156 : decode cL_tell 156 = .ok (.aload_n 1, 1) := by decide +kernel
theorem dL_tell_157 : decode cL_tell 157 = .ok (.invokestatic 27, 3) := by decide +kernel
theorem dL_tell_160 : decode cL_tell 160 = .ok (.if_icmp .ne 56, 3) := by decide +kernel
theorem dL_tell_163 : decode cL_tell 163 = .ok (.aload_n 0, 1) := by decide +kernel
theorem dL_tell_164 : decode cL_tell 164 = .ok (.iconst 2, 1) := by decide +kernel
theorem dL_tell_165 : decode cL_tell 165 = .ok (.invokevirtual 67, 3) := by decide +kernel
theorem dL_tell_168 : decode cL_tell 168 = .ok (.aload_n 1, 1) := by decide +kernel
theorem dL_tell_169 : decode cL_tell 169 = .ok (.invokestatic 47, 3) := by decide +kernel
theorem dL_tell_172 : decode cL_tell 172 = .ok (.if_icmp .ne 44, 3) := by decide +kernel
theorem dL_tell_175 : decode cL_tell 175 = .ok (.aload_n 0, 1) := by decide +kernel
theorem dL_tell_176 : decode cL_tell 176 = .ok (.iconst 3, 1) := by decide +kernel
theorem dL_tell_177 : decode cL_tell 177 = .ok (.invokevirtual 67, 3) := by decide +kernel
theorem dL_tell_180 : decode cL_tell 180 = .ok (.aload_n 1, 1) := by decide +kernel
theorem dL_tell_181 : decode cL_tell 181 = .ok (.invokestatic 55, 3) := by decide +kernel
theorem dL_tell_184 : decode cL_tell 184 = .ok (.if_icmp .ne 32, 3) := by decide +kernel
theorem dL_tell_187 : decode cL_tell 187 = .ok (.aload_n 0, 1) := by decide +kernel
theorem dL_tell_188 : decode cL_tell 188 = .ok (.iconst 4, 1) := by decide +kernel
theorem dL_tell_189 : decode cL_tell 189 = .ok (.invokevirtual 67, 3) := by decide +kernel
theorem dL_tell_192 : decode cL_tell 192 = .ok (.ifCond .ne 24, 3) := by decide +kernel
theorem dL_tell_195 : decode cL_tell 195 = .ok (.aload_n 0, 1) := by decide +kernel
theorem dL_tell_196 : decode cL_tell 196 = .ok (.iconst 5, 1) := by decide +kernel
theorem dL_tell_197 : decode cL_tell 197 = .ok (.invokevirtual 67, 3) := by decide +kernel
theorem dL_tell_200 : decode cL_tell 200 = .ok (.ifCond .ne 16, 3) := by decide +kernel
theorem dL_tell_203 : decode cL_tell 203 = .ok (.aload_n 0, 1) := by decide +kernel
theorem dL_tell_204 : decode cL_tell 204 = .ok (.bipush 6, 2) := by decide +kernel
theorem dL_tell_206 : decode cL_tell 206 = .ok (.invokevirtual 67, 3) := by decide +kernel
theorem dL_tell_209 : decode cL_tell 209 = .ok (.ifCond .ne 7, 3) := by decide +kernel
theorem dL_tell_212 : decode cL_tell 212 = .ok (.iconst 1, 1) := by decide +kernel
theorem dL_tell_213 : decode cL_tell 213 = .ok (.goto 4, 3) := by decide +kernel
theorem dL_tell_216 : decode cL_tell 216 = .ok (.iconst 0, 1) := by decide +kernel
theorem dL_tell_217 : decode cL_tell 217 = .ok (.ireturn, 1) := by decide +kernel
set_option maxRecDepth 100000 in
theorem rL_tell_0 {zx : zX} {zn : Nat} {p : Program} {l : Launch} {e : Env} {s : State} {m : MethodId} {args : Array Value} {below : List Frame} {meth : Method} {c : Code} {D : va_G} {cA : Nat → ClassId} {ad : Nat → Nat} {Ret : zR} (C : z_Cx zx zn (z_A zn ad) 0 0 p { frames := 8, cells := 0, slots := 0, locals := 173 } s m args c cL_tell yL_tell.cls 4 D cA ad) (hr : meth.sig.returnType = (some .boolean)) (hlocks : meth.locks = false) : ∀ L st σ, tL_tell_0 zx (z_X zx zn (z_A zn ad) 0 0 p l e { frames := 8, cells := 0, slots := 0, locals := 173 } s m args below meth c (MQ below (z_Qc zn D cA ad Ret) args s 0 0 (z_A zn ad)) 4 D cA ad true) Ret L st σ → z_X zx zn (z_A zn ad) 0 0 p l e { frames := 8, cells := 0, slots := 0, locals := 173 } s m args below meth c (MQ below (z_Qc zn D cA ad Ret) args s 0 0 (z_A zn ad)) 4 D cA ad true 0 L st σ := (s_iconst C dL_tell_0 rfl ⟨by decide, by decide⟩ (s_istore_n C dL_tell_1 (by decide) rfl rfl (fun _ _ _ h => h)))
set_option maxRecDepth 100000 in
theorem rL_tell_2 {zx : zX} {zn : Nat} {p : Program} {l : Launch} {e : Env} {s : State} {m : MethodId} {args : Array Value} {below : List Frame} {meth : Method} {c : Code} {D : va_G} {cA : Nat → ClassId} {ad : Nat → Nat} {Ret : zR} (C : z_Cx zx zn (z_A zn ad) 0 0 p { frames := 8, cells := 0, slots := 0, locals := 173 } s m args c cL_tell yL_tell.cls 4 D cA ad) (hr : meth.sig.returnType = (some .boolean)) (hlocks : meth.locks = false) : ∀ L st σ, tL_tell_2 zx (z_X zx zn (z_A zn ad) 0 0 p l e { frames := 8, cells := 0, slots := 0, locals := 173 } s m args below meth c (MQ below (z_Qc zn D cA ad Ret) args s 0 0 (z_A zn ad)) 4 D cA ad true) Ret L st σ → z_X zx zn (z_A zn ad) 0 0 p l e { frames := 8, cells := 0, slots := 0, locals := 173 } s m args below meth c (MQ below (z_Qc zn D cA ad Ret) args s 0 0 (z_A zn ad)) 4 D cA ad true 2 L st σ := (s_iload_n C dL_tell_2 rfl (s_aload_n C dL_tell_3 rfl (s_cs1 C dL_tell_4 (okL_trees l) wd_548 wd_549 wd_16 wd_550 ⟨by decide, by decide, by decide +kernel⟩ ⟨by decide, by decide⟩ (s_icge C dL_tell_7 (by decide) (s_iconst C dL_tell_53 rfl ⟨by decide, by decide⟩ (s_istore_n C dL_tell_54 (by decide) rfl rfl (fun _ _ _ h => h))) (s_aload_n C dL_tell_10 rfl (s_ldc2 C dL_tell_11 (v := 1953654117) wd_557 ⟨by decide, by decide⟩ (s_cs2 C dL_tell_14 (okL_word l) wd_558 wd_559 wd_16 wd_560 ⟨by decide, by decide, by decide +kernel⟩ ⟨by decide, by decide⟩ (s_iconst C dL_tell_17 rfl ⟨by decide, by decide⟩ (s_istore_n C dL_tell_18 (by decide) rfl rfl (fun _ _ _ h => h))))))))))
set_option maxRecDepth 100000 in
theorem rL_tell_19 {zx : zX} {zn : Nat} {p : Program} {l : Launch} {e : Env} {s : State} {m : MethodId} {args : Array Value} {below : List Frame} {meth : Method} {c : Code} {D : va_G} {cA : Nat → ClassId} {ad : Nat → Nat} {Ret : zR} (C : z_Cx zx zn (z_A zn ad) 0 0 p { frames := 8, cells := 0, slots := 0, locals := 173 } s m args c cL_tell yL_tell.cls 4 D cA ad) (hr : meth.sig.returnType = (some .boolean)) (hlocks : meth.locks = false) : ∀ L st σ, tL_tell_19 zx (z_X zx zn (z_A zn ad) 0 0 p l e { frames := 8, cells := 0, slots := 0, locals := 173 } s m args below meth c (MQ below (z_Qc zn D cA ad Ret) args s 0 0 (z_A zn ad)) 4 D cA ad true) Ret L st σ → z_X zx zn (z_A zn ad) 0 0 p l e { frames := 8, cells := 0, slots := 0, locals := 173 } s m args below meth c (MQ below (z_Qc zn D cA ad Ret) args s 0 0 (z_A zn ad)) 4 D cA ad true 19 L st σ := (s_iload_n C dL_tell_19 rfl (s_iconst C dL_tell_20 rfl ⟨by decide, by decide⟩ (s_icge C dL_tell_21 (by decide) (s_aload_n C dL_tell_40 rfl (s_ldc2 C dL_tell_41 (v := 59) wd_576 ⟨by decide, by decide⟩ (s_cs2 C dL_tell_44 (okL_word l) wd_558 wd_559 wd_16 wd_560 ⟨by decide, by decide, by decide +kernel⟩ ⟨by decide, by decide⟩ (s_iinc C dL_tell_47 (by decide) rfl (s_goto C dL_tell_50 (by decide) (fun _ _ _ h => h)))))) (s_aload_n C dL_tell_24 rfl (s_aload_n C dL_tell_25 rfl (s_iload_n C dL_tell_26 rfl (s_iload_n C dL_tell_27 rfl (s_cs3 C dL_tell_28 (okL_tree l) wd_569 wd_570 wd_16 wd_571 ⟨by decide, by decide, by decide +kernel⟩ ⟨by decide, by decide⟩ (s_cs2 C dL_tell_31 (okL_number l) wd_572 wd_573 wd_16 wd_574 ⟨by decide, by decide, by decide +kernel⟩ ⟨by decide, by decide⟩ (s_iinc C dL_tell_34 (by decide) rfl (s_goto C dL_tell_37 (by decide) (fun _ _ _ h => h))))))))))))
set_option maxRecDepth 100000 in
theorem rL_tell_55 {zx : zX} {zn : Nat} {p : Program} {l : Launch} {e : Env} {s : State} {m : MethodId} {args : Array Value} {below : List Frame} {meth : Method} {c : Code} {D : va_G} {cA : Nat → ClassId} {ad : Nat → Nat} {Ret : zR} (C : z_Cx zx zn (z_A zn ad) 0 0 p { frames := 8, cells := 0, slots := 0, locals := 173 } s m args c cL_tell yL_tell.cls 4 D cA ad) (hr : meth.sig.returnType = (some .boolean)) (hlocks : meth.locks = false) : ∀ L st σ, tL_tell_55 zx (z_X zx zn (z_A zn ad) 0 0 p l e { frames := 8, cells := 0, slots := 0, locals := 173 } s m args below meth c (MQ below (z_Qc zn D cA ad Ret) args s 0 0 (z_A zn ad)) 4 D cA ad true) Ret L st σ → z_X zx zn (z_A zn ad) 0 0 p l e { frames := 8, cells := 0, slots := 0, locals := 173 } s m args below meth c (MQ below (z_Qc zn D cA ad Ret) args s 0 0 (z_A zn ad)) 4 D cA ad true 55 L st σ := (s_iload_n C dL_tell_55 rfl (s_aload_n C dL_tell_56 rfl (s_cs1 C dL_tell_57 (okL_winds l) wd_551 wd_552 wd_16 wd_553 ⟨by decide, by decide, by decide +kernel⟩ ⟨by decide, by decide⟩ (s_icge C dL_tell_60 (by decide) (s_aload_n C dL_tell_106 rfl (s_cs1 C dL_tell_107 (okL_tones l) wd_581 wd_582 wd_16 wd_583 ⟨by decide, by decide, by decide +kernel⟩ ⟨by decide, by decide⟩ (s_ifle C dL_tell_110 (by decide) (fun _ _ _ h => h) (s_aload_n C dL_tell_113 rfl (s_ldc2 C dL_tell_114 (v := 1953853029) wd_584 ⟨by decide, by decide⟩ (s_cs2 C dL_tell_117 (okL_word l) wd_558 wd_559 wd_16 wd_560 ⟨by decide, by decide, by decide +kernel⟩ ⟨by decide, by decide⟩ (s_iconst C dL_tell_120 rfl ⟨by decide, by decide⟩ (s_istore_n C dL_tell_121 (by decide) rfl rfl (fun _ _ _ h => h))))))))) (s_aload_n C dL_tell_63 rfl (s_ldc2 C dL_tell_64 (v := 2003398244) wd_577 ⟨by decide, by decide⟩ (s_cs2 C dL_tell_67 (okL_word l) wd_558 wd_559 wd_16 wd_560 ⟨by decide, by decide, by decide +kernel⟩ ⟨by decide, by decide⟩ (s_iconst C dL_tell_70 rfl ⟨by decide, by decide⟩ (s_istore_n C dL_tell_71 (by decide) rfl rfl (fun _ _ _ h => h))))))))))
set_option maxRecDepth 100000 in
theorem rL_tell_72 {zx : zX} {zn : Nat} {p : Program} {l : Launch} {e : Env} {s : State} {m : MethodId} {args : Array Value} {below : List Frame} {meth : Method} {c : Code} {D : va_G} {cA : Nat → ClassId} {ad : Nat → Nat} {Ret : zR} (C : z_Cx zx zn (z_A zn ad) 0 0 p { frames := 8, cells := 0, slots := 0, locals := 173 } s m args c cL_tell yL_tell.cls 4 D cA ad) (hr : meth.sig.returnType = (some .boolean)) (hlocks : meth.locks = false) : ∀ L st σ, tL_tell_72 zx (z_X zx zn (z_A zn ad) 0 0 p l e { frames := 8, cells := 0, slots := 0, locals := 173 } s m args below meth c (MQ below (z_Qc zn D cA ad Ret) args s 0 0 (z_A zn ad)) 4 D cA ad true) Ret L st σ → z_X zx zn (z_A zn ad) 0 0 p l e { frames := 8, cells := 0, slots := 0, locals := 173 } s m args below meth c (MQ below (z_Qc zn D cA ad Ret) args s 0 0 (z_A zn ad)) 4 D cA ad true 72 L st σ := (s_iload_n C dL_tell_72 rfl (s_iconst C dL_tell_73 rfl ⟨by decide, by decide⟩ (s_icge C dL_tell_74 (by decide) (s_aload_n C dL_tell_93 rfl (s_ldc2 C dL_tell_94 (v := 59) wd_576 ⟨by decide, by decide⟩ (s_cs2 C dL_tell_97 (okL_word l) wd_558 wd_559 wd_16 wd_560 ⟨by decide, by decide, by decide +kernel⟩ ⟨by decide, by decide⟩ (s_iinc C dL_tell_100 (by decide) rfl (s_goto C dL_tell_103 (by decide) (fun _ _ _ h => h)))))) (s_aload_n C dL_tell_77 rfl (s_aload_n C dL_tell_78 rfl (s_iload_n C dL_tell_79 rfl (s_iload_n C dL_tell_80 rfl (s_cs3 C dL_tell_81 (okL_wind l) wd_578 wd_579 wd_16 wd_580 ⟨by decide, by decide, by decide +kernel⟩ ⟨by decide, by decide⟩ (s_cs2 C dL_tell_84 (okL_number l) wd_572 wd_573 wd_16 wd_574 ⟨by decide, by decide, by decide +kernel⟩ ⟨by decide, by decide⟩ (s_iinc C dL_tell_87 (by decide) rfl (s_goto C dL_tell_90 (by decide) (fun _ _ _ h => h))))))))))))
set_option maxRecDepth 100000 in
theorem rL_tell_122 {zx : zX} {zn : Nat} {p : Program} {l : Launch} {e : Env} {s : State} {m : MethodId} {args : Array Value} {below : List Frame} {meth : Method} {c : Code} {D : va_G} {cA : Nat → ClassId} {ad : Nat → Nat} {Ret : zR} (C : z_Cx zx zn (z_A zn ad) 0 0 p { frames := 8, cells := 0, slots := 0, locals := 173 } s m args c cL_tell yL_tell.cls 4 D cA ad) (hr : meth.sig.returnType = (some .boolean)) (hlocks : meth.locks = false) : ∀ L st σ, tL_tell_122 zx (z_X zx zn (z_A zn ad) 0 0 p l e { frames := 8, cells := 0, slots := 0, locals := 173 } s m args below meth c (MQ below (z_Qc zn D cA ad Ret) args s 0 0 (z_A zn ad)) 4 D cA ad true) Ret L st σ → z_X zx zn (z_A zn ad) 0 0 p l e { frames := 8, cells := 0, slots := 0, locals := 173 } s m args below meth c (MQ below (z_Qc zn D cA ad Ret) args s 0 0 (z_A zn ad)) 4 D cA ad true 122 L st σ := (s_iload_n C dL_tell_122 rfl (s_aload_n C dL_tell_123 rfl (s_cs1 C dL_tell_124 (okL_tones l) wd_581 wd_582 wd_16 wd_583 ⟨by decide, by decide, by decide +kernel⟩ ⟨by decide, by decide⟩ (s_icge C dL_tell_127 (by decide) (s_aload_n C dL_tell_145 rfl (s_ldc2 C dL_tell_146 (v := 59) wd_576 ⟨by decide, by decide⟩ (s_cs2 C dL_tell_149 (okL_word l) wd_558 wd_559 wd_16 wd_560 ⟨by decide, by decide, by decide +kernel⟩ ⟨by decide, by decide⟩ (fun _ _ _ h => h)))) (s_aload_n C dL_tell_130 rfl (s_aload_n C dL_tell_131 rfl (s_iload_n C dL_tell_132 rfl (s_cs2 C dL_tell_133 (okL_tune l) wd_585 wd_586 wd_16 wd_587 ⟨by decide, by decide, by decide +kernel⟩ ⟨by decide, by decide⟩ (s_cs2 C dL_tell_136 (okL_number l) wd_572 wd_573 wd_16 wd_574 ⟨by decide, by decide, by decide +kernel⟩ ⟨by decide, by decide⟩ (s_iinc C dL_tell_139 (by decide) rfl (s_goto C dL_tell_142 (by decide) (fun _ _ _ h => h))))))))))))
set_option maxRecDepth 100000 in
theorem rL_tell_152 {zx : zX} {zn : Nat} {p : Program} {l : Launch} {e : Env} {s : State} {m : MethodId} {args : Array Value} {below : List Frame} {meth : Method} {c : Code} {D : va_G} {cA : Nat → ClassId} {ad : Nat → Nat} {Ret : zR} (C : z_Cx zx zn (z_A zn ad) 0 0 p { frames := 8, cells := 0, slots := 0, locals := 173 } s m args c cL_tell yL_tell.cls 4 D cA ad) (hr : meth.sig.returnType = (some .boolean)) (hlocks : meth.locks = false) : ∀ L st σ, tL_tell_152 zx (z_X zx zn (z_A zn ad) 0 0 p l e { frames := 8, cells := 0, slots := 0, locals := 173 } s m args below meth c (MQ below (z_Qc zn D cA ad Ret) args s 0 0 (z_A zn ad)) 4 D cA ad true) Ret L st σ → z_X zx zn (z_A zn ad) 0 0 p l e { frames := 8, cells := 0, slots := 0, locals := 173 } s m args below meth c (MQ below (z_Qc zn D cA ad Ret) args s 0 0 (z_A zn ad)) 4 D cA ad true 152 L st σ := (s_aload_n C dL_tell_152 rfl (s_cv0 C dL_tell_153 (okW_wood l) cls_X9 wd_588 wd_589 wd_590 wd_17 wd_591 ⟨by decide, by decide, by decide +kernel⟩ ⟨by decide, by decide⟩ (s_aload_n C dL_tell_156 rfl (s_cs1 C dL_tell_157 (okL_trees l) wd_548 wd_549 wd_16 wd_550 ⟨by decide, by decide, by decide +kernel⟩ ⟨by decide, by decide⟩ (s_icne C dL_tell_160 (by decide) (s_iconst C dL_tell_216 rfl ⟨by decide, by decide⟩ (s_zret C dL_tell_217 hr ⟨rfl, rfl⟩ hlocks)) (s_aload_n C dL_tell_163 rfl (s_iconst C dL_tell_164 rfl ⟨by decide, by decide⟩ (s_cv1 C dL_tell_165 (okW_count l) cls_X9 wd_532 wd_533 wd_534 wd_17 wd_535 ⟨by decide, by decide, by decide +kernel⟩ ⟨by decide, by decide⟩ (s_aload_n C dL_tell_168 rfl (s_cs1 C dL_tell_169 (okL_winds l) wd_551 wd_552 wd_16 wd_553 ⟨by decide, by decide, by decide +kernel⟩ ⟨by decide, by decide⟩ (s_icne C dL_tell_172 (by decide) (s_iconst C dL_tell_216 rfl ⟨by decide, by decide⟩ (s_zret C dL_tell_217 hr ⟨rfl, rfl⟩ hlocks)) (s_aload_n C dL_tell_175 rfl (s_iconst C dL_tell_176 rfl ⟨by decide, by decide⟩ (s_cv1 C dL_tell_177 (okW_count l) cls_X9 wd_532 wd_533 wd_534 wd_17 wd_535 ⟨by decide, by decide, by decide +kernel⟩ ⟨by decide, by decide⟩ (s_aload_n C dL_tell_180 rfl (s_cs1 C dL_tell_181 (okL_tones l) wd_581 wd_582 wd_16 wd_583 ⟨by decide, by decide, by decide +kernel⟩ ⟨by decide, by decide⟩ (s_icne C dL_tell_184 (by decide) (s_iconst C dL_tell_216 rfl ⟨by decide, by decide⟩ (s_zret C dL_tell_217 hr ⟨rfl, rfl⟩ hlocks)) (s_aload_n C dL_tell_187 rfl (s_iconst C dL_tell_188 rfl ⟨by decide, by decide⟩ (s_cv1 C dL_tell_189 (okW_count l) cls_X9 wd_532 wd_533 wd_534 wd_17 wd_535 ⟨by decide, by decide, by decide +kernel⟩ ⟨by decide, by decide⟩ (s_ifne C dL_tell_192 (by decide) (s_iconst C dL_tell_216 rfl ⟨by decide, by decide⟩ (s_zret C dL_tell_217 hr ⟨rfl, rfl⟩ hlocks)) (s_aload_n C dL_tell_195 rfl (s_iconst C dL_tell_196 rfl ⟨by decide, by decide⟩ (s_cv1 C dL_tell_197 (okW_count l) cls_X9 wd_532 wd_533 wd_534 wd_17 wd_535 ⟨by decide, by decide, by decide +kernel⟩ ⟨by decide, by decide⟩ (s_ifne C dL_tell_200 (by decide) (s_iconst C dL_tell_216 rfl ⟨by decide, by decide⟩ (s_zret C dL_tell_217 hr ⟨rfl, rfl⟩ hlocks)) (s_aload_n C dL_tell_203 rfl (s_bipush C dL_tell_204 rfl ⟨by decide, by decide⟩ (s_cv1 C dL_tell_206 (okW_count l) cls_X9 wd_532 wd_533 wd_534 wd_17 wd_535 ⟨by decide, by decide, by decide +kernel⟩ ⟨by decide, by decide⟩ (s_ifne C dL_tell_209 (by decide) (s_iconst C dL_tell_216 rfl ⟨by decide, by decide⟩ (s_zret C dL_tell_217 hr ⟨rfl, rfl⟩ hlocks)) (s_iconst C dL_tell_212 rfl ⟨by decide, by decide⟩ (s_goto C dL_tell_213 (by decide) (s_zret C dL_tell_217 hr ⟨rfl, rfl⟩ hlocks))))))))))))))))))))))))))))))))
theorem okL_tell {zx : zX} {zn : Nat} (l : Launch) : z_OK zx zn l yL_tell cL_tell 4 (some .boolean) 8 173 (SL_tell zx) := by
  refine z_ok_of true (by decide +kernel) ?_ ?_
  · intro as σ Ret h
    obtain ⟨k1, k2, rfl⟩ := pL_tell h
    exact ⟨Nat.le_of_ble_eq_true rfl, by simp⟩
  · intro p e s m args below meth c D cA ad Ret C hr hlocks as σ has hσ h
    obtain ⟨k1, k2, rfl⟩ := pL_tell h
    exact vL_tell (rL_tell_0 C hr hlocks) (rL_tell_2 C hr hlocks) (rL_tell_19 C hr hlocks) (rL_tell_55 C hr hlocks) (rL_tell_72 C hr hlocks) (rL_tell_122 C hr hlocks) (rL_tell_152 C hr hlocks) k1 k2 σ (has _ (List.mem_of_getElem? (i := 0) rfl)).1 (has _ (List.mem_of_getElem? (i := 1) rfl)).1 hσ h
