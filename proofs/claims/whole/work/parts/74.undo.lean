/-! taking back, asked of both -/
def q_gUndo (τ : zM) : Int := if τ 93 5 = 0 then -1000002 else τ 93 5 - 1
def q_fUndo (τ : zM) : zM := if τ 93 5 = 0 then τ else q_set τ 93 (q_unD (τ 93) (τ 95))
def SX9_undo : zS := fun as σ Ret => match as with
  | [.inr (.inr (9, 0, _))] => q_S9 q_gUndo q_fUndo σ Ret
  | _ => False
def tX9_undo_0 (X : Nat → zB) (Ret : zR) (L : zL) (st : List zV) (σ : zM) : Prop := (z_aload 0 (z_getr 9 8 8 0 (z_getr 8 12 2 0 (z_geti 2 3 (z_push 1 (z_icge (z_aload 0 (z_getr 9 8 8 0 (z_cv0 8 SX8_takeBack (z_aload 0 (z_getr 9 8 8 0 (z_getr 8 12 2 0 (z_geti 2 3 (z_iret Ret)))))))) (z_push (-1000002) (z_iret Ret)))))))) L st σ
theorem pX9_undo {as : List zV} {σ : zM} {Ret : zR} (h : SX9_undo as σ Ret) : ∃ (k0 : Nat), as = [.inr (.inr (9, 0, k0))] := by
  unfold SX9_undo at h
  split at h
  · exact ⟨_, rfl⟩
  · exact h.elim
set_option maxRecDepth 10000 in
set_option maxHeartbeats 4000000 in
theorem vX9_undo {X : Nat → zB} {Ret : zR} (h0 : ∀ L st σ, tX9_undo_0 X Ret L st σ → X 0 L st σ) (k0 : Nat) (σ : zM) (hk0 : z_kd k0 = (9, 0)) (hσ : z_okm σ) (h : SX9_undo [.inr (.inr (9, 0, k0))] σ Ret) : X 0 [some (.inr (.inr (9, 0, k0)))] [] σ := by
  obtain ⟨⟨R, m⟩, h⟩ := h
  obtain rfl := z_kd9 hk0
  have WW := R.2.2.2.2.1
  have W := WW.1
  obtain ⟨K, d, -, -⟩ := m.2.1
  have W5 : σ 20 3 = σ 93 5 := W.1.2.2.2.2.2.1
  have W0 : σ 9 6 = σ 93 0 := W.1.1.1
  have K5 := K.1.2.2.2.2
  have K0 := K.1.1
  by_cases c : σ 93 5 = 0
  · have fin := h σ (fun _ _ => rfl) (by unfold q_fUndo; rw [if_pos c]; exact R)
    simp only [q_gUndo, if_pos c] at fin
    refine h0 _ _ _ ?_
    simp only [z_push, z_lpush, z_iload, z_lload, z_aload, z_istore, z_istoreP, z_lstore, z_astore, z_iinc, z_iincP, z_iadd, z_isub, z_imul, z_iaddW, z_isubW, z_imulW, z_idiv, z_irem, z_iand, z_ior, z_ixor, z_ishl, z_ishr, z_iushr, z_ineg, z_i2l, z_i2b, z_i2s, z_i2c, z_l2i, z_ladd, z_lsub, z_land, z_lor, z_lshl, z_lshr, z_lcmp, z_dup, z_pop, z_dup2, z_goto, z_tsw, z_cases, z_geti, z_getr, z_puti, z_putz, z_ald, z_iast, z_bast, z_zast, z_alen, z_acopy, z_mmax, z_mmin, z_mabs, z_mabsL, z_iret, z_zret, z_nret, z_lret, z_aret, z_vret, z_cat, z_ldcs, z_strv, z_strc, z_gcs, z_gfm, z_sln, z_sald, z_ifeq, z_ifne, z_iflt, z_ifge, z_ifgt, z_ifle, z_iceq, z_icne, z_iclt, z_icge, z_icgt, z_icle, z_cs0, z_cs1, z_cs2, z_cs3, z_cs4, z_cs5, z_cs6, z_cs7, z_cv0, z_cv1, z_cv2, z_cv3, z_cv4, z_cv5, z_cv6, z_cv7, z_g0, z_s0, z_g1, z_s1, z_g2, z_s2, z_g3, z_s3, z_g4, z_s4, z_g5, z_s5, z_g6, z_s6, z_g7, z_s7, z_g8, z_s8, z_g9, z_s9, z_g10, z_s10, z_g11, z_s11, z_g12, z_s12, z_g13, z_s13, z_b0, z_b1, z_b0n, z_b1n, z_up_far1, z_up_far2, z_up_far3, z_up_far4, z_up_far5, z_up_far6, Classical.not_not, not_true_eq_false, z_in, z_inL, Int.cast_ofNat_Int, Nat.reduceLeDiff, List.length_cons, List.length_nil, Nat.reduceAdd, Nat.zero_add, Nat.le_refl, true_and, and_true, List.length, Nat.reduceLT, true_or, or_true, false_or, or_false, false_and, and_false, not_true_eq_false, not_false_eq_true, forall_const, false_implies, true_implies, Int.reduceEq, Int.reduceLT, Int.reduceLE, Int.reduceAdd, Int.reduceSub, Int.reduceMul, Int.reduceNeg, Int.reduceToNat, Int.toNat_natCast, ↓reduceIte, reduceIte, Nat.reduceEqDiff, Nat.reduceSub, Nat.reduceMul, ne_eq, Int.zero_add, Int.add_zero, Int.sub_zero, Nat.add_zero, Int.ofNat_eq_natCast, tX9_undo_0, W5, c]
    repeat' (first | (intro _) | (with_reducible assumption) | (refine And.intro ?_ ?_))
    all_goals first | omega | assumption | (refine z_fin fin ?_ rfl; first | rfl | omega | (split <;> omega) | (split <;> split <;> omega)) | skip
  obtain ⟨i, hi⟩ := z_nat (show 0 ≤ σ 93 5 - 1 by omega)
  have dd := WW.2.1 i (by omega)
  simp only [Nat.reduceAdd] at dd
  obtain ⟨⟨d1, ⟨d2, d3⟩, d4⟩, -⟩ := dd
  obtain ⟨t, ht⟩ := z_nat d2
  have q := K.2.1 t (by omega)
  have T0 : σ 10 t = σ 93 (6 + 6 * t + 0) := W.2.1 t 0 (by omega) (by omega)
  simp only [Nat.add_zero] at q T0
  have cl := q_cl_cases 8 (σ 21 i) t
  have ne : ∀ c j, ¬ (8 ≤ c ∧ c ≤ 24) → q_back σ 8 c j = σ c j := by
    intro c j hc
    unfold q_back
    simp only [Nat.reduceAdd, W5, hi, Int.toNat_natCast, ht]
    rw [z_up_ne (by omega), z_up_ne (by omega)]
  have e9 : ∀ c, 89 ≤ c → q_back σ 8 c = σ c := fun c hc => funext fun j => ne c j (by omega)
  have r2 : q_R2 (q_back σ 8) (q_fUndo (q_back σ 8)) := by
    unfold q_fUndo
    rw [e9 93 (by omega), e9 95 (by omega), if_neg c]
    refine q_R2_wood R ?_ (fun c j h1 h2 => ne c j (by omega)) (fun c j h1 h2 h3 h4 => by rw [q_set_ne h2, e9 c h1])
    unfold q_rwood
    rw [q_set_eq, q_set_ne (by omega), q_set_ne (by omega), e9 95 (by omega), e9 89 (by omega)]
    exact q_W_back WW K d (by omega)
  have fin := h (q_back σ 8) e9 r2
  simp only [q_gUndo, e9 93 (by omega), if_neg c] at fin
  have e5 : q_back σ 8 20 3 = σ 93 5 - 1 := by
    unfold q_back
    simp only [Nat.reduceAdd, W5]
    rw [z_up_eq]
  refine h0 _ _ _ ?_
  simp only [z_push, z_lpush, z_iload, z_lload, z_aload, z_istore, z_istoreP, z_lstore, z_astore, z_iinc, z_iincP, z_iadd, z_isub, z_imul, z_iaddW, z_isubW, z_imulW, z_idiv, z_irem, z_iand, z_ior, z_ixor, z_ishl, z_ishr, z_iushr, z_ineg, z_i2l, z_i2b, z_i2s, z_i2c, z_l2i, z_ladd, z_lsub, z_land, z_lor, z_lshl, z_lshr, z_lcmp, z_dup, z_pop, z_dup2, z_goto, z_tsw, z_cases, z_geti, z_getr, z_puti, z_putz, z_ald, z_iast, z_bast, z_zast, z_alen, z_acopy, z_mmax, z_mmin, z_mabs, z_mabsL, z_iret, z_zret, z_nret, z_lret, z_aret, z_vret, z_cat, z_ldcs, z_strv, z_strc, z_gcs, z_gfm, z_sln, z_sald, z_ifeq, z_ifne, z_iflt, z_ifge, z_ifgt, z_ifle, z_iceq, z_icne, z_iclt, z_icge, z_icgt, z_icle, z_cs0, z_cs1, z_cs2, z_cs3, z_cs4, z_cs5, z_cs6, z_cs7, z_cv0, z_cv1, z_cv2, z_cv3, z_cv4, z_cv5, z_cv6, z_cv7, z_g0, z_s0, z_g1, z_s1, z_g2, z_s2, z_g3, z_s3, z_g4, z_s4, z_g5, z_s5, z_g6, z_s6, z_g7, z_s7, z_g8, z_s8, z_g9, z_s9, z_g10, z_s10, z_g11, z_s11, z_g12, z_s12, z_g13, z_s13, z_b0, z_b1, z_b0n, z_b1n, z_up_far1, z_up_far2, z_up_far3, z_up_far4, z_up_far5, z_up_far6, Classical.not_not, not_true_eq_false, z_in, z_inL, Int.cast_ofNat_Int, Nat.reduceLeDiff, List.length_cons, List.length_nil, Nat.reduceAdd, Nat.zero_add, Nat.le_refl, true_and, and_true, List.length, Nat.reduceLT, true_or, or_true, false_or, or_false, false_and, and_false, not_true_eq_false, not_false_eq_true, forall_const, false_implies, true_implies, Int.reduceEq, Int.reduceLT, Int.reduceLE, Int.reduceAdd, Int.reduceSub, Int.reduceMul, Int.reduceNeg, Int.reduceToNat, Int.toNat_natCast, ↓reduceIte, reduceIte, Nat.reduceEqDiff, Nat.reduceSub, Nat.reduceMul, ne_eq, Int.zero_add, Int.add_zero, Int.sub_zero, Nat.add_zero, Int.ofNat_eq_natCast, tX9_undo_0, SX8_takeBack, W5, e5, hi, ht, T0, W0]
  rw [hi] at fin
  repeat' (first | (intro _) | (with_reducible assumption) | (refine And.intro ?_ ?_))
  all_goals first | omega | assumption | (refine z_fin fin ?_ rfl; first | rfl | omega | (split <;> omega) | (split <;> split <;> omega)) | skip
theorem dX9_undo_0 : decode cX9_undo 0 = .ok (.aload_n 0, 1) := by decide +kernel
theorem dX9_undo_1 : decode cX9_undo 1 = .ok (.getfield 26, 3) := by decide +kernel
theorem dX9_undo_4 : decode cX9_undo 4 = .ok (.getfield 150, 3) := by decide +kernel
theorem dX9_undo_7 : decode cX9_undo 7 = .ok (.getfield 149, 3) := by decide +kernel
theorem dX9_undo_10 : decode cX9_undo 10 = .ok (.iconst 1, 1) := by decide +kernel
theorem dX9_undo_11 : decode cX9_undo 11 = .ok (.if_icmp .ge 6, 3) := by decide +kernel
theorem dX9_undo_14 : decode cX9_undo 14 = .ok (.ldc 144, 2) := by decide +kernel
theorem dX9_undo_16 : decode cX9_undo 16 = .ok (.ireturn, 1) := by decide +kernel
theorem dX9_undo_17 : decode cX9_undo 17 = .ok (.aload_n 0, 1) := by decide +kernel
theorem dX9_undo_18 : decode cX9_undo 18 = .ok (.getfield 26, 3) := by decide +kernel
theorem dX9_undo_21 : decode cX9_undo 21 = .ok (.invokevirtual 160, 3) := by decide +kernel
theorem dX9_undo_24 : decode cX9_undo 24 = .ok (.aload_n 0, 1) := by decide +kernel
theorem dX9_undo_25 : decode cX9_undo 25 = .ok (.getfield 26, 3) := by decide +kernel
theorem dX9_undo_28 : decode cX9_undo 28 = .ok (.getfield 150, 3) := by decide +kernel
theorem dX9_undo_31 : decode cX9_undo 31 = .ok (.getfield 149, 3) := by decide +kernel
theorem dX9_undo_34 : decode cX9_undo 34 = .ok (.ireturn, 1) := by decide +kernel
set_option maxRecDepth 100000 in
theorem rX9_undo_0 {p : Program} {l : Launch} {e : Env} {s : State} {m : MethodId} {args : Array Value} {below : List Frame} {meth : Method} {c : Code} {D : va_G} {cA : Nat → ClassId} {ad : Nat → Nat} {Ret : zR} (C : z_Cx p { frames := 4, cells := 0, slots := 0, locals := 88 } s m args c cX9_undo yX9_undo.cls 1 D cA ad) (hr : meth.sig.returnType = (some .int)) (hlocks : meth.locks = false) : ∀ L st σ, tX9_undo_0 (z_X p l e { frames := 4, cells := 0, slots := 0, locals := 88 } s m args below meth c (MQ below (z_Qc D cA ad Ret) args s 0 0 (z_A ad)) 1 D cA ad true) Ret L st σ → z_X p l e { frames := 4, cells := 0, slots := 0, locals := 88 } s m args below meth c (MQ below (z_Qc D cA ad Ret) args s 0 0 (z_A ad)) 1 D cA ad true 0 L st σ := (s_aload_n C dX9_undo_0 rfl (s_getr C dX9_undo_1 (j := 2) cls_X9 (by decide) rfl (by decide) (by decide) (by decide +kernel) wd_359 (s_getr C dX9_undo_4 (j := 2) cls_X8 (by decide) rfl (by decide) (by decide) (by decide +kernel) wd_263 (s_geti C dX9_undo_7 cls_X2 (by decide) rfl wd_244 (s_iconst C dX9_undo_10 rfl ⟨by decide, by decide⟩ (s_icge C dX9_undo_11 (by decide) (s_aload_n C dX9_undo_17 rfl (s_getr C dX9_undo_18 (j := 2) cls_X9 (by decide) rfl (by decide) (by decide) (by decide +kernel) wd_359 (s_cv0 C dX9_undo_21 (okX8_takeBack l) cls_X8 wd_693 wd_694 wd_695 wd_78 wd_696 ⟨by decide, by decide, by decide +kernel⟩ ⟨by decide, by decide⟩ (s_aload_n C dX9_undo_24 rfl (s_getr C dX9_undo_25 (j := 2) cls_X9 (by decide) rfl (by decide) (by decide) (by decide +kernel) wd_359 (s_getr C dX9_undo_28 (j := 2) cls_X8 (by decide) rfl (by decide) (by decide) (by decide +kernel) wd_263 (s_geti C dX9_undo_31 cls_X2 (by decide) rfl wd_244 (s_iret C dX9_undo_34 hr hlocks)))))))) (s_ldc C dX9_undo_14 (v := -1000002) wd_630 ⟨by decide, by decide⟩ (s_iret C dX9_undo_16 hr hlocks))))))))
theorem okX9_undo (l : Launch) : z_OK l yX9_undo cX9_undo 1 (some .int) 4 88 SX9_undo := by
  refine z_ok_of true (by decide +kernel) ?_ ?_
  · intro as σ Ret h
    obtain ⟨k0, rfl⟩ := pX9_undo h
    exact ⟨Nat.le_of_ble_eq_true rfl, by simp⟩
  · intro p e s m args below meth c D cA ad Ret C hr hlocks as σ has hσ h
    obtain ⟨k0, rfl⟩ := pX9_undo h
    exact vX9_undo (rX9_undo_0 C hr hlocks) k0 σ (has _ (List.mem_of_getElem? (i := 0) rfl)) hσ h
def SX10_undo : zS := fun as σ Ret => match as with
  | [.inr (.inr (10, 0, _))] => q_S10 q_gUndo q_fUndo σ Ret
  | _ => False
def tX10_undo_0 (X : Nat → zB) (Ret : zR) (L : zL) (st : List zV) (σ : zM) : Prop := (z_aload 0 (z_push 0 (z_puti 10 0 (z_aload 0 (z_getr 10 4 100 106 (z_push 5 (z_ald 0 (z_ifne (z_aload 0 (z_getr 10 4 100 106 (z_push 5 (z_dup2 (z_ald 0 (z_push 1 (z_isub (z_iast (z_push 3 (z_aload 0 (z_getr 10 4 100 106 (z_push 5 (z_ald 0 (z_imul (z_istore 1 (z_aload 0 (z_getr 10 4 100 106 (z_aload 0 (z_getr 10 6 100 180 (z_iload 1 (z_ald 0 (z_aload 0 (z_getr 10 6 100 180 (z_iload 1 (z_push 1 (z_iadd (z_ald 0 (z_push 1 (z_icne (z_aload 0 (z_getr 10 6 100 180 (z_iload 1 (z_push 2 (z_iadd (z_ald 0 (z_iast (z_aload 0 (z_getr 10 4 100 106 (z_push 5 (z_ald 0 (z_iret Ret)))))))))))) (z_aload 0 (z_aload 0 (z_getr 10 4 100 106 (z_aload 0 (z_getr 10 6 100 180 (z_iload 1 (z_ald 0 (z_ald 0 (z_aload 0 (z_getr 10 6 100 180 (z_iload 1 (z_push 2 (z_iadd (z_ald 0 (z_iadd (z_cv1 10 SX10_lengthOf (z_goto (z_iast (z_aload 0 (z_getr 10 4 100 106 (z_push 5 (z_ald 0 (z_iret Ret)))))))))))))))))))))))))))))))))))))))))))))))))))) (z_push (-1000002) (z_iret Ret)))))))))) L st σ
theorem pX10_undo {as : List zV} {σ : zM} {Ret : zR} (h : SX10_undo as σ Ret) : ∃ (k0 : Nat), as = [.inr (.inr (10, 0, k0))] := by
  unfold SX10_undo at h
  split at h
  · exact ⟨_, rfl⟩
  · exact h.elim
set_option maxRecDepth 10000 in
set_option maxHeartbeats 4000000 in
theorem vX10_undo {X : Nat → zB} {Ret : zR} (h0 : ∀ L st σ, tX10_undo_0 X Ret L st σ → X 0 L st σ) (k0 : Nat) (σ : zM) (hk0 : z_kd k0 = (10, 0)) (hσ : z_okm σ) (h : SX10_undo [.inr (.inr (10, 0, k0))] σ Ret) : X 0 [some (.inr (.inr (10, 0, k0))), none] [] σ := by
  obtain ⟨m, h⟩ := h
  obtain rfl := z_kd10 hk0
  obtain ⟨K, d, -, -⟩ := m.2.1
  have K5 := K.1.2.2.2.2
  by_cases c : σ 93 5 = 0
  · have fin := h (z_up σ 89 0 0) q_th.1 (by unfold q_fUndo; rw [if_pos c]; exact q_th.2)
    simp only [q_gUndo, if_pos c] at fin
    have e : z_up σ 89 0 0 93 5 = 0 := by rw [z_up_ne (by omega), c]
    refine h0 _ _ _ ?_
    simp only [z_push, z_lpush, z_iload, z_lload, z_aload, z_istore, z_istoreP, z_lstore, z_astore, z_iinc, z_iincP, z_iadd, z_isub, z_imul, z_iaddW, z_isubW, z_imulW, z_idiv, z_irem, z_iand, z_ior, z_ixor, z_ishl, z_ishr, z_iushr, z_ineg, z_i2l, z_i2b, z_i2s, z_i2c, z_l2i, z_ladd, z_lsub, z_land, z_lor, z_lshl, z_lshr, z_lcmp, z_dup, z_pop, z_dup2, z_goto, z_tsw, z_cases, z_geti, z_getr, z_puti, z_putz, z_ald, z_iast, z_bast, z_zast, z_alen, z_acopy, z_mmax, z_mmin, z_mabs, z_mabsL, z_iret, z_zret, z_nret, z_lret, z_aret, z_vret, z_cat, z_ldcs, z_strv, z_strc, z_gcs, z_gfm, z_sln, z_sald, z_ifeq, z_ifne, z_iflt, z_ifge, z_ifgt, z_ifle, z_iceq, z_icne, z_iclt, z_icge, z_icgt, z_icle, z_cs0, z_cs1, z_cs2, z_cs3, z_cs4, z_cs5, z_cs6, z_cs7, z_cv0, z_cv1, z_cv2, z_cv3, z_cv4, z_cv5, z_cv6, z_cv7, z_g0, z_s0, z_g1, z_s1, z_g2, z_s2, z_g3, z_s3, z_g4, z_s4, z_g5, z_s5, z_g6, z_s6, z_g7, z_s7, z_g8, z_s8, z_g9, z_s9, z_g10, z_s10, z_g11, z_s11, z_g12, z_s12, z_g13, z_s13, z_b0, z_b1, z_b0n, z_b1n, z_up_far1, z_up_far2, z_up_far3, z_up_far4, z_up_far5, z_up_far6, Classical.not_not, not_true_eq_false, z_in, z_inL, Int.cast_ofNat_Int, Nat.reduceLeDiff, List.length_cons, List.length_nil, Nat.reduceAdd, Nat.zero_add, Nat.le_refl, true_and, and_true, List.length, Nat.reduceLT, true_or, or_true, false_or, or_false, false_and, and_false, not_true_eq_false, not_false_eq_true, forall_const, false_implies, true_implies, Int.reduceEq, Int.reduceLT, Int.reduceLE, Int.reduceAdd, Int.reduceSub, Int.reduceMul, Int.reduceNeg, Int.reduceToNat, Int.toNat_natCast, ↓reduceIte, reduceIte, Nat.reduceEqDiff, Nat.reduceSub, Nat.reduceMul, ne_eq, Int.zero_add, Int.add_zero, Int.sub_zero, Nat.add_zero, Int.ofNat_eq_natCast, tX10_undo_0, e]
    repeat' (first | (intro _) | (with_reducible assumption) | (refine And.intro ?_ ?_))
    all_goals first | omega | assumption | (refine z_fin fin ?_ rfl; first | rfl | omega | (split <;> omega) | (split <;> split <;> omega)) | skip
  obtain ⟨i, hi⟩ := z_nat (show 0 ≤ σ 93 5 - 1 by omega)
  have pn := q_dno_ne d (i := i) (by omega) K.1.1.2
  obtain ⟨p, hp⟩ := z_nat pn.1
  rw [hp, Int.toNat_natCast] at pn
  have hD : σ 95 (3 * i + 1) = 1 → (10 ≤ σ 93 p ∧ σ 93 p ≤ 999) ∧ -1000 ≤ σ 95 (3 * i + 2) ∧ σ 95 (3 * i + 2) ≤ 1000 := by
    intro e
    rcases d i (by omega) with ⟨t, ht, q | q | q⟩ | q
    · have := K.2.1 t ht
      rw [show p = 6 + 6 * t + 0 by omega]
      omega
    all_goals omega
  have e5 : z_up σ 89 0 0 93 5 = σ 93 5 := z_up_ne (by omega)
  have e5b : ∀ v, z_up (z_up σ 89 0 0) 93 5 v 93 5 = v := fun v => z_up_eq
  have e95 : ∀ v j, z_up (z_up σ 89 0 0) 93 5 v 95 j = σ 95 j := fun v j => by rw [z_up_ne (by omega), z_up_ne (by omega)]
  have e93 : ∀ v, z_up (z_up σ 89 0 0) 93 5 v 93 p = σ 93 p := fun v => by rw [z_up_ne (by omega), z_up_ne (by omega)]
  have e935 : ∀ v x, z_up (z_up (z_up σ 89 0 0) 93 5 v) 93 p x 93 5 = v := fun v x => by rw [z_up_ne (by omega), z_up_eq]
  have n0 : (3 * (i : Int)).toNat = 3 * i := by omega
  have n1 : (3 * (i : Int) + 1).toNat = 3 * i + 1 := by omega
  have n2 : (3 * (i : Int) + 2).toNat = 3 * i + 2 := by omega
  have fin : ∀ v, v = (if σ 95 (3 * i + 1) = 1 then max 10 (min 999 (σ 93 p + σ 95 (3 * i + 2))) else σ 95 (3 * i + 2)) → Ret (some (.inl (i : Int))) (z_up (z_up (z_up σ 89 0 0) 93 5 (i : Int)) 93 p v) := by
    intro v hv
    have fin := h (z_up (z_up (z_up σ 89 0 0) 93 5 (i : Int)) 93 p v) (fun c hc => funext fun j => by rw [z_up_ne (by omega), z_up_ne (by omega), z_up_ne (by omega)]) (fun a j hc => by
      unfold q_fUndo q_unD
      rw [if_neg c, hi, Int.toNat_natCast, hp, Int.toNat_natCast, ← hv]
      unfold q_last at hc
      by_cases c93 : a = 93
      · subst c93
        rw [q_set_eq]
        by_cases j5 : j = 5
        · subst j5
          rw [z_up_ne (by omega), z_up_eq, q_d1_eq]
        · rw [q_d1_ne j5]
          by_cases jp : j = p
          · subst jp
            rw [z_up_eq, q_d1_eq]
          · rw [q_d1_ne jp, z_up_ne (by omega), z_up_ne (by omega), z_up_ne (by omega)]
      · rw [q_set_ne c93, z_up_ne (by omega), z_up_ne (by omega), z_up_ne (by omega)])
    simp only [q_gUndo, if_neg c] at fin
    rw [hi] at fin
    exact fin
  refine h0 _ _ _ ?_
  simp only [z_push, z_lpush, z_iload, z_lload, z_aload, z_istore, z_istoreP, z_lstore, z_astore, z_iinc, z_iincP, z_iadd, z_isub, z_imul, z_iaddW, z_isubW, z_imulW, z_idiv, z_irem, z_iand, z_ior, z_ixor, z_ishl, z_ishr, z_iushr, z_ineg, z_i2l, z_i2b, z_i2s, z_i2c, z_l2i, z_ladd, z_lsub, z_land, z_lor, z_lshl, z_lshr, z_lcmp, z_dup, z_pop, z_dup2, z_goto, z_tsw, z_cases, z_geti, z_getr, z_puti, z_putz, z_ald, z_iast, z_bast, z_zast, z_alen, z_acopy, z_mmax, z_mmin, z_mabs, z_mabsL, z_iret, z_zret, z_nret, z_lret, z_aret, z_vret, z_cat, z_ldcs, z_strv, z_strc, z_gcs, z_gfm, z_sln, z_sald, z_ifeq, z_ifne, z_iflt, z_ifge, z_ifgt, z_ifle, z_iceq, z_icne, z_iclt, z_icge, z_icgt, z_icle, z_cs0, z_cs1, z_cs2, z_cs3, z_cs4, z_cs5, z_cs6, z_cs7, z_cv0, z_cv1, z_cv2, z_cv3, z_cv4, z_cv5, z_cv6, z_cv7, z_g0, z_s0, z_g1, z_s1, z_g2, z_s2, z_g3, z_s3, z_g4, z_s4, z_g5, z_s5, z_g6, z_s6, z_g7, z_s7, z_g8, z_s8, z_g9, z_s9, z_g10, z_s10, z_g11, z_s11, z_g12, z_s12, z_g13, z_s13, z_b0, z_b1, z_b0n, z_b1n, z_up_far1, z_up_far2, z_up_far3, z_up_far4, z_up_far5, z_up_far6, Classical.not_not, not_true_eq_false, z_in, z_inL, Int.cast_ofNat_Int, Nat.reduceLeDiff, List.length_cons, List.length_nil, Nat.reduceAdd, Nat.zero_add, Nat.le_refl, true_and, and_true, List.length, Nat.reduceLT, true_or, or_true, false_or, or_false, false_and, and_false, not_true_eq_false, not_false_eq_true, forall_const, false_implies, true_implies, Int.reduceEq, Int.reduceLT, Int.reduceLE, Int.reduceAdd, Int.reduceSub, Int.reduceMul, Int.reduceNeg, Int.reduceToNat, Int.toNat_natCast, ↓reduceIte, reduceIte, Nat.reduceEqDiff, Nat.reduceSub, Nat.reduceMul, ne_eq, Int.zero_add, Int.add_zero, Int.sub_zero, Nat.add_zero, Int.ofNat_eq_natCast, tX10_undo_0, SX10_lengthOf, e5, hi, e5b, e95, n0, n1, n2, hp, e93, e935]
  by_cases f1 : σ 95 (3 * i + 1) = 1
  · have f2 := fin _ rfl
    have := hD f1
    rw [if_pos f1] at f2
    repeat' (first | (intro _) | (with_reducible assumption) | (refine And.intro ?_ ?_))
    all_goals first | omega | assumption | (refine z_fin f2 ?_ rfl; first | rfl | omega | (split <;> omega) | (split <;> split <;> omega)) | skip
  · have f2 := fin _ rfl
    rw [if_neg f1] at f2
    repeat' (first | (intro _) | (with_reducible assumption) | (refine And.intro ?_ ?_))
    all_goals first | omega | assumption | (refine z_fin f2 ?_ rfl; first | rfl | omega | (split <;> omega) | (split <;> split <;> omega)) | skip
theorem dX10_undo_0 : decode cX10_undo 0 = .ok (.aload_n 0, 1) := by decide +kernel
theorem dX10_undo_1 : decode cX10_undo 1 = .ok (.iconst 0, 1) := by decide +kernel
theorem dX10_undo_2 : decode cX10_undo 2 = .ok (.putfield 65, 3) := by decide +kernel
theorem dX10_undo_5 : decode cX10_undo 5 = .ok (.aload_n 0, 1) := by decide +kernel
theorem dX10_undo_6 : decode cX10_undo 6 = .ok (.getfield 19, 3) := by decide +kernel
theorem dX10_undo_9 : decode cX10_undo 9 = .ok (.iconst 5, 1) := by decide +kernel
theorem dX10_undo_10 : decode cX10_undo 10 = .ok (.iaload, 1) := by decide +kernel
theorem dX10_undo_11 : decode cX10_undo 11 = .ok (.ifCond .ne 6, 3) := by decide +kernel
theorem dX10_undo_14 : decode cX10_undo 14 = .ok (.ldc 219, 2) := by decide +kernel
theorem dX10_undo_16 : decode cX10_undo 16 = .ok (.ireturn, 1) := by decide +kernel
theorem dX10_undo_17 : decode cX10_undo 17 = .ok (.aload_n 0, 1) := by decide +kernel
theorem dX10_undo_18 : decode cX10_undo 18 = .ok (.getfield 19, 3) := by decide +kernel
theorem dX10_undo_21 : decode cX10_undo 21 = .ok (.iconst 5, 1) := by decide +kernel
theorem dX10_undo_22 : decode cX10_undo 22 = .ok (.dup2, 1) := by decide +kernel
theorem dX10_undo_23 : decode cX10_undo 23 = .ok (.iaload, 1) := by decide +kernel
theorem dX10_undo_24 : decode cX10_undo 24 = .ok (.iconst 1, 1) := by decide +kernel
theorem dX10_undo_25 : decode cX10_undo 25 = .ok (.isub, 1) := by decide +kernel
theorem dX10_undo_26 : decode cX10_undo 26 = .ok (.iastore, 1) := by decide +kernel
theorem dX10_undo_27 : decode cX10_undo 27 = .ok (.iconst 3, 1) := by decide +kernel
theorem dX10_undo_28 : decode cX10_undo 28 = .ok (.aload_n 0, 1) := by decide +kernel
theorem dX10_undo_29 : decode cX10_undo 29 = .ok (.getfield 19, 3) := by decide +kernel
theorem dX10_undo_32 : decode cX10_undo 32 = .ok (.iconst 5, 1) := by decide +kernel
theorem dX10_undo_33 : decode cX10_undo 33 = .ok (.iaload, 1) := by decide +kernel
theorem dX10_undo_34 : decode cX10_undo 34 = .ok (.imul, 1) := by decide +kernel
theorem dX10_undo_35 : decode cX10_undo 35 = .ok (.istore_n 1, 1) := by decide +kernel
theorem dX10_undo_36 : decode cX10_undo 36 = .ok (.aload_n 0, 1) := by decide +kernel
theorem dX10_undo_37 : decode cX10_undo 37 = .ok (.getfield 19, 3) := by decide +kernel
theorem dX10_undo_40 : decode cX10_undo 40 = .ok (.aload_n 0, 1) := by decide +kernel
theorem dX10_undo_41 : decode cX10_undo 41 = .ok (.getfield 25, 3) := by decide +kernel
theorem dX10_undo_44 : decode cX10_undo 44 = .ok (.iload_n 1, 1) := by decide +kernel
theorem dX10_undo_45 : decode cX10_undo 45 = .ok (.iaload, 1) := by decide +kernel
theorem dX10_undo_46 : decode cX10_undo 46 = .ok (.aload_n 0, 1) := by decide +kernel
theorem dX10_undo_47 : decode cX10_undo 47 = .ok (.getfield 25, 3) := by decide +kernel
theorem dX10_undo_50 : decode cX10_undo 50 = .ok (.iload_n 1, 1) := by decide +kernel
theorem dX10_undo_51 : decode cX10_undo 51 = .ok (.iconst 1, 1) := by decide +kernel
theorem dX10_undo_52 : decode cX10_undo 52 = .ok (.iadd, 1) := by decide +kernel
theorem dX10_undo_53 : decode cX10_undo 53 = .ok (.iaload, 1) := by decide +kernel
theorem dX10_undo_54 : decode cX10_undo 54 = .ok (.iconst 1, 1) := by decide +kernel
theorem dX10_undo_55 : decode cX10_undo 55 = .ok (.if_icmp .ne 30, 3) := by decide +kernel
theorem dX10_undo_58 : decode cX10_undo 58 = .ok (.aload_n 0, 1) := by decide +kernel
theorem dX10_undo_59 : decode cX10_undo 59 = .ok (.aload_n 0, 1) := by decide +kernel
theorem dX10_undo_60 : decode cX10_undo 60 = .ok (.getfield 19, 3) := by decide +kernel
theorem dX10_undo_63 : decode cX10_undo 63 = .ok (.aload_n 0, 1) := by decide +kernel
theorem dX10_undo_64 : decode cX10_undo 64 = .ok (.getfield 25, 3) := by decide +kernel
theorem dX10_undo_67 : decode cX10_undo 67 = .ok (.iload_n 1, 1) := by decide +kernel
theorem dX10_undo_68 : decode cX10_undo 68 = .ok (.iaload, 1) := by decide +kernel
theorem dX10_undo_69 : decode cX10_undo 69 = .ok (.iaload, 1) := by decide +kernel
theorem dX10_undo_70 : decode cX10_undo 70 = .ok (.aload_n 0, 1) := by decide +kernel
theorem dX10_undo_71 : decode cX10_undo 71 = .ok (.getfield 25, 3) := by decide +kernel
theorem dX10_undo_74 : decode cX10_undo 74 = .ok (.iload_n 1, 1) := by decide +kernel
theorem dX10_undo_75 : decode cX10_undo 75 = .ok (.iconst 2, 1) := by decide +kernel
theorem dX10_undo_76 : decode cX10_undo 76 = .ok (.iadd, 1) := by decide +kernel
theorem dX10_undo_77 : decode cX10_undo 77 = .ok (.iaload, 1) := by decide +kernel
theorem dX10_undo_78 : decode cX10_undo 78 = .ok (.iadd, 1) := by decide +kernel
theorem dX10_undo_79 : decode cX10_undo 79 = .ok (.invokevirtual 216, 3) := by decide +kernel
theorem dX10_undo_82 : decode cX10_undo 82 = .ok (.goto 11, 3) := by decide +kernel
theorem dX10_undo_85 : decode cX10_undo 85 = .ok (.aload_n 0, 1) := by decide +kernel
theorem dX10_undo_86 : decode cX10_undo 86 = .ok (.getfield 25, 3) := by decide +kernel
theorem dX10_undo_89 : decode cX10_undo 89 = .ok (.iload_n 1, 1) := by decide +kernel
theorem dX10_undo_90 : decode cX10_undo 90 = .ok (.iconst 2, 1) := by decide +kernel
theorem dX10_undo_91 : decode cX10_undo 91 = .ok (.iadd, 1) := by decide +kernel
theorem dX10_undo_92 : decode cX10_undo 92 = .ok (.iaload, 1) := by decide +kernel
theorem dX10_undo_93 : decode cX10_undo 93 = .ok (.iastore, 1) := by decide +kernel
theorem dX10_undo_94 : decode cX10_undo 94 = .ok (.aload_n 0, 1) := by decide +kernel
theorem dX10_undo_95 : decode cX10_undo 95 = .ok (.getfield 19, 3) := by decide +kernel
theorem dX10_undo_98 : decode cX10_undo 98 = .ok (.iconst 5, 1) := by decide +kernel
theorem dX10_undo_99 : decode cX10_undo 99 = .ok (.iaload, 1) := by decide +kernel
theorem dX10_undo_100 : decode cX10_undo 100 = .ok (.ireturn, 1) := by decide +kernel
set_option maxRecDepth 100000 in
theorem rX10_undo_0 {p : Program} {l : Launch} {e : Env} {s : State} {m : MethodId} {args : Array Value} {below : List Frame} {meth : Method} {c : Code} {D : va_G} {cA : Nat → ClassId} {ad : Nat → Nat} {Ret : zR} (C : z_Cx p { frames := 1, cells := 0, slots := 0, locals := 21 } s m args c cX10_undo yX10_undo.cls 2 D cA ad) (hr : meth.sig.returnType = (some .int)) (hlocks : meth.locks = false) : ∀ L st σ, tX10_undo_0 (z_X p l e { frames := 1, cells := 0, slots := 0, locals := 21 } s m args below meth c (MQ below (z_Qc D cA ad Ret) args s 0 0 (z_A ad)) 2 D cA ad true) Ret L st σ → z_X p l e { frames := 1, cells := 0, slots := 0, locals := 21 } s m args below meth c (MQ below (z_Qc D cA ad Ret) args s 0 0 (z_A ad)) 2 D cA ad true 0 L st σ := (s_aload_n C dX10_undo_0 rfl (s_iconst C dX10_undo_1 rfl ⟨by decide, by decide⟩ (s_puti C dX10_undo_2 cls_X10 (by decide) rfl wd_968 rfl rfl (s_aload_n C dX10_undo_5 rfl (s_getr C dX10_undo_6 (j := 5) cls_X10 (by decide) rfl (by decide) (by decide) (by decide +kernel) wd_973 (s_iconst C dX10_undo_9 rfl ⟨by decide, by decide⟩ (s_iald C dX10_undo_10 (s_ifne C dX10_undo_11 (by decide) (s_aload_n C dX10_undo_17 rfl (s_getr C dX10_undo_18 (j := 5) cls_X10 (by decide) rfl (by decide) (by decide) (by decide +kernel) wd_973 (s_iconst C dX10_undo_21 rfl ⟨by decide, by decide⟩ (s_dup2 C dX10_undo_22 (s_iald C dX10_undo_23 (s_iconst C dX10_undo_24 rfl ⟨by decide, by decide⟩ (s_isub C dX10_undo_25 (s_iast C dX10_undo_26 (s_iconst C dX10_undo_27 rfl ⟨by decide, by decide⟩ (s_aload_n C dX10_undo_28 rfl (s_getr C dX10_undo_29 (j := 5) cls_X10 (by decide) rfl (by decide) (by decide) (by decide +kernel) wd_973 (s_iconst C dX10_undo_32 rfl ⟨by decide, by decide⟩ (s_iald C dX10_undo_33 (s_imul C dX10_undo_34 (s_istore_n C dX10_undo_35 (by decide) rfl rfl (s_aload_n C dX10_undo_36 rfl (s_getr C dX10_undo_37 (j := 5) cls_X10 (by decide) rfl (by decide) (by decide) (by decide +kernel) wd_973 (s_aload_n C dX10_undo_40 rfl (s_getr C dX10_undo_41 (j := 8) cls_X10 (by decide) rfl (by decide) (by decide) (by decide +kernel) wd_976 (s_iload_n C dX10_undo_44 rfl (s_iald C dX10_undo_45 (s_aload_n C dX10_undo_46 rfl (s_getr C dX10_undo_47 (j := 8) cls_X10 (by decide) rfl (by decide) (by decide) (by decide +kernel) wd_976 (s_iload_n C dX10_undo_50 rfl (s_iconst C dX10_undo_51 rfl ⟨by decide, by decide⟩ (s_iadd C dX10_undo_52 (s_iald C dX10_undo_53 (s_iconst C dX10_undo_54 rfl ⟨by decide, by decide⟩ (s_icne C dX10_undo_55 (by decide) (s_aload_n C dX10_undo_85 rfl (s_getr C dX10_undo_86 (j := 8) cls_X10 (by decide) rfl (by decide) (by decide) (by decide +kernel) wd_976 (s_iload_n C dX10_undo_89 rfl (s_iconst C dX10_undo_90 rfl ⟨by decide, by decide⟩ (s_iadd C dX10_undo_91 (s_iald C dX10_undo_92 (s_iast C dX10_undo_93 (s_aload_n C dX10_undo_94 rfl (s_getr C dX10_undo_95 (j := 5) cls_X10 (by decide) rfl (by decide) (by decide) (by decide +kernel) wd_973 (s_iconst C dX10_undo_98 rfl ⟨by decide, by decide⟩ (s_iald C dX10_undo_99 (s_iret C dX10_undo_100 hr hlocks)))))))))))) (s_aload_n C dX10_undo_58 rfl (s_aload_n C dX10_undo_59 rfl (s_getr C dX10_undo_60 (j := 5) cls_X10 (by decide) rfl (by decide) (by decide) (by decide +kernel) wd_973 (s_aload_n C dX10_undo_63 rfl (s_getr C dX10_undo_64 (j := 8) cls_X10 (by decide) rfl (by decide) (by decide) (by decide +kernel) wd_976 (s_iload_n C dX10_undo_67 rfl (s_iald C dX10_undo_68 (s_iald C dX10_undo_69 (s_aload_n C dX10_undo_70 rfl (s_getr C dX10_undo_71 (j := 8) cls_X10 (by decide) rfl (by decide) (by decide) (by decide +kernel) wd_976 (s_iload_n C dX10_undo_74 rfl (s_iconst C dX10_undo_75 rfl ⟨by decide, by decide⟩ (s_iadd C dX10_undo_76 (s_iald C dX10_undo_77 (s_iadd C dX10_undo_78 (s_cv1 C dX10_undo_79 (okX10_lengthOf l) cls_X10 wd_1211 wd_1213 wd_53 wd_85 wd_1214 ⟨by decide, by decide, by decide +kernel⟩ ⟨by decide, by decide⟩ (s_goto C dX10_undo_82 (by decide) (s_iast C dX10_undo_93 (s_aload_n C dX10_undo_94 rfl (s_getr C dX10_undo_95 (j := 5) cls_X10 (by decide) rfl (by decide) (by decide) (by decide +kernel) wd_973 (s_iconst C dX10_undo_98 rfl ⟨by decide, by decide⟩ (s_iald C dX10_undo_99 (s_iret C dX10_undo_100 hr hlocks)))))))))))))))))))))))))))))))))))))))))))))))))))) (s_ldc C dX10_undo_14 (v := -1000002) wd_1191 ⟨by decide, by decide⟩ (s_iret C dX10_undo_16 hr hlocks))))))))))
theorem okX10_undo (l : Launch) : z_OK l yX10_undo cX10_undo 2 (some .int) 1 21 SX10_undo := by
  refine z_ok_of true (by decide +kernel) ?_ ?_
  · intro as σ Ret h
    obtain ⟨k0, rfl⟩ := pX10_undo h
    exact ⟨Nat.le_of_ble_eq_true rfl, by simp⟩
  · intro p e s m args below meth c D cA ad Ret C hr hlocks as σ has hσ h
    obtain ⟨k0, rfl⟩ := pX10_undo h
    exact vX10_undo (rX10_undo_0 C hr hlocks) k0 σ (has _ (List.mem_of_getElem? (i := 0) rfl)) hσ h
