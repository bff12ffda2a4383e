/-! rows asked of the model -/
def SX10_drop : zS := fun as σ Ret => match as with
  | [.inr (.inr (10, 0, _)), .inl r] => q_S10 (q_gDrop r) (q_fDrop r) σ Ret
  | _ => False
def tX10_drop_0 (X : Nat → zB) (Ret : zR) (L : zL) (st : List zV) (σ : zM) : Prop := (z_aload 0 (z_push 0 (z_puti 10 0 (z_iload 1 (z_cs1 SX10_isRow (z_ifne (z_aload 0 (z_push 0 (z_puti 10 1 (z_aload 0 (z_getr 10 1 100 8 (z_iload 1 (z_ald 0 (z_ifge (z_aload 0 (z_getr 10 1 100 8 (z_iload 1 (z_push (-1) (z_iast (z_aload 0 (z_getr 10 2 100 8 (z_iload 1 (z_ald 0 (z_iret Ret)))))))))) (z_aload 0 (z_push 1 (z_cv1 10 SX10_finding (z_iret Ret)))))))))))) (z_push (-1000001) (z_iret Ret)))))))) L st σ
theorem pX10_drop {as : List zV} {σ : zM} {Ret : zR} (h : SX10_drop as σ Ret) : ∃ (k0 : Nat) (x1 : Int), as = [.inr (.inr (10, 0, k0)), .inl x1] := by
  unfold SX10_drop at h
  split at h
  · exact ⟨_, _, rfl⟩
  · exact h.elim
set_option maxRecDepth 10000 in
set_option maxHeartbeats 4000000 in
theorem vX10_drop {X : Nat → zB} {Ret : zR} (h0 : ∀ L st σ, tX10_drop_0 X Ret L st σ → X 0 L st σ) (k0 : Nat) (x1 : Int) (σ : zM) (hk0 : z_kd k0 = (10, 0)) (hx1 : -2147483648 ≤ x1 ∧ x1 ≤ 2147483647) (hσ : z_okm σ) (h : SX10_drop [.inr (.inr (10, 0, k0)), .inl x1] σ Ret) : X 0 [some (.inr (.inr (10, 0, k0))), some (.inl x1)] [] σ := by
  obtain ⟨m, h⟩ := h
  obtain rfl := z_kd10 hk0
  by_cases c1 : ¬ (0 ≤ x1 ∧ x1 < 8)
  · have fin := h (z_up σ 89 0 0) q_th.1 (by unfold q_fDrop; rw [if_pos c1]; exact q_th.2)
    simp only [q_gDrop, if_pos c1] at fin
    refine h0 _ _ _ ?_
    have c2 : ¬ (0 ≤ x1 ∧ x1 ≤ 7) := by omega
    simp only [z_push, z_lpush, z_iload, z_lload, z_aload, z_istore, z_istoreP, z_lstore, z_astore, z_iinc, z_iincP, z_iadd, z_isub, z_imul, z_iaddW, z_isubW, z_imulW, z_idiv, z_irem, z_iand, z_ior, z_ixor, z_ishl, z_ishr, z_iushr, z_ineg, z_i2l, z_i2b, z_i2s, z_i2c, z_l2i, z_ladd, z_lsub, z_land, z_lor, z_lshl, z_lshr, z_lcmp, z_dup, z_pop, z_dup2, z_goto, z_tsw, z_cases, z_geti, z_getr, z_puti, z_putz, z_ald, z_iast, z_bast, z_zast, z_alen, z_acopy, z_mmax, z_mmin, z_mabs, z_mabsL, z_iret, z_zret, z_nret, z_lret, z_aret, z_vret, z_cat, z_ldcs, z_strv, z_strc, z_gcs, z_gfm, z_sln, z_sald, z_ifeq, z_ifne, z_iflt, z_ifge, z_ifgt, z_ifle, z_iceq, z_icne, z_iclt, z_icge, z_icgt, z_icle, z_cs0, z_cs1, z_cs2, z_cs3, z_cs4, z_cs5, z_cs6, z_cs7, z_cv0, z_cv1, z_cv2, z_cv3, z_cv4, z_cv5, z_cv6, z_cv7, z_g0, z_s0, z_g1, z_s1, z_g2, z_s2, z_g3, z_s3, z_g4, z_s4, z_g5, z_s5, z_g6, z_s6, z_g7, z_s7, z_g8, z_s8, z_g9, z_s9, z_g10, z_s10, z_g11, z_s11, z_g12, z_s12, z_g13, z_s13, z_b0, z_b1, z_b0n, z_b1n, z_up_far1, z_up_far2, z_up_far3, z_up_far4, z_up_far5, z_up_far6, Classical.not_not, not_true_eq_false, z_in, z_inL, Int.cast_ofNat_Int, Nat.reduceLeDiff, List.length_cons, List.length_nil, Nat.reduceAdd, Nat.zero_add, Nat.le_refl, true_and, and_true, List.length, Nat.reduceLT, true_or, or_true, false_or, or_false, false_and, and_false, not_true_eq_false, not_false_eq_true, forall_const, false_implies, true_implies, Int.reduceEq, Int.reduceLT, Int.reduceLE, Int.reduceAdd, Int.reduceSub, Int.reduceMul, Int.reduceNeg, Int.reduceToNat, Int.toNat_natCast, ↓reduceIte, reduceIte, Nat.reduceEqDiff, Nat.reduceSub, Nat.reduceMul, ne_eq, Int.zero_add, Int.add_zero, Int.sub_zero, Nat.add_zero, Int.ofNat_eq_natCast, tX10_drop_0, SX10_isRow, c2]
    repeat' (first | (intro _) | (with_reducible assumption) | (refine And.intro ?_ ?_))
    all_goals first | omega | assumption | (refine z_fin fin ?_ rfl; first | rfl | omega | (split <;> omega) | (split <;> split <;> omega)) | skip
  obtain ⟨r, rfl⟩ := z_nat (show 0 ≤ x1 by omega)
  have c1' : (0 : Int) ≤ r ∧ (r : Int) ≤ 7 := by omega
  have e90 : ∀ v, z_up (z_up σ 89 0 0) 89 1 v 90 r = σ 90 r := fun v => by rw [z_up_ne (by omega), z_up_ne (by omega)]
  by_cases c2 : σ 90 r < 0
  · have fin := h (z_up (z_up (z_up σ 89 0 0) 89 1 0) 89 1 1) (fun c hc => funext fun j => by rw [z_up_ne (by omega), z_up_ne (by omega), z_up_ne (by omega)]) (fun c j hc => by
      unfold q_fDrop
      rw [if_neg c1, Int.toNat_natCast, if_pos c2]
      unfold q_last at hc
      simp only [z_up]
      by_cases q : c = 89 ∧ j = 1
      · rw [if_pos q, if_pos q]
      · rw [if_neg q, if_neg q, if_neg q, if_neg (by omega)])
    simp only [q_gDrop, if_neg c1, Int.toNat_natCast, if_pos c2] at fin
    refine h0 _ _ _ ?_
    simp only [z_push, z_lpush, z_iload, z_lload, z_aload, z_istore, z_istoreP, z_lstore, z_astore, z_iinc, z_iincP, z_iadd, z_isub, z_imul, z_iaddW, z_isubW, z_imulW, z_idiv, z_irem, z_iand, z_ior, z_ixor, z_ishl, z_ishr, z_iushr, z_ineg, z_i2l, z_i2b, z_i2s, z_i2c, z_l2i, z_ladd, z_lsub, z_land, z_lor, z_lshl, z_lshr, z_lcmp, z_dup, z_pop, z_dup2, z_goto, z_tsw, z_cases, z_geti, z_getr, z_puti, z_putz, z_ald, z_iast, z_bast, z_zast, z_alen, z_acopy, z_mmax, z_mmin, z_mabs, z_mabsL, z_iret, z_zret, z_nret, z_lret, z_aret, z_vret, z_cat, z_ldcs, z_strv, z_strc, z_gcs, z_gfm, z_sln, z_sald, z_ifeq, z_ifne, z_iflt, z_ifge, z_ifgt, z_ifle, z_iceq, z_icne, z_iclt, z_icge, z_icgt, z_icle, z_cs0, z_cs1, z_cs2, z_cs3, z_cs4, z_cs5, z_cs6, z_cs7, z_cv0, z_cv1, z_cv2, z_cv3, z_cv4, z_cv5, z_cv6, z_cv7, z_g0, z_s0, z_g1, z_s1, z_g2, z_s2, z_g3, z_s3, z_g4, z_s4, z_g5, z_s5, z_g6, z_s6, z_g7, z_s7, z_g8, z_s8, z_g9, z_s9, z_g10, z_s10, z_g11, z_s11, z_g12, z_s12, z_g13, z_s13, z_b0, z_b1, z_b0n, z_b1n, z_up_far1, z_up_far2, z_up_far3, z_up_far4, z_up_far5, z_up_far6, Classical.not_not, not_true_eq_false, z_in, z_inL, Int.cast_ofNat_Int, Nat.reduceLeDiff, List.length_cons, List.length_nil, Nat.reduceAdd, Nat.zero_add, Nat.le_refl, true_and, and_true, List.length, Nat.reduceLT, true_or, or_true, false_or, or_false, false_and, and_false, not_true_eq_false, not_false_eq_true, forall_const, false_implies, true_implies, Int.reduceEq, Int.reduceLT, Int.reduceLE, Int.reduceAdd, Int.reduceSub, Int.reduceMul, Int.reduceNeg, Int.reduceToNat, Int.toNat_natCast, ↓reduceIte, reduceIte, Nat.reduceEqDiff, Nat.reduceSub, Nat.reduceMul, ne_eq, Int.zero_add, Int.add_zero, Int.sub_zero, Nat.add_zero, Int.ofNat_eq_natCast, tX10_drop_0, SX10_isRow, SX10_finding, c1', e90]
    repeat' (first | (intro _) | (with_reducible assumption) | (refine And.intro ?_ ?_))
    all_goals first | omega | assumption | (refine z_fin fin ?_ rfl; first | rfl | omega | (split <;> omega) | (split <;> split <;> omega)) | skip
  · have fin := h (z_up (z_up (z_up σ 89 0 0) 89 1 0) 90 r (-1)) (fun c hc => funext fun j => by rw [z_up_ne (by omega), z_up_ne (by omega), z_up_ne (by omega)]) (fun c j hc => by
      unfold q_fDrop
      rw [if_neg c1, Int.toNat_natCast, if_neg c2]
      unfold q_last at hc
      simp only [z_up]
      by_cases q : c = 90 ∧ j = r
      · rw [if_pos q, if_pos q]
      · rw [if_neg q, if_neg q]
        by_cases q2 : c = 89 ∧ j = 1
        · rw [if_pos q2, if_pos q2]
        · rw [if_neg q2, if_neg q2, if_neg (by omega)])
    simp only [q_gDrop, if_neg c1, Int.toNat_natCast, if_neg c2] at fin
    have e91 : z_up (z_up (z_up σ 89 0 0) 89 1 0) 90 r (-1) 91 r = σ 91 r := by rw [z_up_ne (by omega), z_up_ne (by omega), z_up_ne (by omega)]
    refine h0 _ _ _ ?_
    simp only [z_push, z_lpush, z_iload, z_lload, z_aload, z_istore, z_istoreP, z_lstore, z_astore, z_iinc, z_iincP, z_iadd, z_isub, z_imul, z_iaddW, z_isubW, z_imulW, z_idiv, z_irem, z_iand, z_ior, z_ixor, z_ishl, z_ishr, z_iushr, z_ineg, z_i2l, z_i2b, z_i2s, z_i2c, z_l2i, z_ladd, z_lsub, z_land, z_lor, z_lshl, z_lshr, z_lcmp, z_dup, z_pop, z_dup2, z_goto, z_tsw, z_cases, z_geti, z_getr, z_puti, z_putz, z_ald, z_iast, z_bast, z_zast, z_alen, z_acopy, z_mmax, z_mmin, z_mabs, z_mabsL, z_iret, z_zret, z_nret, z_lret, z_aret, z_vret, z_cat, z_ldcs, z_strv, z_strc, z_gcs, z_gfm, z_sln, z_sald, z_ifeq, z_ifne, z_iflt, z_ifge, z_ifgt, z_ifle, z_iceq, z_icne, z_iclt, z_icge, z_icgt, z_icle, z_cs0, z_cs1, z_cs2, z_cs3, z_cs4, z_cs5, z_cs6, z_cs7, z_cv0, z_cv1, z_cv2, z_cv3, z_cv4, z_cv5, z_cv6, z_cv7, z_g0, z_s0, z_g1, z_s1, z_g2, z_s2, z_g3, z_s3, z_g4, z_s4, z_g5, z_s5, z_g6, z_s6, z_g7, z_s7, z_g8, z_s8, z_g9, z_s9, z_g10, z_s10, z_g11, z_s11, z_g12, z_s12, z_g13, z_s13, z_b0, z_b1, z_b0n, z_b1n, z_up_far1, z_up_far2, z_up_far3, z_up_far4, z_up_far5, z_up_far6, Classical.not_not, not_true_eq_false, z_in, z_inL, Int.cast_ofNat_Int, Nat.reduceLeDiff, List.length_cons, List.length_nil, Nat.reduceAdd, Nat.zero_add, Nat.le_refl, true_and, and_true, List.length, Nat.reduceLT, true_or, or_true, false_or, or_false, false_and, and_false, not_true_eq_false, not_false_eq_true, forall_const, false_implies, true_implies, Int.reduceEq, Int.reduceLT, Int.reduceLE, Int.reduceAdd, Int.reduceSub, Int.reduceMul, Int.reduceNeg, Int.reduceToNat, Int.toNat_natCast, ↓reduceIte, reduceIte, Nat.reduceEqDiff, Nat.reduceSub, Nat.reduceMul, ne_eq, Int.zero_add, Int.add_zero, Int.sub_zero, Nat.add_zero, Int.ofNat_eq_natCast, tX10_drop_0, SX10_isRow, SX10_finding, c1', e90, e91]
    repeat' (first | (intro _) | (with_reducible assumption) | (refine And.intro ?_ ?_))
    all_goals first | omega | assumption | (refine z_fin fin ?_ rfl; first | rfl | omega | (split <;> omega) | (split <;> split <;> omega)) | skip
theorem dX10_drop_0 : decode cX10_drop 0 = .ok (.aload_n 0, 1) := by decide +kernel
theorem dX10_drop_1 : decode cX10_drop 1 = .ok (.iconst 0, 1) := by decide +kernel
theorem dX10_drop_2 : decode cX10_drop 2 = .ok (.putfield 65, 3) := by decide +kernel
theorem dX10_drop_5 : decode cX10_drop 5 = .ok (.iload_n 1, 1) := by decide +kernel
theorem dX10_drop_6 : decode cX10_drop 6 = .ok (.invokestatic 79, 3) := by decide +kernel
theorem dX10_drop_9 : decode cX10_drop 9 = .ok (.ifCond .ne 6, 3) := by decide +kernel
theorem dX10_drop_12 : decode cX10_drop 12 = .ok (.ldc 85, 2) := by decide +kernel
theorem dX10_drop_14 : decode cX10_drop 14 = .ok (.ireturn, 1) := by decide +kernel
theorem dX10_drop_15 : decode cX10_drop 15 = .ok (.aload_n 0, 1) := by decide +kernel
theorem dX10_drop_16 : decode cX10_drop 16 = .ok (.iconst 0, 1) := by decide +kernel
theorem dX10_drop_17 : decode cX10_drop 17 = .ok (.putfield 69, 3) := by decide +kernel
theorem dX10_drop_20 : decode cX10_drop 20 = .ok (.aload_n 0, 1) := by decide +kernel
theorem dX10_drop_21 : decode cX10_drop 21 = .ok (.getfield 7, 3) := by decide +kernel
theorem dX10_drop_24 : decode cX10_drop 24 = .ok (.iload_n 1, 1) := by decide +kernel
theorem dX10_drop_25 : decode cX10_drop 25 = .ok (.iaload, 1) := by decide +kernel
theorem dX10_drop_26 : decode cX10_drop 26 = .ok (.ifCond .ge 9, 3) := by decide +kernel
theorem dX10_drop_29 : decode cX10_drop 29 = .ok (.aload_n 0, 1) := by decide +kernel
theorem dX10_drop_30 : decode cX10_drop 30 = .ok (.iconst 1, 1) := by decide +kernel
theorem dX10_drop_31 : decode cX10_drop 31 = .ok (.invokevirtual 86, 3) := by decide +kernel
theorem dX10_drop_34 : decode cX10_drop 34 = .ok (.ireturn, 1) := by decide +kernel
theorem dX10_drop_35 : decode cX10_drop 35 = .ok (.aload_n 0, 1) := by decide +kernel
theorem dX10_drop_36 : decode cX10_drop 36 = .ok (.getfield 7, 3) := by decide +kernel
theorem dX10_drop_39 : decode cX10_drop 39 = .ok (.iload_n 1, 1) := by decide +kernel
theorem dX10_drop_40 : decode cX10_drop 40 = .ok (.iconst (-1), 1) := by decide +kernel
theorem dX10_drop_41 : decode cX10_drop 41 = .ok (.iastore, 1) := by decide +kernel
theorem dX10_drop_42 : decode cX10_drop 42 = .ok (.aload_n 0, 1) := by decide +kernel
theorem dX10_drop_43 : decode cX10_drop 43 = .ok (.getfield 13, 3) := by decide +kernel
theorem dX10_drop_46 : decode cX10_drop 46 = .ok (.iload_n 1, 1) := by decide +kernel
theorem dX10_drop_47 : decode cX10_drop 47 = .ok (.iaload, 1) := by decide +kernel
theorem dX10_drop_48 : decode cX10_drop 48 = .ok (.ireturn, 1) := by decide +kernel
set_option maxRecDepth 100000 in
theorem rX10_drop_0 {p : Program} {l : Launch} {e : Env} {s : State} {m : MethodId} {args : Array Value} {below : List Frame} {meth : Method} {c : Code} {D : va_G} {cA : Nat → ClassId} {ad : Nat → Nat} {Ret : zR} (C : z_Cx p { frames := 2, cells := 0, slots := 0, locals := 45 } s m args c cX10_drop yX10_drop.cls 2 D cA ad) (hr : meth.sig.returnType = (some .int)) (hlocks : meth.locks = false) : ∀ L st σ, tX10_drop_0 (z_X p l e { frames := 2, cells := 0, slots := 0, locals := 45 } s m args below meth c (MQ below (z_Qc D cA ad Ret) args s 0 0 (z_A ad)) 2 D cA ad true) Ret L st σ → z_X p l e { frames := 2, cells := 0, slots := 0, locals := 45 } s m args below meth c (MQ below (z_Qc D cA ad Ret) args s 0 0 (z_A ad)) 2 D cA ad true 0 L st σ := (s_aload_n C dX10_drop_0 rfl (s_iconst C dX10_drop_1 rfl ⟨by decide, by decide⟩ (s_puti C dX10_drop_2 cls_X10 (by decide) rfl wd_968 rfl rfl (s_iload_n C dX10_drop_5 rfl (s_cs1 C dX10_drop_6 (okX10_isRow l) wd_1078 wd_1079 wd_85 wd_1080 ⟨by decide, by decide, by decide +kernel⟩ ⟨by decide, by decide⟩ (s_ifne C dX10_drop_9 (by decide) (s_aload_n C dX10_drop_15 rfl (s_iconst C dX10_drop_16 rfl ⟨by decide, by decide⟩ (s_puti C dX10_drop_17 cls_X10 (by decide) rfl wd_969 rfl rfl (s_aload_n C dX10_drop_20 rfl (s_getr C dX10_drop_21 (j := 2) cls_X10 (by decide) rfl (by decide) (by decide) (by decide +kernel) wd_970 (s_iload_n C dX10_drop_24 rfl (s_iald C dX10_drop_25 (s_ifge C dX10_drop_26 (by decide) (s_aload_n C dX10_drop_35 rfl (s_getr C dX10_drop_36 (j := 2) cls_X10 (by decide) rfl (by decide) (by decide) (by decide +kernel) wd_970 (s_iload_n C dX10_drop_39 rfl (s_iconst C dX10_drop_40 rfl ⟨by decide, by decide⟩ (s_iast C dX10_drop_41 (s_aload_n C dX10_drop_42 rfl (s_getr C dX10_drop_43 (j := 3) cls_X10 (by decide) rfl (by decide) (by decide) (by decide +kernel) wd_971 (s_iload_n C dX10_drop_46 rfl (s_iald C dX10_drop_47 (s_iret C dX10_drop_48 hr hlocks)))))))))) (s_aload_n C dX10_drop_29 rfl (s_iconst C dX10_drop_30 rfl ⟨by decide, by decide⟩ (s_cv1 C dX10_drop_31 (okX10_finding l) cls_X10 wd_1087 wd_1089 wd_35 wd_85 wd_1090 ⟨by decide, by decide, by decide +kernel⟩ ⟨by decide, by decide⟩ (s_iret C dX10_drop_34 hr hlocks)))))))))))) (s_ldc C dX10_drop_12 (v := -1000001) wd_1086 ⟨by decide, by decide⟩ (s_iret C dX10_drop_14 hr hlocks))))))))
theorem okX10_drop (l : Launch) : z_OK l yX10_drop cX10_drop 2 (some .int) 2 45 SX10_drop := by
  refine z_ok_of true (by decide +kernel) ?_ ?_
  · intro as σ Ret h
    obtain ⟨k0, x1, rfl⟩ := pX10_drop h
    exact ⟨Nat.le_of_ble_eq_true rfl, by simp⟩
  · intro p e s m args below meth c D cA ad Ret C hr hlocks as σ has hσ h
    obtain ⟨k0, x1, rfl⟩ := pX10_drop h
    exact vX10_drop (rX10_drop_0 C hr hlocks) k0 x1 σ (has _ (List.mem_of_getElem? (i := 0) rfl)) (has _ (List.mem_of_getElem? (i := 1) rfl)) hσ h
