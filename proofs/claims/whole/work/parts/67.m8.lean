/-! a tone in the model -/
def SX10_tone : zS := fun as σ Ret => match as with
  | [.inr (.inr (10, 0, _)), .inl t] => ((0 ≤ t ∧ t < 12) ∧ (0 ≤ σ 93 (6 + 6 * t.toNat + 1) ∧ σ 93 (6 + 6 * t.toNat + 1) ≤ 20) ∧ 1 ≤ σ 98 t.toNat) ∧ Ret (some (.inl (q_tone (σ 93 (6 + 6 * t.toNat + 1)) (σ 98 t.toNat) (σ 93 4)))) σ
  | _ => False
def tX10_tone_0 (X : Nat → zB) (Ret : zR) (L : zL) (st : List zV) (σ : zM) : Prop := (z_push 1000 (z_aload 0 (z_iload 1 (z_push 1 (z_cv2 10 SX10_of (z_imul (z_aload 0 (z_getr 10 9 100 12 (z_iload 1 (z_ald 0 (z_idiv (z_istore 2 (z_aload 0 (z_getr 10 4 100 106 (z_push 4 (z_ald 0 (z_push 1 (z_icne (z_iload 2 (z_iret Ret)) (z_iload 2 (z_push 5 (z_iload 2 (z_push 100 (z_idiv (z_imul (z_isub (z_goto (z_iret Ret))))))))))))))))))))))))))) L st σ
theorem pX10_tone {as : List zV} {σ : zM} {Ret : zR} (h : SX10_tone as σ Ret) : ∃ (k0 : Nat) (x1 : Int), as = [.inr (.inr (10, 0, k0)), .inl x1] := by
  unfold SX10_tone at h
  split at h
  · exact ⟨_, _, rfl⟩
  · exact h.elim
set_option maxRecDepth 10000 in
set_option maxHeartbeats 4000000 in
theorem vX10_tone {X : Nat → zB} {Ret : zR} (h0 : ∀ L st σ, tX10_tone_0 X Ret L st σ → X 0 L st σ) (k0 : Nat) (x1 : Int) (σ : zM) (hk0 : z_kd k0 = (10, 0)) (hx1 : -2147483648 ≤ x1 ∧ x1 ≤ 2147483647) (hσ : z_okm σ) (h : SX10_tone [.inr (.inr (10, 0, k0)), .inl x1] σ Ret) : X 0 [some (.inr (.inr (10, 0, k0))), some (.inl x1), none] [] σ := by
  obtain ⟨⟨⟨t0, t1⟩, hp, hl⟩, h⟩ := h
  obtain rfl := z_kd10 hk0
  obtain ⟨t, rfl⟩ := z_nat t0
  simp only [Int.toNat_natCast] at hp hl h
  have hd := q_dry_in hp hl
  unfold q_tone at h
  have q5 : (q_dry (σ 93 (6 + 6 * t + 1)) (σ 98 t)).tdiv 100 = q_dry (σ 93 (6 + 6 * t + 1)) (σ 98 t) / 100 := Int.tdiv_eq_ediv_of_nonneg hd.1
  by_cases c : σ 93 4 = 1
  · rw [if_pos c] at h
    refine h0 _ _ _ ?_
    simp only [z_push, z_lpush, z_iload, z_lload, z_aload, z_istore, z_istoreP, z_lstore, z_astore, z_iinc, z_iincP, z_iadd, z_isub, z_imul, z_iaddW, z_isubW, z_imulW, z_idiv, z_irem, z_iand, z_ior, z_ixor, z_ishl, z_ishr, z_iushr, z_ineg, z_i2l, z_i2b, z_i2s, z_i2c, z_l2i, z_ladd, z_lsub, z_land, z_lor, z_lshl, z_lshr, z_lcmp, z_dup, z_pop, z_dup2, z_goto, z_tsw, z_cases, z_geti, z_getr, z_puti, z_putz, z_ald, z_iast, z_bast, z_zast, z_alen, z_acopy, z_mmax, z_mmin, z_mabs, z_mabsL, z_iret, z_zret, z_nret, z_lret, z_aret, z_vret, z_cat, z_ldcs, z_strv, z_strc, z_gcs, z_gfm, z_sln, z_sald, z_ifeq, z_ifne, z_iflt, z_ifge, z_ifgt, z_ifle, z_iceq, z_icne, z_iclt, z_icge, z_icgt, z_icle, z_cs0, z_cs1, z_cs2, z_cs3, z_cs4, z_cs5, z_cs6, z_cs7, z_cv0, z_cv1, z_cv2, z_cv3, z_cv4, z_cv5, z_cv6, z_cv7, z_g0, z_s0, z_g1, z_s1, z_g2, z_s2, z_g3, z_s3, z_g4, z_s4, z_g5, z_s5, z_g6, z_s6, z_g7, z_s7, z_g8, z_s8, z_g9, z_s9, z_g10, z_s10, z_g11, z_s11, z_g12, z_s12, z_g13, z_s13, z_b0, z_b1, z_b0n, z_b1n, z_up_far1, z_up_far2, z_up_far3, z_up_far4, z_up_far5, z_up_far6, Classical.not_not, not_true_eq_false, z_in, z_inL, Int.cast_ofNat_Int, Nat.reduceLeDiff, List.length_cons, List.length_nil, Nat.reduceAdd, Nat.zero_add, Nat.le_refl, true_and, and_true, List.length, Nat.reduceLT, true_or, or_true, false_or, or_false, false_and, and_false, not_true_eq_false, not_false_eq_true, forall_const, false_implies, true_implies, Int.reduceEq, Int.reduceLT, Int.reduceLE, Int.reduceAdd, Int.reduceSub, Int.reduceMul, Int.reduceNeg, Int.reduceToNat, Int.toNat_natCast, ↓reduceIte, reduceIte, Nat.reduceEqDiff, Nat.reduceSub, Nat.reduceMul, ne_eq, Int.zero_add, Int.add_zero, Int.sub_zero, Nat.add_zero, Int.ofNat_eq_natCast, tX10_tone_0, SX10_of, c]
    unfold q_dry at h q5 hd
    repeat' (first | (intro _) | (with_reducible assumption) | (refine And.intro ?_ ?_))
    all_goals first | omega | assumption | (refine z_fin h ?_ rfl; first | rfl | omega | (split <;> omega) | (split <;> split <;> omega)) | skip
  · rw [if_neg c] at h
    refine h0 _ _ _ ?_
    simp only [z_push, z_lpush, z_iload, z_lload, z_aload, z_istore, z_istoreP, z_lstore, z_astore, z_iinc, z_iincP, z_iadd, z_isub, z_imul, z_iaddW, z_isubW, z_imulW, z_idiv, z_irem, z_iand, z_ior, z_ixor, z_ishl, z_ishr, z_iushr, z_ineg, z_i2l, z_i2b, z_i2s, z_i2c, z_l2i, z_ladd, z_lsub, z_land, z_lor, z_lshl, z_lshr, z_lcmp, z_dup, z_pop, z_dup2, z_goto, z_tsw, z_cases, z_geti, z_getr, z_puti, z_putz, z_ald, z_iast, z_bast, z_zast, z_alen, z_acopy, z_mmax, z_mmin, z_mabs, z_mabsL, z_iret, z_zret, z_nret, z_lret, z_aret, z_vret, z_cat, z_ldcs, z_strv, z_strc, z_gcs, z_gfm, z_sln, z_sald, z_ifeq, z_ifne, z_iflt, z_ifge, z_ifgt, z_ifle, z_iceq, z_icne, z_iclt, z_icge, z_icgt, z_icle, z_cs0, z_cs1, z_cs2, z_cs3, z_cs4, z_cs5, z_cs6, z_cs7, z_cv0, z_cv1, z_cv2, z_cv3, z_cv4, z_cv5, z_cv6, z_cv7, z_g0, z_s0, z_g1, z_s1, z_g2, z_s2, z_g3, z_s3, z_g4, z_s4, z_g5, z_s5, z_g6, z_s6, z_g7, z_s7, z_g8, z_s8, z_g9, z_s9, z_g10, z_s10, z_g11, z_s11, z_g12, z_s12, z_g13, z_s13, z_b0, z_b1, z_b0n, z_b1n, z_up_far1, z_up_far2, z_up_far3, z_up_far4, z_up_far5, z_up_far6, Classical.not_not, not_true_eq_false, z_in, z_inL, Int.cast_ofNat_Int, Nat.reduceLeDiff, List.length_cons, List.length_nil, Nat.reduceAdd, Nat.zero_add, Nat.le_refl, true_and, and_true, List.length, Nat.reduceLT, true_or, or_true, false_or, or_false, false_and, and_false, not_true_eq_false, not_false_eq_true, forall_const, false_implies, true_implies, Int.reduceEq, Int.reduceLT, Int.reduceLE, Int.reduceAdd, Int.reduceSub, Int.reduceMul, Int.reduceNeg, Int.reduceToNat, Int.toNat_natCast, ↓reduceIte, reduceIte, Nat.reduceEqDiff, Nat.reduceSub, Nat.reduceMul, ne_eq, Int.zero_add, Int.add_zero, Int.sub_zero, Nat.add_zero, Int.ofNat_eq_natCast, tX10_tone_0, SX10_of, c]
    unfold q_dry at h hd
    repeat' (first | (intro _) | (with_reducible assumption) | (refine And.intro ?_ ?_))
    all_goals first | omega | assumption | (refine z_fin h ?_ rfl; first | rfl | omega | (split <;> omega) | (split <;> split <;> omega)) | skip
theorem dX10_tone_0 : decode cX10_tone 0 = .ok (.sipush 1000, 3) := by decide +kernel
theorem dX10_tone_3 : decode cX10_tone 3 = .ok (.aload_n 0, 1) := by decide +kernel
theorem dX10_tone_4 : decode cX10_tone 4 = .ok (.iload_n 1, 1) := by decide +kernel
theorem dX10_tone_5 : decode cX10_tone 5 = .ok (.iconst 1, 1) := by decide +kernel
theorem dX10_tone_6 : decode cX10_tone 6 = .ok (.invokevirtual 227, 3) := by decide +kernel
theorem dX10_tone_9 : decode cX10_tone 9 = .ok (.imul, 1) := by decide +kernel
theorem dX10_tone_10 : decode cX10_tone 10 = .ok (.aload_n 0, 1) := by decide +kernel
theorem dX10_tone_11 : decode cX10_tone 11 = .ok (.getfield 34, 3) := by decide +kernel
theorem dX10_tone_14 : decode cX10_tone 14 = .ok (.iload_n 1, 1) := by decide +kernel
theorem dX10_tone_15 : decode cX10_tone 15 = .ok (.iaload, 1) := by decide +kernel
theorem dX10_tone_16 : decode cX10_tone 16 = .ok (.idiv, 1) := by decide +kernel
theorem dX10_tone_17 : decode cX10_tone 17 = .ok (.istore_n 2, 1) := by decide +kernel
theorem dX10_tone_18 : decode cX10_tone 18 = .ok (.aload_n 0, 1) := by decide +kernel
theorem dX10_tone_19 : decode cX10_tone 19 = .ok (.getfield 19, 3) := by decide +kernel
theorem dX10_tone_22 : decode cX10_tone 22 = .ok (.iconst 4, 1) := by decide +kernel
theorem dX10_tone_23 : decode cX10_tone 23 = .ok (.iaload, 1) := by decide +kernel
theorem dX10_tone_24 : decode cX10_tone 24 = .ok (.iconst 1, 1) := by decide +kernel
theorem dX10_tone_25 : decode cX10_tone 25 = .ok (.if_icmp .ne 14, 3) := by decide +kernel
theorem dX10_tone_28 : decode cX10_tone 28 = .ok (.iload_n 2, 1) := by decide +kernel
theorem dX10_tone_29 : decode cX10_tone 29 = .ok (.iconst 5, 1) := by decide +kernel
theorem dX10_tone_30 : decode cX10_tone 30 = .ok (.iload_n 2, 1) := by decide +kernel
theorem dX10_tone_31 : decode cX10_tone 31 = .ok (.bipush 100, 2) := by decide +kernel
theorem dX10_tone_33 : decode cX10_tone 33 = .ok (.idiv, 1) := by decide +kernel
theorem dX10_tone_34 : decode cX10_tone 34 = .ok (.imul, 1) := by decide +kernel
theorem dX10_tone_35 : decode cX10_tone 35 = .ok (.isub, 1) := by decide +kernel
theorem dX10_tone_36 : decode cX10_tone 36 = .ok (.goto 4, 3) := by decide +kernel
theorem dX10_tone_39 : decode cX10_tone 39 = .ok (.iload_n 2, 1) := by decide +kernel
theorem dX10_tone_40 : decode cX10_tone 40 = .ok (.ireturn, 1) := by decide +kernel
set_option maxRecDepth 100000 in
theorem rX10_tone_0 {p : Program} {l : Launch} {e : Env} {s : State} {m : MethodId} {args : Array Value} {below : List Frame} {meth : Method} {c : Code} {D : va_G} {cA : Nat → ClassId} {ad : Nat → Nat} {Ret : zR} (C : z_Cx p { frames := 1, cells := 0, slots := 0, locals := 22 } s m args c cX10_tone yX10_tone.cls 3 D cA ad) (hr : meth.sig.returnType = (some .int)) (hlocks : meth.locks = false) : ∀ L st σ, tX10_tone_0 (z_X p l e { frames := 1, cells := 0, slots := 0, locals := 22 } s m args below meth c (MQ below (z_Qc D cA ad Ret) args s 0 0 (z_A ad)) 3 D cA ad true) Ret L st σ → z_X p l e { frames := 1, cells := 0, slots := 0, locals := 22 } s m args below meth c (MQ below (z_Qc D cA ad Ret) args s 0 0 (z_A ad)) 3 D cA ad true 0 L st σ := (s_sipush C dX10_tone_0 rfl ⟨by decide, by decide⟩ (s_aload_n C dX10_tone_3 rfl (s_iload_n C dX10_tone_4 rfl (s_iconst C dX10_tone_5 rfl ⟨by decide, by decide⟩ (s_cv2 C dX10_tone_6 (okX10_of l) cls_X10 wd_1232 wd_1234 wd_55 wd_85 wd_1235 ⟨by decide, by decide, by decide +kernel⟩ ⟨by decide, by decide⟩ (s_imul C dX10_tone_9 (s_aload_n C dX10_tone_10 rfl (s_getr C dX10_tone_11 (j := 21) cls_X10 (by decide) rfl (by decide) (by decide) (by decide +kernel) wd_989 (s_iload_n C dX10_tone_14 rfl (s_iald C dX10_tone_15 (s_idiv C dX10_tone_16 (s_istore_n C dX10_tone_17 (by decide) rfl rfl (s_aload_n C dX10_tone_18 rfl (s_getr C dX10_tone_19 (j := 5) cls_X10 (by decide) rfl (by decide) (by decide) (by decide +kernel) wd_973 (s_iconst C dX10_tone_22 rfl ⟨by decide, by decide⟩ (s_iald C dX10_tone_23 (s_iconst C dX10_tone_24 rfl ⟨by decide, by decide⟩ (s_icne C dX10_tone_25 (by decide) (s_iload_n C dX10_tone_39 rfl (s_iret C dX10_tone_40 hr hlocks)) (s_iload_n C dX10_tone_28 rfl (s_iconst C dX10_tone_29 rfl ⟨by decide, by decide⟩ (s_iload_n C dX10_tone_30 rfl (s_bipush C dX10_tone_31 rfl ⟨by decide, by decide⟩ (s_idiv C dX10_tone_33 (s_imul C dX10_tone_34 (s_isub C dX10_tone_35 (s_goto C dX10_tone_36 (by decide) (s_iret C dX10_tone_40 hr hlocks)))))))))))))))))))))))))))
theorem okX10_tone (l : Launch) : z_OK l yX10_tone cX10_tone 3 (some .int) 1 22 SX10_tone := by
  refine z_ok_of true (by decide +kernel) ?_ ?_
  · intro as σ Ret h
    obtain ⟨k0, x1, rfl⟩ := pX10_tone h
    exact ⟨Nat.le_of_ble_eq_true rfl, by simp⟩
  · intro p e s m args below meth c D cA ad Ret C hr hlocks as σ has hσ h
    obtain ⟨k0, x1, rfl⟩ := pX10_tone h
    exact vX10_tone (rX10_tone_0 C hr hlocks) k0 x1 σ (has _ (List.mem_of_getElem? (i := 0) rfl)) (has _ (List.mem_of_getElem? (i := 1) rfl)) hσ h
