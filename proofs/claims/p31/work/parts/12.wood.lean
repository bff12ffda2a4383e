/-! Wood b: trees at b+1 .. b+7, winds at b+8 .. b+11, what is done at b+12 .. b+15, the tune at b+16; (b, 4) tones, (b, 5) years, (b, 6) wet, (b, 7) there. -/
def SX8_beginAnew : zS := fun as σ Ret => match as with
  | [.inr (.inr (8, 0, b))] => Ret none (z_up (z_up (z_up (z_up (z_up (z_up (z_up σ (b + 1) 6 0) (b + 8) 3 0) (b + 12) 3 0) b 4 0) b 5 0) b 6 0) b 7 1)
  | _ => False
def tX8_beginAnew_0 (X : Nat → zB) (Ret : zR) (L : zL) (st : List zV) (σ : zM) : Prop := (z_aload 0 (z_getr 8 1 6 0 (z_push 0 (z_puti 6 6 (z_aload 0 (z_getr 8 8 7 0 (z_push 0 (z_puti 7 3 (z_aload 0 (z_getr 8 12 2 0 (z_push 0 (z_puti 2 3 (z_aload 0 (z_push 0 (z_puti 8 4 (z_aload 0 (z_push 0 (z_puti 8 5 (z_aload 0 (z_push 0 (z_puti 8 6 (z_aload 0 (z_push 1 (z_putz 8 7 (z_vret Ret))))))))))))))))))))))))) L st σ
theorem pX8_beginAnew {as : List zV} {σ : zM} {Ret : zR} (h : SX8_beginAnew as σ Ret) : ∃ (k0 : Nat), as = [.inr (.inr (8, 0, k0))] := by
  unfold SX8_beginAnew at h
  split at h
  · exact ⟨_, rfl⟩
  · exact h.elim
set_option maxRecDepth 10000 in
set_option maxHeartbeats 4000000 in
theorem vX8_beginAnew {X : Nat → zB} {Ret : zR} (h0 : ∀ L st σ, tX8_beginAnew_0 X Ret L st σ → X 0 L st σ) (k0 : Nat) (σ : zM) (hk0 : z_kd k0 = (8, 0)) (hσ : z_okm σ) (h : SX8_beginAnew [.inr (.inr (8, 0, k0))] σ Ret) : X 0 [some (.inr (.inr (8, 0, k0)))] [] σ := by
  refine h0 _ _ _ ?_
  simp only [z_push, z_lpush, z_iload, z_lload, z_aload, z_istore, z_istoreP, z_lstore, z_astore, z_iinc, z_iincP, z_iadd, z_isub, z_imul, z_iaddW, z_isubW, z_imulW, z_idiv, z_irem, z_iand, z_ior, z_ixor, z_ishl, z_ishr, z_iushr, z_ineg, z_i2l, z_i2b, z_i2s, z_i2c, z_l2i, z_ladd, z_lsub, z_land, z_lor, z_lshl, z_lshr, z_lcmp, z_dup, z_pop, z_dup2, z_goto, z_tsw, z_cases, z_geti, z_getr, z_puti, z_putz, z_ald, z_iast, z_bast, z_zast, z_alen, z_acopy, z_mmax, z_mmin, z_mabs, z_mabsL, z_iret, z_zret, z_nret, z_lret, z_aret, z_vret, z_cat, z_xald, z_xlen, z_ldcs, z_strv, z_strc, z_gcs, z_gfm, z_sln, z_sald, z_ifeq, z_ifne, z_iflt, z_ifge, z_ifgt, z_ifle, z_iceq, z_icne, z_iclt, z_icge, z_icgt, z_icle, z_cs0, z_cs1, z_cs2, z_cs3, z_cs4, z_cs5, z_cs6, z_cs7, z_cv0, z_cv1, z_cv2, z_cv3, z_cv4, z_cv5, z_cv6, z_cv7, z_g0, z_s0, z_g1, z_s1, z_g2, z_s2, z_g3, z_s3, z_g4, z_s4, z_g5, z_s5, z_g6, z_s6, z_g7, z_s7, z_g8, z_s8, z_g9, z_s9, z_g10, z_s10, z_g11, z_s11, z_g12, z_s12, z_g13, z_s13, z_b0, z_b1, z_b0n, z_b1n, z_up_far1, z_up_far2, z_up_far3, z_up_far4, z_up_far5, z_up_far6, Classical.not_not, not_true_eq_false, z_in, z_inL, Int.cast_ofNat_Int, Nat.reduceLeDiff, List.length_cons, List.length_nil, Nat.reduceAdd, Nat.zero_add, Nat.le_refl, true_and, and_true, List.length, Nat.reduceLT, true_or, or_true, false_or, or_false, false_and, and_false, not_true_eq_false, not_false_eq_true, forall_const, false_implies, true_implies, Int.reduceEq, Int.reduceLT, Int.reduceLE, Int.reduceAdd, Int.reduceSub, Int.reduceMul, Int.reduceNeg, Int.reduceToNat, Int.toNat_natCast, ↓reduceIte, reduceIte, Nat.reduceEqDiff, Nat.reduceSub, Nat.reduceMul, ne_eq, Int.zero_add, Int.add_zero, Int.sub_zero, Nat.add_zero, Int.ofNat_eq_natCast, tX8_beginAnew_0]
  repeat' (first | (intro _) | (with_reducible assumption) | (refine And.intro ?_ ?_))
  all_goals first | omega | assumption | (refine z_fin h ?_ rfl; first | rfl | omega | (split <;> omega) | (split <;> split <;> omega)) | skip
theorem dX8_beginAnew_0 : decode cX8_beginAnew 0 = .ok (.aload_n 0, 1) := by decide +kernel
theorem dX8_beginAnew_1 : decode cX8_beginAnew 1 = .ok (.getfield 12, 3) := by decide +kernel
theorem dX8_beginAnew_4 : decode cX8_beginAnew 4 = .ok (.iconst 0, 1) := by decide +kernel
theorem dX8_beginAnew_5 : decode cX8_beginAnew 5 = .ok (.putfield 36, 3) := by decide +kernel
theorem dX8_beginAnew_8 : decode cX8_beginAnew 8 = .ok (.aload_n 0, 1) := by decide +kernel
theorem dX8_beginAnew_9 : decode cX8_beginAnew 9 = .ok (.getfield 21, 3) := by decide +kernel
theorem dX8_beginAnew_12 : decode cX8_beginAnew 12 = .ok (.iconst 0, 1) := by decide +kernel
theorem dX8_beginAnew_13 : decode cX8_beginAnew 13 = .ok (.putfield 40, 3) := by decide +kernel
theorem dX8_beginAnew_16 : decode cX8_beginAnew 16 = .ok (.aload_n 0, 1) := by decide +kernel
theorem dX8_beginAnew_17 : decode cX8_beginAnew 17 = .ok (.getfield 28, 3) := by decide +kernel
theorem dX8_beginAnew_20 : decode cX8_beginAnew 20 = .ok (.iconst 0, 1) := by decide +kernel
theorem dX8_beginAnew_21 : decode cX8_beginAnew 21 = .ok (.putfield 41, 3) := by decide +kernel
theorem dX8_beginAnew_24 : decode cX8_beginAnew 24 = .ok (.aload_n 0, 1) := by decide +kernel
theorem dX8_beginAnew_25 : decode cX8_beginAnew 25 = .ok (.iconst 0, 1) := by decide +kernel
theorem dX8_beginAnew_26 : decode cX8_beginAnew 26 = .ok (.putfield 42, 3) := by decide +kernel
theorem dX8_beginAnew_29 : decode cX8_beginAnew 29 = .ok (.aload_n 0, 1) := by decide +kernel
theorem dX8_beginAnew_30 : decode cX8_beginAnew 30 = .ok (.iconst 0, 1) := by decide +kernel
theorem dX8_beginAnew_31 : decode cX8_beginAnew 31 = .ok (.putfield 45, 3) := by decide +kernel
theorem dX8_beginAnew_34 : decode cX8_beginAnew 34 = .ok (.aload_n 0, 1) := by decide +kernel
theorem dX8_beginAnew_35 : decode cX8_beginAnew 35 = .ok (.iconst 0, 1) := by decide +kernel
theorem dX8_beginAnew_36 : decode cX8_beginAnew 36 = .ok (.putfield 48, 3) := by decide +kernel
theorem dX8_beginAnew_39 : decode cX8_beginAnew 39 = .ok (.aload_n 0, 1) := by decide +kernel
theorem dX8_beginAnew_40 : decode cX8_beginAnew 40 = .ok (.iconst 1, 1) := by decide +kernel
theorem dX8_beginAnew_41 : decode cX8_beginAnew 41 = .ok (.putfield 51, 3) := by decide +kernel
theorem dX8_beginAnew_44 : decode cX8_beginAnew 44 = .ok (.return_, 1) := by decide +kernel
set_option maxRecDepth 100000 in
theorem rX8_beginAnew_0 {zx : zX} {zn : Nat} {p : Program} {l : Launch} {e : Env} {s : State} {m : MethodId} {args : Array Value} {below : List Frame} {meth : Method} {c : Code} {D : va_G} {cA : Nat → ClassId} {ad : Nat → Nat} {Ret : zR} (C : z_Cx zx zn (z_A zn ad) 0 0 p { frames := 0, cells := 0, slots := 0, locals := 0 } s m args c cX8_beginAnew yX8_beginAnew.cls 1 D cA ad) (hr : meth.sig.returnType = none) (hlocks : meth.locks = false) : ∀ L st σ, tX8_beginAnew_0 (z_X zx zn (z_A zn ad) 0 0 p l e { frames := 0, cells := 0, slots := 0, locals := 0 } s m args below meth c (MQ below (z_Qc zn D cA ad Ret) args s 0 0 (z_A zn ad)) 1 D cA ad true) Ret L st σ → z_X zx zn (z_A zn ad) 0 0 p l e { frames := 0, cells := 0, slots := 0, locals := 0 } s m args below meth c (MQ below (z_Qc zn D cA ad Ret) args s 0 0 (z_A zn ad)) 1 D cA ad true 0 L st σ := (s_aload_n C dX8_beginAnew_0 rfl (s_getr C dX8_beginAnew_1 (j := 0) cls_X8 (by decide) rfl (by decide) (by decide) (by decide +kernel) wd_192 (s_iconst C dX8_beginAnew_4 rfl ⟨by decide, by decide⟩ (s_puti C dX8_beginAnew_5 cls_X6 (by decide) rfl wd_123 rfl rfl (s_aload_n C dX8_beginAnew_8 rfl (s_getr C dX8_beginAnew_9 (j := 1) cls_X8 (by decide) rfl (by decide) (by decide) (by decide +kernel) wd_196 (s_iconst C dX8_beginAnew_12 rfl ⟨by decide, by decide⟩ (s_puti C dX8_beginAnew_13 cls_X7 (by decide) rfl wd_155 rfl rfl (s_aload_n C dX8_beginAnew_16 rfl (s_getr C dX8_beginAnew_17 (j := 2) cls_X8 (by decide) rfl (by decide) (by decide) (by decide +kernel) wd_199 (s_iconst C dX8_beginAnew_20 rfl ⟨by decide, by decide⟩ (s_puti C dX8_beginAnew_21 cls_X2 (by decide) rfl wd_180 rfl rfl (s_aload_n C dX8_beginAnew_24 rfl (s_iconst C dX8_beginAnew_25 rfl ⟨by decide, by decide⟩ (s_puti C dX8_beginAnew_26 cls_X8 (by decide) rfl wd_202 rfl rfl (s_aload_n C dX8_beginAnew_29 rfl (s_iconst C dX8_beginAnew_30 rfl ⟨by decide, by decide⟩ (s_puti C dX8_beginAnew_31 cls_X8 (by decide) rfl wd_205 rfl rfl (s_aload_n C dX8_beginAnew_34 rfl (s_iconst C dX8_beginAnew_35 rfl ⟨by decide, by decide⟩ (s_puti C dX8_beginAnew_36 cls_X8 (by decide) rfl wd_207 rfl rfl (s_aload_n C dX8_beginAnew_39 rfl (s_iconst C dX8_beginAnew_40 rfl ⟨by decide, by decide⟩ (s_putz C dX8_beginAnew_41 cls_X8 (by decide) rfl wd_209 rfl rfl (s_vret C dX8_beginAnew_44 hr hlocks)))))))))))))))))))))))))
theorem okX8_beginAnew {zx : zX} {zn : Nat} (l : Launch) : z_OK zx zn l yX8_beginAnew cX8_beginAnew 1 none 0 0 SX8_beginAnew := by
  refine z_ok_of true (by decide +kernel) ?_ ?_
  · intro as σ Ret h
    obtain ⟨k0, rfl⟩ := pX8_beginAnew h
    exact ⟨Nat.le_of_ble_eq_true rfl, by simp⟩
  · intro p e s m args below meth c D cA ad Ret C hr hlocks as σ has hσ h
    obtain ⟨k0, rfl⟩ := pX8_beginAnew h
    exact vX8_beginAnew (rX8_beginAnew_0 C hr hlocks) k0 σ (has _ (List.mem_of_getElem? (i := 0) rfl)).1 hσ h
def SX8_addTone : zS := fun as σ Ret => match as with
  | [.inr (.inr (8, 0, b)), .inl t] => (0 ≤ σ b 4 ∧ σ b 4 < 10) ∧ Ret none (z_up (z_up σ (b + 16) (σ b 4).toNat t) b 4 (σ b 4 + 1))
  | _ => False
def tX8_addTone_0 (X : Nat → zB) (Ret : zR) (L : zL) (st : List zV) (σ : zM) : Prop := (z_aload 0 (z_geti 8 4 (z_push 10 (z_icge (z_vret Ret) (z_aload 0 (z_getr 8 16 100 10 (z_aload 0 (z_geti 8 4 (z_iload 1 (z_iast (z_aload 0 (z_dup (z_geti 8 4 (z_push 1 (z_iadd (z_puti 8 4 (z_vret Ret))))))))))))))))) L st σ
theorem pX8_addTone {as : List zV} {σ : zM} {Ret : zR} (h : SX8_addTone as σ Ret) : ∃ (k0 : Nat) (x1 : Int), as = [.inr (.inr (8, 0, k0)), .inl x1] := by
  unfold SX8_addTone at h
  split at h
  · exact ⟨_, _, rfl⟩
  · exact h.elim
set_option maxRecDepth 10000 in
set_option maxHeartbeats 4000000 in
theorem vX8_addTone {X : Nat → zB} {Ret : zR} (h0 : ∀ L st σ, tX8_addTone_0 X Ret L st σ → X 0 L st σ) (k0 : Nat) (x1 : Int) (σ : zM) (hk0 : z_kd k0 = (8, 0)) (hx1 : -2147483648 ≤ x1 ∧ x1 ≤ 2147483647) (hσ : z_okm σ) (h : SX8_addTone [.inr (.inr (8, 0, k0)), .inl x1] σ Ret) : X 0 [some (.inr (.inr (8, 0, k0))), some (.inl x1)] [] σ := by
  obtain ⟨hc, h⟩ := h
  have e : ∀ v : Int, z_up σ (k0 + 16) (σ k0 4).toNat v k0 4 = σ k0 4 := fun v => z_up_ne (Or.inl (by omega))
  refine h0 _ _ _ ?_
  simp only [z_push, z_lpush, z_iload, z_lload, z_aload, z_istore, z_istoreP, z_lstore, z_astore, z_iinc, z_iincP, z_iadd, z_isub, z_imul, z_iaddW, z_isubW, z_imulW, z_idiv, z_irem, z_iand, z_ior, z_ixor, z_ishl, z_ishr, z_iushr, z_ineg, z_i2l, z_i2b, z_i2s, z_i2c, z_l2i, z_ladd, z_lsub, z_land, z_lor, z_lshl, z_lshr, z_lcmp, z_dup, z_pop, z_dup2, z_goto, z_tsw, z_cases, z_geti, z_getr, z_puti, z_putz, z_ald, z_iast, z_bast, z_zast, z_alen, z_acopy, z_mmax, z_mmin, z_mabs, z_mabsL, z_iret, z_zret, z_nret, z_lret, z_aret, z_vret, z_cat, z_xald, z_xlen, z_ldcs, z_strv, z_strc, z_gcs, z_gfm, z_sln, z_sald, z_ifeq, z_ifne, z_iflt, z_ifge, z_ifgt, z_ifle, z_iceq, z_icne, z_iclt, z_icge, z_icgt, z_icle, z_cs0, z_cs1, z_cs2, z_cs3, z_cs4, z_cs5, z_cs6, z_cs7, z_cv0, z_cv1, z_cv2, z_cv3, z_cv4, z_cv5, z_cv6, z_cv7, z_g0, z_s0, z_g1, z_s1, z_g2, z_s2, z_g3, z_s3, z_g4, z_s4, z_g5, z_s5, z_g6, z_s6, z_g7, z_s7, z_g8, z_s8, z_g9, z_s9, z_g10, z_s10, z_g11, z_s11, z_g12, z_s12, z_g13, z_s13, z_b0, z_b1, z_b0n, z_b1n, z_up_far1, z_up_far2, z_up_far3, z_up_far4, z_up_far5, z_up_far6, Classical.not_not, not_true_eq_false, z_in, z_inL, Int.cast_ofNat_Int, Nat.reduceLeDiff, List.length_cons, List.length_nil, Nat.reduceAdd, Nat.zero_add, Nat.le_refl, true_and, and_true, List.length, Nat.reduceLT, true_or, or_true, false_or, or_false, false_and, and_false, not_true_eq_false, not_false_eq_true, forall_const, false_implies, true_implies, Int.reduceEq, Int.reduceLT, Int.reduceLE, Int.reduceAdd, Int.reduceSub, Int.reduceMul, Int.reduceNeg, Int.reduceToNat, Int.toNat_natCast, ↓reduceIte, reduceIte, Nat.reduceEqDiff, Nat.reduceSub, Nat.reduceMul, ne_eq, Int.zero_add, Int.add_zero, Int.sub_zero, Nat.add_zero, Int.ofNat_eq_natCast, tX8_addTone_0, e]
  repeat' (first | (intro _) | (with_reducible assumption) | (refine And.intro ?_ ?_))
  all_goals first | omega | assumption | (refine z_fin h ?_ rfl; first | rfl | omega | (split <;> omega) | (split <;> split <;> omega)) | skip
theorem dX8_addTone_0 : decode cX8_addTone 0 = .ok (.aload_n 0, 1) := by decide +kernel
theorem dX8_addTone_1 : decode cX8_addTone 1 = .ok (.getfield 42, 3) := by decide +kernel
theorem dX8_addTone_4 : decode cX8_addTone 4 = .ok (.bipush 10, 2) := by decide +kernel
theorem dX8_addTone_6 : decode cX8_addTone 6 = .ok (.if_icmp .ge 23, 3) := by decide +kernel
theorem dX8_addTone_9 : decode cX8_addTone 9 = .ok (.aload_n 0, 1) := by decide +kernel
theorem dX8_addTone_10 : decode cX8_addTone 10 = .ok (.getfield 32, 3) := by decide +kernel
theorem dX8_addTone_13 : decode cX8_addTone 13 = .ok (.aload_n 0, 1) := by decide +kernel
theorem dX8_addTone_14 : decode cX8_addTone 14 = .ok (.getfield 42, 3) := by decide +kernel
theorem dX8_addTone_17 : decode cX8_addTone 17 = .ok (.iload_n 1, 1) := by decide +kernel
theorem dX8_addTone_18 : decode cX8_addTone 18 = .ok (.iastore, 1) := by decide +kernel
theorem dX8_addTone_19 : decode cX8_addTone 19 = .ok (.aload_n 0, 1) := by decide +kernel
theorem dX8_addTone_20 : decode cX8_addTone 20 = .ok (.dup, 1) := by decide +kernel
theorem dX8_addTone_21 : decode cX8_addTone 21 = .ok (.getfield 42, 3) := by decide +kernel
theorem dX8_addTone_24 : decode cX8_addTone 24 = .ok (.iconst 1, 1) := by decide +kernel
theorem dX8_addTone_25 : decode cX8_addTone 25 = .ok (.iadd, 1) := by decide +kernel
theorem dX8_addTone_26 : decode cX8_addTone 26 = .ok (.putfield 42, 3) := by decide +kernel
theorem dX8_addTone_29 : decode cX8_addTone 29 = .ok (.return_, 1) := by decide +kernel
set_option maxRecDepth 100000 in
theorem rX8_addTone_0 {zx : zX} {zn : Nat} {p : Program} {l : Launch} {e : Env} {s : State} {m : MethodId} {args : Array Value} {below : List Frame} {meth : Method} {c : Code} {D : va_G} {cA : Nat → ClassId} {ad : Nat → Nat} {Ret : zR} (C : z_Cx zx zn (z_A zn ad) 0 0 p { frames := 0, cells := 0, slots := 0, locals := 0 } s m args c cX8_addTone yX8_addTone.cls 2 D cA ad) (hr : meth.sig.returnType = none) (hlocks : meth.locks = false) : ∀ L st σ, tX8_addTone_0 (z_X zx zn (z_A zn ad) 0 0 p l e { frames := 0, cells := 0, slots := 0, locals := 0 } s m args below meth c (MQ below (z_Qc zn D cA ad Ret) args s 0 0 (z_A zn ad)) 2 D cA ad true) Ret L st σ → z_X zx zn (z_A zn ad) 0 0 p l e { frames := 0, cells := 0, slots := 0, locals := 0 } s m args below meth c (MQ below (z_Qc zn D cA ad Ret) args s 0 0 (z_A zn ad)) 2 D cA ad true 0 L st σ := (s_aload_n C dX8_addTone_0 rfl (s_geti C dX8_addTone_1 cls_X8 (by decide) rfl wd_202 (s_bipush C dX8_addTone_4 rfl ⟨by decide, by decide⟩ (s_icge C dX8_addTone_6 (by decide) (s_vret C dX8_addTone_29 hr hlocks) (s_aload_n C dX8_addTone_9 rfl (s_getr C dX8_addTone_10 (j := 3) cls_X8 (by decide) rfl (by decide) (by decide) (by decide +kernel) wd_201 (s_aload_n C dX8_addTone_13 rfl (s_geti C dX8_addTone_14 cls_X8 (by decide) rfl wd_202 (s_iload_n C dX8_addTone_17 rfl (s_iast C dX8_addTone_18 (s_aload_n C dX8_addTone_19 rfl (s_dup C dX8_addTone_20 (s_geti C dX8_addTone_21 cls_X8 (by decide) rfl wd_202 (s_iconst C dX8_addTone_24 rfl ⟨by decide, by decide⟩ (s_iadd C dX8_addTone_25 (s_puti C dX8_addTone_26 cls_X8 (by decide) rfl wd_202 rfl rfl (s_vret C dX8_addTone_29 hr hlocks)))))))))))))))))
theorem okX8_addTone {zx : zX} {zn : Nat} (l : Launch) : z_OK zx zn l yX8_addTone cX8_addTone 2 none 0 0 SX8_addTone := by
  refine z_ok_of true (by decide +kernel) ?_ ?_
  · intro as σ Ret h
    obtain ⟨k0, x1, rfl⟩ := pX8_addTone h
    exact ⟨Nat.le_of_ble_eq_true rfl, by simp⟩
  · intro p e s m args below meth c D cA ad Ret C hr hlocks as σ has hσ h
    obtain ⟨k0, x1, rfl⟩ := pX8_addTone h
    exact vX8_addTone (rX8_addTone_0 C hr hlocks) k0 x1 σ (has _ (List.mem_of_getElem? (i := 0) rfl)).1 (has _ (List.mem_of_getElem? (i := 1) rfl)) hσ h
def q_dry (p l : Int) : Int := (1000 * p).tdiv l
theorem q_dry_in {p l : Int} (hp : 0 ≤ p ∧ p ≤ 20) (hl : 1 ≤ l) : 0 ≤ q_dry p l ∧ q_dry p l ≤ 20000 := by
  unfold q_dry
  have h0 : 0 ≤ 1000 * p := by omega
  constructor
  · exact Int.tdiv_nonneg h0 (by omega)
  · have := Int.tdiv_le_self (a := 1000 * p) l h0
    omega
def SX8_dryTone : zS := fun as σ Ret => match as with
  | [.inl p, .inl l] => ((0 ≤ p ∧ p ≤ 20) ∧ 1 ≤ l) ∧ Ret (some (.inl (q_dry p l))) σ
  | _ => False
def tX8_dryTone_0 (X : Nat → zB) (Ret : zR) (L : zL) (st : List zV) (σ : zM) : Prop := (z_iload 1 (z_push 1 (z_icge (z_push 1000 (z_iload 0 (z_imul (z_iload 1 (z_idiv (z_iret Ret)))))) (z_push 0 (z_goto (z_iret Ret)))))) L st σ
theorem pX8_dryTone {as : List zV} {σ : zM} {Ret : zR} (h : SX8_dryTone as σ Ret) : ∃ (x1 : Int) (x2 : Int), as = [.inl x1, .inl x2] := by
  unfold SX8_dryTone at h
  split at h
  · exact ⟨_, _, rfl⟩
  · exact h.elim
set_option maxRecDepth 10000 in
set_option maxHeartbeats 4000000 in
theorem vX8_dryTone {X : Nat → zB} {Ret : zR} (h0 : ∀ L st σ, tX8_dryTone_0 X Ret L st σ → X 0 L st σ) (x1 : Int) (x2 : Int) (σ : zM) (hx1 : -2147483648 ≤ x1 ∧ x1 ≤ 2147483647) (hx2 : -2147483648 ≤ x2 ∧ x2 ≤ 2147483647) (hσ : z_okm σ) (h : SX8_dryTone [.inl x1, .inl x2] σ Ret) : X 0 [some (.inl x1), some (.inl x2)] [] σ := by
  obtain ⟨⟨hp, hl⟩, h⟩ := h
  have hb := q_dry_in hp hl
  simp only [q_dry] at h hb
  refine h0 _ _ _ ?_
  simp only [z_push, z_lpush, z_iload, z_lload, z_aload, z_istore, z_istoreP, z_lstore, z_astore, z_iinc, z_iincP, z_iadd, z_isub, z_imul, z_iaddW, z_isubW, z_imulW, z_idiv, z_irem, z_iand, z_ior, z_ixor, z_ishl, z_ishr, z_iushr, z_ineg, z_i2l, z_i2b, z_i2s, z_i2c, z_l2i, z_ladd, z_lsub, z_land, z_lor, z_lshl, z_lshr, z_lcmp, z_dup, z_pop, z_dup2, z_goto, z_tsw, z_cases, z_geti, z_getr, z_puti, z_putz, z_ald, z_iast, z_bast, z_zast, z_alen, z_acopy, z_mmax, z_mmin, z_mabs, z_mabsL, z_iret, z_zret, z_nret, z_lret, z_aret, z_vret, z_cat, z_xald, z_xlen, z_ldcs, z_strv, z_strc, z_gcs, z_gfm, z_sln, z_sald, z_ifeq, z_ifne, z_iflt, z_ifge, z_ifgt, z_ifle, z_iceq, z_icne, z_iclt, z_icge, z_icgt, z_icle, z_cs0, z_cs1, z_cs2, z_cs3, z_cs4, z_cs5, z_cs6, z_cs7, z_cv0, z_cv1, z_cv2, z_cv3, z_cv4, z_cv5, z_cv6, z_cv7, z_g0, z_s0, z_g1, z_s1, z_g2, z_s2, z_g3, z_s3, z_g4, z_s4, z_g5, z_s5, z_g6, z_s6, z_g7, z_s7, z_g8, z_s8, z_g9, z_s9, z_g10, z_s10, z_g11, z_s11, z_g12, z_s12, z_g13, z_s13, z_b0, z_b1, z_b0n, z_b1n, z_up_far1, z_up_far2, z_up_far3, z_up_far4, z_up_far5, z_up_far6, Classical.not_not, not_true_eq_false, z_in, z_inL, Int.cast_ofNat_Int, Nat.reduceLeDiff, List.length_cons, List.length_nil, Nat.reduceAdd, Nat.zero_add, Nat.le_refl, true_and, and_true, List.length, Nat.reduceLT, true_or, or_true, false_or, or_false, false_and, and_false, not_true_eq_false, not_false_eq_true, forall_const, false_implies, true_implies, Int.reduceEq, Int.reduceLT, Int.reduceLE, Int.reduceAdd, Int.reduceSub, Int.reduceMul, Int.reduceNeg, Int.reduceToNat, Int.toNat_natCast, ↓reduceIte, reduceIte, Nat.reduceEqDiff, Nat.reduceSub, Nat.reduceMul, ne_eq, Int.zero_add, Int.add_zero, Int.sub_zero, Nat.add_zero, Int.ofNat_eq_natCast, tX8_dryTone_0]
  repeat' (first | (intro _) | (with_reducible assumption) | (refine And.intro ?_ ?_))
  all_goals first | omega | assumption | (refine z_fin h ?_ rfl; first | rfl | omega | (split <;> omega) | (split <;> split <;> omega)) | skip
theorem dX8_dryTone_0 : decode cX8_dryTone 0 = .ok (.iload_n 1, 1) := by decide +kernel
theorem dX8_dryTone_1 : decode cX8_dryTone 1 = .ok (.iconst 1, 1) := by decide +kernel
theorem dX8_dryTone_2 : decode cX8_dryTone 2 = .ok (.if_icmp .ge 7, 3) := by decide +kernel
theorem dX8_dryTone_5 : decode cX8_dryTone 5 = .ok (.iconst 0, 1) := by decide +kernel
theorem dX8_dryTone_6 : decode cX8_dryTone 6 = .ok (.goto 10, 3) := by decide +kernel
theorem dX8_dryTone_9 : decode cX8_dryTone 9 = .ok (.sipush 1000, 3) := by decide +kernel
theorem dX8_dryTone_12 : decode cX8_dryTone 12 = .ok (.iload_n 0, 1) := by decide +kernel
theorem dX8_dryTone_13 : decode cX8_dryTone 13 = .ok (.imul, 1) := by decide +kernel
theorem dX8_dryTone_14 : decode cX8_dryTone 14 = .ok (.iload_n 1, 1) := by decide +kernel
theorem dX8_dryTone_15 : decode cX8_dryTone 15 = .ok (.idiv, 1) := by decide +kernel
theorem dX8_dryTone_16 : decode cX8_dryTone 16 = .ok (.ireturn, 1) := by decide +kernel
set_option maxRecDepth 100000 in
theorem rX8_dryTone_0 {zx : zX} {zn : Nat} {p : Program} {l : Launch} {e : Env} {s : State} {m : MethodId} {args : Array Value} {below : List Frame} {meth : Method} {c : Code} {D : va_G} {cA : Nat → ClassId} {ad : Nat → Nat} {Ret : zR} (C : z_Cx zx zn (z_A zn ad) 0 0 p { frames := 0, cells := 0, slots := 0, locals := 0 } s m args c cX8_dryTone yX8_dryTone.cls 2 D cA ad) (hr : meth.sig.returnType = (some .int)) (hlocks : meth.locks = false) : ∀ L st σ, tX8_dryTone_0 (z_X zx zn (z_A zn ad) 0 0 p l e { frames := 0, cells := 0, slots := 0, locals := 0 } s m args below meth c (MQ below (z_Qc zn D cA ad Ret) args s 0 0 (z_A zn ad)) 2 D cA ad true) Ret L st σ → z_X zx zn (z_A zn ad) 0 0 p l e { frames := 0, cells := 0, slots := 0, locals := 0 } s m args below meth c (MQ below (z_Qc zn D cA ad Ret) args s 0 0 (z_A zn ad)) 2 D cA ad true 0 L st σ := (s_iload_n C dX8_dryTone_0 rfl (s_iconst C dX8_dryTone_1 rfl ⟨by decide, by decide⟩ (s_icge C dX8_dryTone_2 (by decide) (s_sipush C dX8_dryTone_9 rfl ⟨by decide, by decide⟩ (s_iload_n C dX8_dryTone_12 rfl (s_imul C dX8_dryTone_13 (s_iload_n C dX8_dryTone_14 rfl (s_idiv C dX8_dryTone_15 (s_iret C dX8_dryTone_16 hr hlocks)))))) (s_iconst C dX8_dryTone_5 rfl ⟨by decide, by decide⟩ (s_goto C dX8_dryTone_6 (by decide) (s_iret C dX8_dryTone_16 hr hlocks))))))
theorem okX8_dryTone {zx : zX} {zn : Nat} (l : Launch) : z_OK zx zn l yX8_dryTone cX8_dryTone 2 (some .int) 0 0 SX8_dryTone := by
  refine z_ok_of true (by decide +kernel) ?_ ?_
  · intro as σ Ret h
    obtain ⟨x1, x2, rfl⟩ := pX8_dryTone h
    exact ⟨Nat.le_of_ble_eq_true rfl, by simp⟩
  · intro p e s m args below meth c D cA ad Ret C hr hlocks as σ has hσ h
    obtain ⟨x1, x2, rfl⟩ := pX8_dryTone h
    exact vX8_dryTone (rX8_dryTone_0 C hr hlocks) x1 x2 σ (has _ (List.mem_of_getElem? (i := 0) rfl)) (has _ (List.mem_of_getElem? (i := 1) rfl)) hσ h
def q_tone (p l w : Int) : Int := if w = 1 then q_dry p l - 5 * (q_dry p l).tdiv 100 else q_dry p l
def SX8_toneOf : zS := fun as σ Ret => match as with
  | [.inr (.inr (8, 0, b)), .inl t] => ((0 ≤ t ∧ t < σ (b + 1) 6) ∧ t < 12 ∧ (0 ≤ σ (b + 3) t.toNat ∧ σ (b + 3) t.toNat ≤ 20) ∧ 1 ≤ σ (b + 2) t.toNat) ∧ Ret (some (.inl (q_tone (σ (b + 3) t.toNat) (σ (b + 2) t.toNat) (σ b 6)))) σ
  | _ => False
def tX8_toneOf_0 (X : Nat → zB) (Ret : zR) (L : zL) (st : List zV) (σ : zM) : Prop := (z_aload 0 (z_getr 8 1 6 0 (z_iload 1 (z_cv1 6 SX6_has (z_ifne (z_aload 0 (z_getr 8 1 6 0 (z_getr 6 2 100 12 (z_iload 1 (z_ald 0 (z_aload 0 (z_getr 8 1 6 0 (z_getr 6 1 100 12 (z_iload 1 (z_ald 0 (z_cs2 SX8_dryTone (z_istore 2 (z_aload 0 (z_geti 8 6 (z_push 1 (z_icne (z_iload 2 (z_iret Ret)) (z_iload 2 (z_push 5 (z_iload 2 (z_push 100 (z_idiv (z_imul (z_isub (z_goto (z_iret Ret))))))))))))))))))))))))) (z_push 0 (z_iret Ret))))))) L st σ
theorem pX8_toneOf {as : List zV} {σ : zM} {Ret : zR} (h : SX8_toneOf as σ Ret) : ∃ (k0 : Nat) (x1 : Int), as = [.inr (.inr (8, 0, k0)), .inl x1] := by
  unfold SX8_toneOf at h
  split at h
  · exact ⟨_, _, rfl⟩
  · exact h.elim
set_option maxRecDepth 10000 in
set_option maxHeartbeats 4000000 in
theorem vX8_toneOf {X : Nat → zB} {Ret : zR} (h0 : ∀ L st σ, tX8_toneOf_0 X Ret L st σ → X 0 L st σ) (k0 : Nat) (x1 : Int) (σ : zM) (hk0 : z_kd k0 = (8, 0)) (hx1 : -2147483648 ≤ x1 ∧ x1 ≤ 2147483647) (hσ : z_okm σ) (h : SX8_toneOf [.inr (.inr (8, 0, k0)), .inl x1] σ Ret) : X 0 [some (.inr (.inr (8, 0, k0))), some (.inl x1), none] [] σ := by
  obtain ⟨⟨h1, h2, h3, h4⟩, h⟩ := h
  have hb := q_dry_in h3 h4
  simp only [q_tone] at h
  generalize hg : q_dry (σ (k0 + 3) x1.toNat) (σ (k0 + 2) x1.toNat) = g at h hb
  have hq : 0 ≤ g.tdiv 100 ∧ g.tdiv 100 ≤ 200 := by
    rw [Int.tdiv_eq_ediv_of_nonneg hb.1]
    omega
  refine h0 _ _ _ ?_
  simp only [z_push, z_lpush, z_iload, z_lload, z_aload, z_istore, z_istoreP, z_lstore, z_astore, z_iinc, z_iincP, z_iadd, z_isub, z_imul, z_iaddW, z_isubW, z_imulW, z_idiv, z_irem, z_iand, z_ior, z_ixor, z_ishl, z_ishr, z_iushr, z_ineg, z_i2l, z_i2b, z_i2s, z_i2c, z_l2i, z_ladd, z_lsub, z_land, z_lor, z_lshl, z_lshr, z_lcmp, z_dup, z_pop, z_dup2, z_goto, z_tsw, z_cases, z_geti, z_getr, z_puti, z_putz, z_ald, z_iast, z_bast, z_zast, z_alen, z_acopy, z_mmax, z_mmin, z_mabs, z_mabsL, z_iret, z_zret, z_nret, z_lret, z_aret, z_vret, z_cat, z_xald, z_xlen, z_ldcs, z_strv, z_strc, z_gcs, z_gfm, z_sln, z_sald, z_ifeq, z_ifne, z_iflt, z_ifge, z_ifgt, z_ifle, z_iceq, z_icne, z_iclt, z_icge, z_icgt, z_icle, z_cs0, z_cs1, z_cs2, z_cs3, z_cs4, z_cs5, z_cs6, z_cs7, z_cv0, z_cv1, z_cv2, z_cv3, z_cv4, z_cv5, z_cv6, z_cv7, z_g0, z_s0, z_g1, z_s1, z_g2, z_s2, z_g3, z_s3, z_g4, z_s4, z_g5, z_s5, z_g6, z_s6, z_g7, z_s7, z_g8, z_s8, z_g9, z_s9, z_g10, z_s10, z_g11, z_s11, z_g12, z_s12, z_g13, z_s13, z_b0, z_b1, z_b0n, z_b1n, z_up_far1, z_up_far2, z_up_far3, z_up_far4, z_up_far5, z_up_far6, Classical.not_not, not_true_eq_false, z_in, z_inL, Int.cast_ofNat_Int, Nat.reduceLeDiff, List.length_cons, List.length_nil, Nat.reduceAdd, Nat.zero_add, Nat.le_refl, true_and, and_true, List.length, Nat.reduceLT, true_or, or_true, false_or, or_false, false_and, and_false, not_true_eq_false, not_false_eq_true, forall_const, false_implies, true_implies, Int.reduceEq, Int.reduceLT, Int.reduceLE, Int.reduceAdd, Int.reduceSub, Int.reduceMul, Int.reduceNeg, Int.reduceToNat, Int.toNat_natCast, ↓reduceIte, reduceIte, Nat.reduceEqDiff, Nat.reduceSub, Nat.reduceMul, ne_eq, Int.zero_add, Int.add_zero, Int.sub_zero, Nat.add_zero, Int.ofNat_eq_natCast, tX8_toneOf_0, SX6_has, SX8_dryTone, h1, h2, Nat.add_assoc, hg]
  repeat' (first | (intro _) | (with_reducible assumption) | (refine And.intro ?_ ?_))
  all_goals first | omega | assumption | (refine z_fin h ?_ rfl; first | rfl | omega | (split <;> omega) | (split <;> split <;> omega)) | skip
theorem dX8_toneOf_0 : decode cX8_toneOf 0 = .ok (.aload_n 0, 1) := by decide +kernel
theorem dX8_toneOf_1 : decode cX8_toneOf 1 = .ok (.getfield 12, 3) := by decide +kernel
theorem dX8_toneOf_4 : decode cX8_toneOf 4 = .ok (.iload_n 1, 1) := by decide +kernel
theorem dX8_toneOf_5 : decode cX8_toneOf 5 = .ok (.invokevirtual 71, 3) := by decide +kernel
theorem dX8_toneOf_8 : decode cX8_toneOf 8 = .ok (.ifCond .ne 5, 3) := by decide +kernel
theorem dX8_toneOf_11 : decode cX8_toneOf 11 = .ok (.iconst 0, 1) := by decide +kernel
theorem dX8_toneOf_12 : decode cX8_toneOf 12 = .ok (.ireturn, 1) := by decide +kernel
theorem dX8_toneOf_13 : decode cX8_toneOf 13 = .ok (.aload_n 0, 1) := by decide +kernel
theorem dX8_toneOf_14 : decode cX8_toneOf 14 = .ok (.getfield 12, 3) := by decide +kernel
theorem dX8_toneOf_17 : decode cX8_toneOf 17 = .ok (.getfield 75, 3) := by decide +kernel
theorem dX8_toneOf_20 : decode cX8_toneOf 20 = .ok (.iload_n 1, 1) := by decide +kernel
theorem dX8_toneOf_21 : decode cX8_toneOf 21 = .ok (.iaload, 1) := by decide +kernel
theorem dX8_toneOf_22 : decode cX8_toneOf 22 = .ok (.aload_n 0, 1) := by decide +kernel
theorem dX8_toneOf_23 : decode cX8_toneOf 23 = .ok (.getfield 12, 3) := by decide +kernel
theorem dX8_toneOf_26 : decode cX8_toneOf 26 = .ok (.getfield 78, 3) := by decide +kernel
theorem dX8_toneOf_29 : decode cX8_toneOf 29 = .ok (.iload_n 1, 1) := by decide +kernel
theorem dX8_toneOf_30 : decode cX8_toneOf 30 = .ok (.iaload, 1) := by decide +kernel
theorem dX8_toneOf_31 : decode cX8_toneOf 31 = .ok (.invokestatic 81, 3) := by decide +kernel
theorem dX8_toneOf_34 : decode cX8_toneOf 34 = .ok (.istore_n 2, 1) := by decide +kernel
theorem dX8_toneOf_35 : decode cX8_toneOf 35 = .ok (.aload_n 0, 1) := by decide +kernel
theorem dX8_toneOf_36 : decode cX8_toneOf 36 = .ok (.getfield 48, 3) := by decide +kernel
theorem dX8_toneOf_39 : decode cX8_toneOf 39 = .ok (.iconst 1, 1) := by decide +kernel
theorem dX8_toneOf_40 : decode cX8_toneOf 40 = .ok (.if_icmp .ne 14, 3) := by decide +kernel
theorem dX8_toneOf_43 : decode cX8_toneOf 43 = .ok (.iload_n 2, 1) := by decide +kernel
theorem dX8_toneOf_44 : decode cX8_toneOf 44 = .ok (.iconst 5, 1) := by decide +kernel
theorem dX8_toneOf_45 : decode cX8_toneOf 45 = .ok (.iload_n 2, 1) := by decide +kernel
theorem dX8_toneOf_46 : decode cX8_toneOf 46 = .ok (.bipush 100, 2) := by decide +kernel
theorem dX8_toneOf_48 : decode cX8_toneOf 48 = .ok (.idiv, 1) := by decide +kernel
theorem dX8_toneOf_49 : decode cX8_toneOf 49 = .ok (.imul, 1) := by decide +kernel
theorem dX8_toneOf_50 : decode cX8_toneOf 50 = .ok (.isub, 1) := by decide +kernel
theorem dX8_toneOf_51 : decode cX8_toneOf 51 = .ok (.goto 4, 3) := by decide +kernel
theorem dX8_toneOf_54 : decode cX8_toneOf 54 = .ok (.iload_n 2, 1) := by decide +kernel
theorem dX8_toneOf_55 : decode cX8_toneOf 55 = .ok (.ireturn, 1) := by decide +kernel
set_option maxRecDepth 100000 in
theorem rX8_toneOf_0 {zx : zX} {zn : Nat} {p : Program} {l : Launch} {e : Env} {s : State} {m : MethodId} {args : Array Value} {below : List Frame} {meth : Method} {c : Code} {D : va_G} {cA : Nat → ClassId} {ad : Nat → Nat} {Ret : zR} (C : z_Cx zx zn (z_A zn ad) 0 0 p { frames := 1, cells := 0, slots := 0, locals := 21 } s m args c cX8_toneOf yX8_toneOf.cls 3 D cA ad) (hr : meth.sig.returnType = (some .int)) (hlocks : meth.locks = false) : ∀ L st σ, tX8_toneOf_0 (z_X zx zn (z_A zn ad) 0 0 p l e { frames := 1, cells := 0, slots := 0, locals := 21 } s m args below meth c (MQ below (z_Qc zn D cA ad Ret) args s 0 0 (z_A zn ad)) 3 D cA ad true) Ret L st σ → z_X zx zn (z_A zn ad) 0 0 p l e { frames := 1, cells := 0, slots := 0, locals := 21 } s m args below meth c (MQ below (z_Qc zn D cA ad Ret) args s 0 0 (z_A zn ad)) 3 D cA ad true 0 L st σ := (s_aload_n C dX8_toneOf_0 rfl (s_getr C dX8_toneOf_1 (j := 0) cls_X8 (by decide) rfl (by decide) (by decide) (by decide +kernel) wd_192 (s_iload_n C dX8_toneOf_4 rfl (s_cv1 C dX8_toneOf_5 (okX6_has l) cls_X6 wd_457 wd_458 wd_459 wd_21 wd_460 ⟨by decide, by decide, by decide +kernel⟩ ⟨by decide, by decide⟩ (s_ifne C dX8_toneOf_8 (by decide) (s_aload_n C dX8_toneOf_13 rfl (s_getr C dX8_toneOf_14 (j := 0) cls_X8 (by decide) rfl (by decide) (by decide) (by decide +kernel) wd_192 (s_getr C dX8_toneOf_17 (j := 1) cls_X6 (by decide) rfl (by decide) (by decide) (by decide +kernel) wd_110 (s_iload_n C dX8_toneOf_20 rfl (s_iald C dX8_toneOf_21 (s_aload_n C dX8_toneOf_22 rfl (s_getr C dX8_toneOf_23 (j := 0) cls_X8 (by decide) rfl (by decide) (by decide) (by decide +kernel) wd_192 (s_getr C dX8_toneOf_26 (j := 0) cls_X6 (by decide) rfl (by decide) (by decide) (by decide +kernel) wd_107 (s_iload_n C dX8_toneOf_29 rfl (s_iald C dX8_toneOf_30 (s_cs2 C dX8_toneOf_31 (okX8_dryTone l) wd_507 wd_508 wd_20 wd_509 ⟨by decide, by decide, by decide +kernel⟩ ⟨by decide, by decide⟩ (s_istore_n C dX8_toneOf_34 (by decide) rfl rfl (s_aload_n C dX8_toneOf_35 rfl (s_geti C dX8_toneOf_36 cls_X8 (by decide) rfl wd_207 (s_iconst C dX8_toneOf_39 rfl ⟨by decide, by decide⟩ (s_icne C dX8_toneOf_40 (by decide) (s_iload_n C dX8_toneOf_54 rfl (s_iret C dX8_toneOf_55 hr hlocks)) (s_iload_n C dX8_toneOf_43 rfl (s_iconst C dX8_toneOf_44 rfl ⟨by decide, by decide⟩ (s_iload_n C dX8_toneOf_45 rfl (s_bipush C dX8_toneOf_46 rfl ⟨by decide, by decide⟩ (s_idiv C dX8_toneOf_48 (s_imul C dX8_toneOf_49 (s_isub C dX8_toneOf_50 (s_goto C dX8_toneOf_51 (by decide) (s_iret C dX8_toneOf_55 hr hlocks))))))))))))))))))))))))) (s_iconst C dX8_toneOf_11 rfl ⟨by decide, by decide⟩ (s_iret C dX8_toneOf_12 hr hlocks)))))))
theorem okX8_toneOf {zx : zX} {zn : Nat} (l : Launch) : z_OK zx zn l yX8_toneOf cX8_toneOf 3 (some .int) 1 21 SX8_toneOf := by
  refine z_ok_of true (by decide +kernel) ?_ ?_
  · intro as σ Ret h
    obtain ⟨k0, x1, rfl⟩ := pX8_toneOf h
    exact ⟨Nat.le_of_ble_eq_true rfl, by simp⟩
  · intro p e s m args below meth c D cA ad Ret C hr hlocks as σ has hσ h
    obtain ⟨k0, x1, rfl⟩ := pX8_toneOf h
    exact vX8_toneOf (rX8_toneOf_0 C hr hlocks) k0 x1 σ (has _ (List.mem_of_getElem? (i := 0) rfl)).1 (has _ (List.mem_of_getElem? (i := 1) rfl)) hσ h
def q_near (a b : Int) : Prop := (-1 ≤ a - b ∧ a - b ≤ 1) ∨ a - b = 7 ∨ a - b = -7
def q_snd (fell ice side pull ws wstr : Int) : Prop := (¬ fell = 1 ∧ ¬ ice = 1) ∧ ((-1 ≤ side - ws ∧ side - ws ≤ 1) ∨ side - ws = 7 ∨ side - ws = -7) ∧ pull.tdiv 2 ≤ wstr
def SX8_sounds : zS := fun as σ Ret => match as with
  | [.inr (.inr (8, 0, b)), .inl t, .inl w] => ((0 ≤ t ∧ t < σ (b + 1) 6) ∧ t < 12 ∧ (0 ≤ w ∧ w < σ (b + 8) 3) ∧ w < 6 ∧ (0 ≤ σ (b + 4) t.toNat ∧ σ (b + 4) t.toNat ≤ 7) ∧ (0 ≤ σ (b + 9) w.toNat ∧ σ (b + 9) w.toNat ≤ 7) ∧ (0 ≤ σ (b + 3) t.toNat ∧ σ (b + 3) t.toNat ≤ 20)) ∧
      (q_snd (σ (b + 7) t.toNat) (σ (b + 6) t.toNat) (σ (b + 4) t.toNat) (σ (b + 3) t.toNat) (σ (b + 9) w.toNat) (σ (b + 10) w.toNat) → Ret (some (.inl 1)) σ) ∧ (¬ q_snd (σ (b + 7) t.toNat) (σ (b + 6) t.toNat) (σ (b + 4) t.toNat) (σ (b + 3) t.toNat) (σ (b + 9) w.toNat) (σ (b + 10) w.toNat) → Ret (some (.inl 0)) σ)
  | _ => False
def tX8_sounds_0 (X : Nat → zB) (Ret : zR) (L : zL) (st : List zV) (σ : zM) : Prop := (z_aload 0 (z_getr 8 1 6 0 (z_iload 1 (z_cv1 6 SX6_has (z_ifeq (z_push 0 (z_zret Ret)) (z_aload 0 (z_getr 8 8 7 0 (z_iload 2 (z_cv1 7 SX7_has (z_ifne (z_aload 0 (z_getr 8 1 6 0 (z_getr 6 6 100 12 (z_iload 1 (z_ald 0 (z_push 1 (z_iceq (z_push 0 (z_zret Ret)) (z_aload 0 (z_getr 8 1 6 0 (z_getr 6 5 100 12 (z_iload 1 (z_ald 0 (z_push 1 (z_icne (z_aload 0 (z_getr 8 1 6 0 (z_getr 6 3 100 12 (z_iload 1 (z_ald 0 (z_aload 0 (z_getr 8 8 7 0 (z_getr 7 1 100 6 (z_iload 2 (z_ald 0 (z_isub (z_mabs (z_istore 3 (z_iload 3 (z_push 1 (z_icle (z_push 1 (z_goto (X 91))) (z_iload 3 (z_push 7 (z_icne (z_push 0 (X 91)) (z_push 1 (z_goto (X 91)))))))))))))))))))))) (z_push 0 (z_zret Ret)))))))))))))))) (z_push 0 (z_zret Ret)))))))))))) L st σ
def tX8_sounds_91 (X : Nat → zB) (Ret : zR) (L : zL) (st : List zV) (σ : zM) : Prop := (z_istore 4 (z_iload 4 (z_ifeq (z_push 0 (z_zret Ret)) (z_aload 0 (z_getr 8 8 7 0 (z_getr 7 2 100 6 (z_iload 2 (z_ald 0 (z_aload 0 (z_getr 8 1 6 0 (z_getr 6 2 100 12 (z_iload 1 (z_ald 0 (z_push 2 (z_idiv (z_iclt (z_push 0 (z_zret Ret)) (z_push 1 (z_goto (z_zret Ret))))))))))))))))))) L st σ
theorem pX8_sounds {as : List zV} {σ : zM} {Ret : zR} (h : SX8_sounds as σ Ret) : ∃ (k0 : Nat) (x1 : Int) (x2 : Int), as = [.inr (.inr (8, 0, k0)), .inl x1, .inl x2] := by
  unfold SX8_sounds at h
  split at h
  · exact ⟨_, _, _, rfl⟩
  · exact h.elim
set_option maxRecDepth 10000 in
set_option maxHeartbeats 4000000 in
theorem vX8_sounds {X : Nat → zB} {Ret : zR} (h0 : ∀ L st σ, tX8_sounds_0 X Ret L st σ → X 0 L st σ) (h91 : ∀ L st σ, tX8_sounds_91 X Ret L st σ → X 91 L st σ) (k0 : Nat) (x1 : Int) (x2 : Int) (σ : zM) (hk0 : z_kd k0 = (8, 0)) (hx1 : -2147483648 ≤ x1 ∧ x1 ≤ 2147483647) (hx2 : -2147483648 ≤ x2 ∧ x2 ≤ 2147483647) (hσ : z_okm σ) (h : SX8_sounds [.inr (.inr (8, 0, k0)), .inl x1, .inl x2] σ Ret) : X 0 [some (.inr (.inr (8, 0, k0))), some (.inl x1), some (.inl x2), none, none] [] σ := by
  obtain ⟨⟨h1, h2, h3, h4, h5, h6, h7⟩, hy, hn⟩ := h
  simp only [q_snd] at hy hn
  have hq : 0 ≤ (σ (k0 + 3) x1.toNat).tdiv 2 ∧ (σ (k0 + 3) x1.toNat).tdiv 2 ≤ 10 := by
    rw [Int.tdiv_eq_ediv_of_nonneg h7.1]
    omega
  have nr : ∀ v t u, (v = 1 ∧ (((-1 ≤ σ (k0 + 4) x1.toNat - σ (k0 + 9) x2.toNat ∧ σ (k0 + 4) x1.toNat - σ (k0 + 9) x2.toNat ≤ 1) ∨ σ (k0 + 4) x1.toNat - σ (k0 + 9) x2.toNat = 7 ∨ σ (k0 + 4) x1.toNat - σ (k0 + 9) x2.toNat = -7)) ∨ v = 0 ∧ ¬ (((-1 ≤ σ (k0 + 4) x1.toNat - σ (k0 + 9) x2.toNat ∧ σ (k0 + 4) x1.toNat - σ (k0 + 9) x2.toNat ≤ 1) ∨ σ (k0 + 4) x1.toNat - σ (k0 + 9) x2.toNat = 7 ∨ σ (k0 + 4) x1.toNat - σ (k0 + 9) x2.toNat = -7))) → (¬ σ (k0 + 7) x1.toNat = 1 ∧ ¬ σ (k0 + 6) x1.toNat = 1) →
      X 91 [some (.inr (.inr (8, 0, k0))), some (.inl x1), some (.inl x2), t, u] [.inl v] σ := by
    intro v t u hv hf
    refine h91 _ _ _ ?_
    rcases hv with ⟨rfl, hv⟩ | ⟨rfl, hv⟩
    · simp only [z_push, z_lpush, z_iload, z_lload, z_aload, z_istore, z_istoreP, z_lstore, z_astore, z_iinc, z_iincP, z_iadd, z_isub, z_imul, z_iaddW, z_isubW, z_imulW, z_idiv, z_irem, z_iand, z_ior, z_ixor, z_ishl, z_ishr, z_iushr, z_ineg, z_i2l, z_i2b, z_i2s, z_i2c, z_l2i, z_ladd, z_lsub, z_land, z_lor, z_lshl, z_lshr, z_lcmp, z_dup, z_pop, z_dup2, z_goto, z_tsw, z_cases, z_geti, z_getr, z_puti, z_putz, z_ald, z_iast, z_bast, z_zast, z_alen, z_acopy, z_mmax, z_mmin, z_mabs, z_mabsL, z_iret, z_zret, z_nret, z_lret, z_aret, z_vret, z_cat, z_xald, z_xlen, z_ldcs, z_strv, z_strc, z_gcs, z_gfm, z_sln, z_sald, z_ifeq, z_ifne, z_iflt, z_ifge, z_ifgt, z_ifle, z_iceq, z_icne, z_iclt, z_icge, z_icgt, z_icle, z_cs0, z_cs1, z_cs2, z_cs3, z_cs4, z_cs5, z_cs6, z_cs7, z_cv0, z_cv1, z_cv2, z_cv3, z_cv4, z_cv5, z_cv6, z_cv7, z_g0, z_s0, z_g1, z_s1, z_g2, z_s2, z_g3, z_s3, z_g4, z_s4, z_g5, z_s5, z_g6, z_s6, z_g7, z_s7, z_g8, z_s8, z_g9, z_s9, z_g10, z_s10, z_g11, z_s11, z_g12, z_s12, z_g13, z_s13, z_b0, z_b1, z_b0n, z_b1n, z_up_far1, z_up_far2, z_up_far3, z_up_far4, z_up_far5, z_up_far6, Classical.not_not, not_true_eq_false, z_in, z_inL, Int.cast_ofNat_Int, Nat.reduceLeDiff, List.length_cons, List.length_nil, Nat.reduceAdd, Nat.zero_add, Nat.le_refl, true_and, and_true, List.length, Nat.reduceLT, true_or, or_true, false_or, or_false, false_and, and_false, not_true_eq_false, not_false_eq_true, forall_const, false_implies, true_implies, Int.reduceEq, Int.reduceLT, Int.reduceLE, Int.reduceAdd, Int.reduceSub, Int.reduceMul, Int.reduceNeg, Int.reduceToNat, Int.toNat_natCast, ↓reduceIte, reduceIte, Nat.reduceEqDiff, Nat.reduceSub, Nat.reduceMul, ne_eq, Int.zero_add, Int.add_zero, Int.sub_zero, Nat.add_zero, Int.ofNat_eq_natCast, tX8_sounds_91, Nat.add_assoc]
      repeat' (first | (intro _) | (with_reducible assumption) | (refine And.intro ?_ ?_))
      all_goals first | omega | assumption | (refine z_fin hy ?_ rfl; first | rfl | omega | (split <;> omega) | (split <;> split <;> omega)) | skip
      · exact hn (fun q => by have := q.2.2; omega)
      · exact hy ⟨hf, hv, by omega⟩
    · simp only [z_push, z_lpush, z_iload, z_lload, z_aload, z_istore, z_istoreP, z_lstore, z_astore, z_iinc, z_iincP, z_iadd, z_isub, z_imul, z_iaddW, z_isubW, z_imulW, z_idiv, z_irem, z_iand, z_ior, z_ixor, z_ishl, z_ishr, z_iushr, z_ineg, z_i2l, z_i2b, z_i2s, z_i2c, z_l2i, z_ladd, z_lsub, z_land, z_lor, z_lshl, z_lshr, z_lcmp, z_dup, z_pop, z_dup2, z_goto, z_tsw, z_cases, z_geti, z_getr, z_puti, z_putz, z_ald, z_iast, z_bast, z_zast, z_alen, z_acopy, z_mmax, z_mmin, z_mabs, z_mabsL, z_iret, z_zret, z_nret, z_lret, z_aret, z_vret, z_cat, z_xald, z_xlen, z_ldcs, z_strv, z_strc, z_gcs, z_gfm, z_sln, z_sald, z_ifeq, z_ifne, z_iflt, z_ifge, z_ifgt, z_ifle, z_iceq, z_icne, z_iclt, z_icge, z_icgt, z_icle, z_cs0, z_cs1, z_cs2, z_cs3, z_cs4, z_cs5, z_cs6, z_cs7, z_cv0, z_cv1, z_cv2, z_cv3, z_cv4, z_cv5, z_cv6, z_cv7, z_g0, z_s0, z_g1, z_s1, z_g2, z_s2, z_g3, z_s3, z_g4, z_s4, z_g5, z_s5, z_g6, z_s6, z_g7, z_s7, z_g8, z_s8, z_g9, z_s9, z_g10, z_s10, z_g11, z_s11, z_g12, z_s12, z_g13, z_s13, z_b0, z_b1, z_b0n, z_b1n, z_up_far1, z_up_far2, z_up_far3, z_up_far4, z_up_far5, z_up_far6, Classical.not_not, not_true_eq_false, z_in, z_inL, Int.cast_ofNat_Int, Nat.reduceLeDiff, List.length_cons, List.length_nil, Nat.reduceAdd, Nat.zero_add, Nat.le_refl, true_and, and_true, List.length, Nat.reduceLT, true_or, or_true, false_or, or_false, false_and, and_false, not_true_eq_false, not_false_eq_true, forall_const, false_implies, true_implies, Int.reduceEq, Int.reduceLT, Int.reduceLE, Int.reduceAdd, Int.reduceSub, Int.reduceMul, Int.reduceNeg, Int.reduceToNat, Int.toNat_natCast, ↓reduceIte, reduceIte, Nat.reduceEqDiff, Nat.reduceSub, Nat.reduceMul, ne_eq, Int.zero_add, Int.add_zero, Int.sub_zero, Nat.add_zero, Int.ofNat_eq_natCast, tX8_sounds_91, Nat.add_assoc]
      exact hn (fun q => hv q.2.1)
  refine h0 _ _ _ ?_
  simp only [z_push, z_lpush, z_iload, z_lload, z_aload, z_istore, z_istoreP, z_lstore, z_astore, z_iinc, z_iincP, z_iadd, z_isub, z_imul, z_iaddW, z_isubW, z_imulW, z_idiv, z_irem, z_iand, z_ior, z_ixor, z_ishl, z_ishr, z_iushr, z_ineg, z_i2l, z_i2b, z_i2s, z_i2c, z_l2i, z_ladd, z_lsub, z_land, z_lor, z_lshl, z_lshr, z_lcmp, z_dup, z_pop, z_dup2, z_goto, z_tsw, z_cases, z_geti, z_getr, z_puti, z_putz, z_ald, z_iast, z_bast, z_zast, z_alen, z_acopy, z_mmax, z_mmin, z_mabs, z_mabsL, z_iret, z_zret, z_nret, z_lret, z_aret, z_vret, z_cat, z_xald, z_xlen, z_ldcs, z_strv, z_strc, z_gcs, z_gfm, z_sln, z_sald, z_ifeq, z_ifne, z_iflt, z_ifge, z_ifgt, z_ifle, z_iceq, z_icne, z_iclt, z_icge, z_icgt, z_icle, z_cs0, z_cs1, z_cs2, z_cs3, z_cs4, z_cs5, z_cs6, z_cs7, z_cv0, z_cv1, z_cv2, z_cv3, z_cv4, z_cv5, z_cv6, z_cv7, z_g0, z_s0, z_g1, z_s1, z_g2, z_s2, z_g3, z_s3, z_g4, z_s4, z_g5, z_s5, z_g6, z_s6, z_g7, z_s7, z_g8, z_s8, z_g9, z_s9, z_g10, z_s10, z_g11, z_s11, z_g12, z_s12, z_g13, z_s13, z_b0, z_b1, z_b0n, z_b1n, z_up_far1, z_up_far2, z_up_far3, z_up_far4, z_up_far5, z_up_far6, Classical.not_not, not_true_eq_false, z_in, z_inL, Int.cast_ofNat_Int, Nat.reduceLeDiff, List.length_cons, List.length_nil, Nat.reduceAdd, Nat.zero_add, Nat.le_refl, true_and, and_true, List.length, Nat.reduceLT, true_or, or_true, false_or, or_false, false_and, and_false, not_true_eq_false, not_false_eq_true, forall_const, false_implies, true_implies, Int.reduceEq, Int.reduceLT, Int.reduceLE, Int.reduceAdd, Int.reduceSub, Int.reduceMul, Int.reduceNeg, Int.reduceToNat, Int.toNat_natCast, ↓reduceIte, reduceIte, Nat.reduceEqDiff, Nat.reduceSub, Nat.reduceMul, ne_eq, Int.zero_add, Int.add_zero, Int.sub_zero, Nat.add_zero, Int.ofNat_eq_natCast, tX8_sounds_0, SX6_has, SX7_has, h1, h2, h3, h4, Nat.add_assoc]
  repeat' (first | (intro _) | (with_reducible assumption) | (refine And.intro ?_ ?_))
  all_goals first | omega | assumption | (refine z_fin hy ?_ rfl; first | rfl | omega | (split <;> omega) | (split <;> split <;> omega)) | skip
  all_goals first
    | (exact hn (fun q => by have := q.1; omega))
    | (exact nr 1 _ _ (Or.inl ⟨rfl, by (repeat' split at *) <;> omega⟩) (by omega))
    | (exact nr 0 _ _ (Or.inr ⟨rfl, by (repeat' split at *) <;> omega⟩) (by omega))
theorem dX8_sounds_0 : decode cX8_sounds 0 = .ok (.aload_n 0, 1) := by decide +kernel
theorem dX8_sounds_1 : decode cX8_sounds 1 = .ok (.getfield 12, 3) := by decide +kernel
theorem dX8_sounds_4 : decode cX8_sounds 4 = .ok (.iload_n 1, 1) := by decide +kernel
theorem dX8_sounds_5 : decode cX8_sounds 5 = .ok (.invokevirtual 71, 3) := by decide +kernel
theorem dX8_sounds_8 : decode cX8_sounds 8 = .ok (.ifCond .eq 14, 3) := by decide +kernel
theorem dX8_sounds_11 : decode cX8_sounds 11 = .ok (.aload_n 0, 1) := by decide +kernel
theorem dX8_sounds_12 : decode cX8_sounds 12 = .ok (.getfield 21, 3) := by decide +kernel
theorem dX8_sounds_15 : decode cX8_sounds 15 = .ok (.iload_n 2, 1) := by decide +kernel
theorem dX8_sounds_16 : decode cX8_sounds 16 = .ok (.invokevirtual 85, 3) := by decide +kernel
theorem dX8_sounds_19 : decode cX8_sounds 19 = .ok (.ifCond .ne 5, 3) := by decide +kernel
theorem dX8_sounds_22 : decode cX8_sounds 22 = .ok (.iconst 0, 1) := by decide +kernel
theorem dX8_sounds_23 : decode cX8_sounds 23 = .ok (.ireturn, 1) := by decide +kernel
theorem dX8_sounds_24 : decode cX8_sounds 24 = .ok (.aload_n 0, 1) := by decide +kernel
theorem dX8_sounds_25 : decode cX8_sounds 25 = .ok (.getfield 12, 3) := by decide +kernel
theorem dX8_sounds_28 : decode cX8_sounds 28 = .ok (.getfield 86, 3) := by decide +kernel
theorem dX8_sounds_31 : decode cX8_sounds 31 = .ok (.iload_n 1, 1) := by decide +kernel
theorem dX8_sounds_32 : decode cX8_sounds 32 = .ok (.iaload, 1) := by decide +kernel
theorem dX8_sounds_33 : decode cX8_sounds 33 = .ok (.iconst 1, 1) := by decide +kernel
theorem dX8_sounds_34 : decode cX8_sounds 34 = .ok (.if_icmp .eq 16, 3) := by decide +kernel
theorem dX8_sounds_37 : decode cX8_sounds 37 = .ok (.aload_n 0, 1) := by decide +kernel
theorem dX8_sounds_38 : decode cX8_sounds 38 = .ok (.getfield 12, 3) := by decide +kernel
theorem dX8_sounds_41 : decode cX8_sounds 41 = .ok (.getfield 89, 3) := by decide +kernel
theorem dX8_sounds_44 : decode cX8_sounds 44 = .ok (.iload_n 1, 1) := by decide +kernel
theorem dX8_sounds_45 : decode cX8_sounds 45 = .ok (.iaload, 1) := by decide +kernel
theorem dX8_sounds_46 : decode cX8_sounds 46 = .ok (.iconst 1, 1) := by decide +kernel
theorem dX8_sounds_47 : decode cX8_sounds 47 = .ok (.if_icmp .ne 5, 3) := by decide +kernel
theorem dX8_sounds_50 : decode cX8_sounds 50 = .ok (.iconst 0, 1) := by decide +kernel
theorem dX8_sounds_51 : decode cX8_sounds 51 = .ok (.ireturn, 1) := by decide +kernel
theorem dX8_sounds_52 : decode cX8_sounds 52 = .ok (.aload_n 0, 1) := by decide +kernel
theorem dX8_sounds_53 : decode cX8_sounds 53 = .ok (.getfield 12, 3) := by decide +kernel
theorem dX8_sounds_56 : decode cX8_sounds 56 = .ok (.getfield 92, 3) := by decide +kernel
theorem dX8_sounds_59 : decode cX8_sounds 59 = .ok (.iload_n 1, 1) := by decide +kernel
theorem dX8_sounds_60 : decode cX8_sounds 60 = .ok (.iaload, 1) := by decide +kernel
theorem dX8_sounds_61 : decode cX8_sounds 61 = .ok (.aload_n 0, 1) := by decide +kernel
theorem dX8_sounds_62 : decode cX8_sounds 62 = .ok (.getfield 21, 3) := by decide +kernel
theorem dX8_sounds_65 : decode cX8_sounds 65 = .ok (.getfield 95, 3) := by decide +kernel
theorem dX8_sounds_68 : decode cX8_sounds 68 = .ok (.iload_n 2, 1) := by decide +kernel
theorem dX8_sounds_69 : decode cX8_sounds 69 = .ok (.iaload, 1) := by decide +kernel
theorem dX8_sounds_70 : decode cX8_sounds 70 = .ok (.isub, 1) := by decide +kernel
theorem dX8_sounds_71 : decode cX8_sounds 71 = .ok (.invokestatic 96, 3) := by decide +kernel
theorem dX8_sounds_74 : decode cX8_sounds 74 = .ok (.istore_n 3, 1) := by decide +kernel
theorem dX8_sounds_75 : decode cX8_sounds 75 = .ok (.iload_n 3, 1) := by decide +kernel
theorem dX8_sounds_76 : decode cX8_sounds 76 = .ok (.iconst 1, 1) := by decide +kernel
theorem dX8_sounds_77 : decode cX8_sounds 77 = .ok (.if_icmp .le 9, 3) := by decide +kernel
theorem dX8_sounds_80 : decode cX8_sounds 80 = .ok (.iload_n 3, 1) := by decide +kernel
theorem dX8_sounds_81 : decode cX8_sounds 81 = .ok (.bipush 7, 2) := by decide +kernel
theorem dX8_sounds_83 : decode cX8_sounds 83 = .ok (.if_icmp .ne 7, 3) := by decide +kernel
theorem dX8_sounds_86 : decode cX8_sounds 86 = .ok (.iconst 1, 1) := by decide +kernel
theorem dX8_sounds_87 : decode cX8_sounds 87 = .ok (.goto 4, 3) := by decide +kernel
theorem dX8_sounds_90 : decode cX8_sounds 90 = .ok (.iconst 0, 1) := by decide +kernel
theorem dX8_sounds_91 : decode cX8_sounds 91 = .ok (.istore 4, 2) := by decide +kernel
theorem dX8_sounds_93 : decode cX8_sounds 93 = .ok (.iload 4, 2) := by decide +kernel
theorem dX8_sounds_95 : decode cX8_sounds 95 = .ok (.ifCond .eq 30, 3) := by decide +kernel
theorem dX8_sounds_98 : decode cX8_sounds 98 = .ok (.aload_n 0, 1) := by decide +kernel
theorem dX8_sounds_99 : decode cX8_sounds 99 = .ok (.getfield 21, 3) := by decide +kernel
theorem dX8_sounds_102 : decode cX8_sounds 102 = .ok (.getfield 102, 3) := by decide +kernel
theorem dX8_sounds_105 : decode cX8_sounds 105 = .ok (.iload_n 2, 1) := by decide +kernel
theorem dX8_sounds_106 : decode cX8_sounds 106 = .ok (.iaload, 1) := by decide +kernel
theorem dX8_sounds_107 : decode cX8_sounds 107 = .ok (.aload_n 0, 1) := by decide +kernel
theorem dX8_sounds_108 : decode cX8_sounds 108 = .ok (.getfield 12, 3) := by decide +kernel
theorem dX8_sounds_111 : decode cX8_sounds 111 = .ok (.getfield 75, 3) := by decide +kernel
theorem dX8_sounds_114 : decode cX8_sounds 114 = .ok (.iload_n 1, 1) := by decide +kernel
theorem dX8_sounds_115 : decode cX8_sounds 115 = .ok (.iaload, 1) := by decide +kernel
theorem dX8_sounds_116 : decode cX8_sounds 116 = .ok (.iconst 2, 1) := by decide +kernel
theorem dX8_sounds_117 : decode cX8_sounds 117 = .ok (.idiv, 1) := by decide +kernel
theorem dX8_sounds_118 : decode cX8_sounds 118 = .ok (.if_icmp .lt 7, 3) := by decide +kernel
theorem dX8_sounds_121 : decode cX8_sounds 121 = .ok (.iconst 1, 1) := by decide +kernel
theorem dX8_sounds_122 : decode cX8_sounds 122 = .ok (.goto 4, 3) := by decide +kernel
theorem dX8_sounds_125 : decode cX8_sounds 125 = .ok (.iconst 0, 1) := by decide +kernel
theorem dX8_sounds_126 : decode cX8_sounds 126 = .ok (.ireturn, 1) := by decide +kernel
set_option maxRecDepth 100000 in
theorem rX8_sounds_0 {zx : zX} {zn : Nat} {p : Program} {l : Launch} {e : Env} {s : State} {m : MethodId} {args : Array Value} {below : List Frame} {meth : Method} {c : Code} {D : va_G} {cA : Nat → ClassId} {ad : Nat → Nat} {Ret : zR} (C : z_Cx zx zn (z_A zn ad) 0 0 p { frames := 1, cells := 0, slots := 0, locals := 21 } s m args c cX8_sounds yX8_sounds.cls 5 D cA ad) (hr : meth.sig.returnType = (some .boolean)) (hlocks : meth.locks = false) : ∀ L st σ, tX8_sounds_0 (z_X zx zn (z_A zn ad) 0 0 p l e { frames := 1, cells := 0, slots := 0, locals := 21 } s m args below meth c (MQ below (z_Qc zn D cA ad Ret) args s 0 0 (z_A zn ad)) 5 D cA ad true) Ret L st σ → z_X zx zn (z_A zn ad) 0 0 p l e { frames := 1, cells := 0, slots := 0, locals := 21 } s m args below meth c (MQ below (z_Qc zn D cA ad Ret) args s 0 0 (z_A zn ad)) 5 D cA ad true 0 L st σ := (s_aload_n C dX8_sounds_0 rfl (s_getr C dX8_sounds_1 (j := 0) cls_X8 (by decide) rfl (by decide) (by decide) (by decide +kernel) wd_192 (s_iload_n C dX8_sounds_4 rfl (s_cv1 C dX8_sounds_5 (okX6_has l) cls_X6 wd_457 wd_458 wd_459 wd_21 wd_460 ⟨by decide, by decide, by decide +kernel⟩ ⟨by decide, by decide⟩ (s_ifeq C dX8_sounds_8 (by decide) (s_iconst C dX8_sounds_22 rfl ⟨by decide, by decide⟩ (s_zret C dX8_sounds_23 hr ⟨rfl, rfl⟩ hlocks)) (s_aload_n C dX8_sounds_11 rfl (s_getr C dX8_sounds_12 (j := 1) cls_X8 (by decide) rfl (by decide) (by decide) (by decide +kernel) wd_196 (s_iload_n C dX8_sounds_15 rfl (s_cv1 C dX8_sounds_16 (okX7_has l) cls_X7 wd_526 wd_515 wd_516 wd_22 wd_517 ⟨by decide, by decide, by decide +kernel⟩ ⟨by decide, by decide⟩ (s_ifne C dX8_sounds_19 (by decide) (s_aload_n C dX8_sounds_24 rfl (s_getr C dX8_sounds_25 (j := 0) cls_X8 (by decide) rfl (by decide) (by decide) (by decide +kernel) wd_192 (s_getr C dX8_sounds_28 (j := 5) cls_X6 (by decide) rfl (by decide) (by decide) (by decide +kernel) wd_121 (s_iload_n C dX8_sounds_31 rfl (s_iald C dX8_sounds_32 (s_iconst C dX8_sounds_33 rfl ⟨by decide, by decide⟩ (s_iceq C dX8_sounds_34 (by decide) (s_iconst C dX8_sounds_50 rfl ⟨by decide, by decide⟩ (s_zret C dX8_sounds_51 hr ⟨rfl, rfl⟩ hlocks)) (s_aload_n C dX8_sounds_37 rfl (s_getr C dX8_sounds_38 (j := 0) cls_X8 (by decide) rfl (by decide) (by decide) (by decide +kernel) wd_192 (s_getr C dX8_sounds_41 (j := 4) cls_X6 (by decide) rfl (by decide) (by decide) (by decide +kernel) wd_118 (s_iload_n C dX8_sounds_44 rfl (s_iald C dX8_sounds_45 (s_iconst C dX8_sounds_46 rfl ⟨by decide, by decide⟩ (s_icne C dX8_sounds_47 (by decide) (s_aload_n C dX8_sounds_52 rfl (s_getr C dX8_sounds_53 (j := 0) cls_X8 (by decide) rfl (by decide) (by decide) (by decide +kernel) wd_192 (s_getr C dX8_sounds_56 (j := 2) cls_X6 (by decide) rfl (by decide) (by decide) (by decide +kernel) wd_113 (s_iload_n C dX8_sounds_59 rfl (s_iald C dX8_sounds_60 (s_aload_n C dX8_sounds_61 rfl (s_getr C dX8_sounds_62 (j := 1) cls_X8 (by decide) rfl (by decide) (by decide) (by decide +kernel) wd_196 (s_getr C dX8_sounds_65 (j := 0) cls_X7 (by decide) rfl (by decide) (by decide) (by decide +kernel) wd_150 (s_iload_n C dX8_sounds_68 rfl (s_iald C dX8_sounds_69 (s_isub C dX8_sounds_70 (s_mabs C dX8_sounds_71 wd_527 wd_528 wd_32 wd_529 ⟨by decide, by decide⟩ (s_istore_n C dX8_sounds_74 (by decide) rfl rfl (s_iload_n C dX8_sounds_75 rfl (s_iconst C dX8_sounds_76 rfl ⟨by decide, by decide⟩ (s_icle C dX8_sounds_77 (by decide) (s_iconst C dX8_sounds_86 rfl ⟨by decide, by decide⟩ (s_goto C dX8_sounds_87 (by decide) (fun _ _ _ h => h))) (s_iload_n C dX8_sounds_80 rfl (s_bipush C dX8_sounds_81 rfl ⟨by decide, by decide⟩ (s_icne C dX8_sounds_83 (by decide) (s_iconst C dX8_sounds_90 rfl ⟨by decide, by decide⟩ (fun _ _ _ h => h)) (s_iconst C dX8_sounds_86 rfl ⟨by decide, by decide⟩ (s_goto C dX8_sounds_87 (by decide) (fun _ _ _ h => h)))))))))))))))))))))) (s_iconst C dX8_sounds_50 rfl ⟨by decide, by decide⟩ (s_zret C dX8_sounds_51 hr ⟨rfl, rfl⟩ hlocks)))))))))))))))) (s_iconst C dX8_sounds_22 rfl ⟨by decide, by decide⟩ (s_zret C dX8_sounds_23 hr ⟨rfl, rfl⟩ hlocks))))))))))))
set_option maxRecDepth 100000 in
theorem rX8_sounds_91 {zx : zX} {zn : Nat} {p : Program} {l : Launch} {e : Env} {s : State} {m : MethodId} {args : Array Value} {below : List Frame} {meth : Method} {c : Code} {D : va_G} {cA : Nat → ClassId} {ad : Nat → Nat} {Ret : zR} (C : z_Cx zx zn (z_A zn ad) 0 0 p { frames := 1, cells := 0, slots := 0, locals := 21 } s m args c cX8_sounds yX8_sounds.cls 5 D cA ad) (hr : meth.sig.returnType = (some .boolean)) (hlocks : meth.locks = false) : ∀ L st σ, tX8_sounds_91 (z_X zx zn (z_A zn ad) 0 0 p l e { frames := 1, cells := 0, slots := 0, locals := 21 } s m args below meth c (MQ below (z_Qc zn D cA ad Ret) args s 0 0 (z_A zn ad)) 5 D cA ad true) Ret L st σ → z_X zx zn (z_A zn ad) 0 0 p l e { frames := 1, cells := 0, slots := 0, locals := 21 } s m args below meth c (MQ below (z_Qc zn D cA ad Ret) args s 0 0 (z_A zn ad)) 5 D cA ad true 91 L st σ := (s_istore C dX8_sounds_91 (by decide) rfl (s_iload C dX8_sounds_93 (s_ifeq C dX8_sounds_95 (by decide) (s_iconst C dX8_sounds_125 rfl ⟨by decide, by decide⟩ (s_zret C dX8_sounds_126 hr ⟨rfl, rfl⟩ hlocks)) (s_aload_n C dX8_sounds_98 rfl (s_getr C dX8_sounds_99 (j := 1) cls_X8 (by decide) rfl (by decide) (by decide) (by decide +kernel) wd_196 (s_getr C dX8_sounds_102 (j := 1) cls_X7 (by decide) rfl (by decide) (by decide) (by decide +kernel) wd_152 (s_iload_n C dX8_sounds_105 rfl (s_iald C dX8_sounds_106 (s_aload_n C dX8_sounds_107 rfl (s_getr C dX8_sounds_108 (j := 0) cls_X8 (by decide) rfl (by decide) (by decide) (by decide +kernel) wd_192 (s_getr C dX8_sounds_111 (j := 1) cls_X6 (by decide) rfl (by decide) (by decide) (by decide +kernel) wd_110 (s_iload_n C dX8_sounds_114 rfl (s_iald C dX8_sounds_115 (s_iconst C dX8_sounds_116 rfl ⟨by decide, by decide⟩ (s_idiv C dX8_sounds_117 (s_iclt C dX8_sounds_118 (by decide) (s_iconst C dX8_sounds_125 rfl ⟨by decide, by decide⟩ (s_zret C dX8_sounds_126 hr ⟨rfl, rfl⟩ hlocks)) (s_iconst C dX8_sounds_121 rfl ⟨by decide, by decide⟩ (s_goto C dX8_sounds_122 (by decide) (s_zret C dX8_sounds_126 hr ⟨rfl, rfl⟩ hlocks)))))))))))))))))))
theorem okX8_sounds {zx : zX} {zn : Nat} (l : Launch) : z_OK zx zn l yX8_sounds cX8_sounds 5 (some .boolean) 1 21 SX8_sounds := by
  refine z_ok_of true (by decide +kernel) ?_ ?_
  · intro as σ Ret h
    obtain ⟨k0, x1, x2, rfl⟩ := pX8_sounds h
    exact ⟨Nat.le_of_ble_eq_true rfl, by simp⟩
  · intro p e s m args below meth c D cA ad Ret C hr hlocks as σ has hσ h
    obtain ⟨k0, x1, x2, rfl⟩ := pX8_sounds h
    exact vX8_sounds (rX8_sounds_0 C hr hlocks) (rX8_sounds_91 C hr hlocks) k0 x1 x2 σ (has _ (List.mem_of_getElem? (i := 0) rfl)).1 (has _ (List.mem_of_getElem? (i := 1) rfl)) (has _ (List.mem_of_getElem? (i := 2) rfl)) hσ h
theorem z_kd8 {k : Nat} (h : z_kd k = (8, 0)) : k = 8 ∨ k = 25 ∨ k = 42 ∨ k = 59 := by
  have key : ∀ i, i < 111 → z_kd i = (8, 0) → i = 8 ∨ i = 25 ∨ i = 42 ∨ i = 59 := by decide +kernel
  exact key k (z_kd_lt h (by decide)) h
/-- the places of a wood's cells that hold something -/
def q_vp (i j : Nat) : Prop := (i = 0 ∧ 4 ≤ j ∧ j ≤ 7) ∨ (i = 1 ∧ j = 6) ∨ (2 ≤ i ∧ i ≤ 7 ∧ j < 12) ∨ (i = 8 ∧ j = 3) ∨ (9 ≤ i ∧ i ≤ 11 ∧ j < 6) ∨ (i = 12 ∧ j = 3) ∨ (13 ≤ i ∧ i ≤ 15 ∧ j < 60) ∨ (i = 16 ∧ j < 10)
def SX8_takeOver : zS := fun as σ Ret => match as with
  | [.inr (.inr (8, 0, b)), .inr (.inr (8, 0, o))] => (b ≠ o ∧ (σ o 7 = 0 ∨ σ o 7 = 1)) ∧ ∀ σ' : zM, (∀ c j, ¬ (b ≤ c ∧ c ≤ b + 16) → σ' c j = σ c j) → (∀ i j, q_vp i j → σ' (b + i) j = σ (o + i) j) → Ret none σ'
  | _ => False
def tX8_takeOver_0 (X : Nat → zB) (Ret : zR) (L : zL) (st : List zV) (σ : zM) : Prop := (z_aload 0 (z_getr 8 1 6 0 (z_aload 1 (z_getr 8 1 6 0 (z_cv1 6 SX6_takeOver (z_aload 0 (z_getr 8 8 7 0 (z_aload 1 (z_getr 8 8 7 0 (z_cv1 7 SX7_takeOver (z_aload 0 (z_getr 8 12 2 0 (z_aload 1 (z_getr 8 12 2 0 (z_cv1 2 SX2_takeOver (z_aload 1 (z_getr 8 16 100 10 (z_push 0 (z_aload 0 (z_getr 8 16 100 10 (z_push 0 (z_push 10 (z_acopy (z_aload 0 (z_aload 1 (z_geti 8 4 (z_puti 8 4 (z_aload 0 (z_aload 1 (z_geti 8 5 (z_puti 8 5 (z_aload 0 (z_aload 1 (z_geti 8 6 (z_puti 8 6 (z_aload 0 (z_aload 1 (z_geti 8 7 (z_putz 8 7 (z_vret Ret)))))))))))))))))))))))))))))))))))))))) L st σ
theorem pX8_takeOver {as : List zV} {σ : zM} {Ret : zR} (h : SX8_takeOver as σ Ret) : ∃ (k0 : Nat) (k1 : Nat), as = [.inr (.inr (8, 0, k0)), .inr (.inr (8, 0, k1))] := by
  unfold SX8_takeOver at h
  split at h
  · exact ⟨_, _, rfl⟩
  · exact h.elim
set_option maxRecDepth 10000 in
set_option maxHeartbeats 4000000 in
theorem vX8_takeOver {X : Nat → zB} {Ret : zR} (h0 : ∀ L st σ, tX8_takeOver_0 X Ret L st σ → X 0 L st σ) (k0 : Nat) (k1 : Nat) (σ : zM) (hk0 : z_kd k0 = (8, 0)) (hk1 : z_kd k1 = (8, 0)) (hσ : z_okm σ) (h : SX8_takeOver [.inr (.inr (8, 0, k0)), .inr (.inr (8, 0, k1))] σ Ret) : X 0 [some (.inr (.inr (8, 0, k0))), some (.inr (.inr (8, 0, k1)))] [] σ := by
  obtain ⟨⟨hne, h01⟩, h⟩ := h
  have hd : k0 + 16 < k1 ∨ k1 + 16 < k0 := by
    have := z_kd8 hk0
    have := z_kd8 hk1
    omega
  refine h0 _ _ _ ?_
  simp only [z_push, z_lpush, z_iload, z_lload, z_aload, z_istore, z_istoreP, z_lstore, z_astore, z_iinc, z_iincP, z_iadd, z_isub, z_imul, z_iaddW, z_isubW, z_imulW, z_idiv, z_irem, z_iand, z_ior, z_ixor, z_ishl, z_ishr, z_iushr, z_ineg, z_i2l, z_i2b, z_i2s, z_i2c, z_l2i, z_ladd, z_lsub, z_land, z_lor, z_lshl, z_lshr, z_lcmp, z_dup, z_pop, z_dup2, z_goto, z_tsw, z_cases, z_geti, z_getr, z_puti, z_putz, z_ald, z_iast, z_bast, z_zast, z_alen, z_acopy, z_mmax, z_mmin, z_mabs, z_mabsL, z_iret, z_zret, z_nret, z_lret, z_aret, z_vret, z_cat, z_xald, z_xlen, z_ldcs, z_strv, z_strc, z_gcs, z_gfm, z_sln, z_sald, z_ifeq, z_ifne, z_iflt, z_ifge, z_ifgt, z_ifle, z_iceq, z_icne, z_iclt, z_icge, z_icgt, z_icle, z_cs0, z_cs1, z_cs2, z_cs3, z_cs4, z_cs5, z_cs6, z_cs7, z_cv0, z_cv1, z_cv2, z_cv3, z_cv4, z_cv5, z_cv6, z_cv7, z_g0, z_s0, z_g1, z_s1, z_g2, z_s2, z_g3, z_s3, z_g4, z_s4, z_g5, z_s5, z_g6, z_s6, z_g7, z_s7, z_g8, z_s8, z_g9, z_s9, z_g10, z_s10, z_g11, z_s11, z_g12, z_s12, z_g13, z_s13, z_b0, z_b1, z_b0n, z_b1n, z_up_far1, z_up_far2, z_up_far3, z_up_far4, z_up_far5, z_up_far6, Classical.not_not, not_true_eq_false, z_in, z_inL, Int.cast_ofNat_Int, Nat.reduceLeDiff, List.length_cons, List.length_nil, Nat.reduceAdd, Nat.zero_add, Nat.le_refl, true_and, and_true, List.length, Nat.reduceLT, true_or, or_true, false_or, or_false, false_and, and_false, not_true_eq_false, not_false_eq_true, forall_const, false_implies, true_implies, Int.reduceEq, Int.reduceLT, Int.reduceLE, Int.reduceAdd, Int.reduceSub, Int.reduceMul, Int.reduceNeg, Int.reduceToNat, Int.toNat_natCast, ↓reduceIte, reduceIte, Nat.reduceEqDiff, Nat.reduceSub, Nat.reduceMul, ne_eq, Int.zero_add, Int.add_zero, Int.sub_zero, Nat.add_zero, Int.ofNat_eq_natCast, tX8_takeOver_0, SX6_takeOver, SX7_takeOver, SX2_takeOver]
  refine ⟨by omega, fun σ1 f1 f2 f3 => ⟨by omega, fun σ2 g1 g2 g3 => ⟨by omega, fun σ3 e1 e2 e3 => ?_⟩⟩⟩
  have T : ∀ i j, 2 ≤ i → i ≤ 7 → j < 12 → σ1 (k0 + i) j = σ (k1 + i) j := fun i j a b c => by
    have := f3 (i - 1) j (by omega) (by omega) c
    rwa [show k0 + 1 + (i - 1) = k0 + i by omega, show k1 + 1 + (i - 1) = k1 + i by omega] at this
  have U : ∀ i j, 9 ≤ i → i ≤ 11 → j < 6 → σ2 (k0 + i) j = σ1 (k1 + i) j := fun i j a b c => by
    have := g3 (i - 8) j (by omega) (by omega) c
    rwa [show k0 + 8 + (i - 8) = k0 + i by omega, show k1 + 8 + (i - 8) = k1 + i by omega] at this
  have V : ∀ i j, 13 ≤ i → i ≤ 15 → j < 60 → σ3 (k0 + i) j = σ2 (k1 + i) j := fun i j a b c => by
    have := e3 (i - 12) j (by omega) (by omega) c
    rwa [show k0 + 12 + (i - 12) = k0 + i by omega, show k1 + 12 + (i - 12) = k1 + i by omega] at this
  repeat' (first | (intro _) | (with_reducible assumption) | (refine And.intro ?_ ?_))
  all_goals first | omega | assumption | (refine z_fin h ?_ rfl; first | rfl | omega | (split <;> omega) | (split <;> split <;> omega)) | skip
  · simp (disch := omega) only [z_up, z_cpy, if_neg, e1, g1, f1]
    exact h01
  refine h _ ?_ ?_
  · intro c j hc
    simp (disch := omega) only [z_up, z_cpy, if_neg, e1, g1, f1]
  · intro i j hv
    rcases hv with ⟨rfl, h4, h7⟩ | ⟨rfl, rfl⟩ | ⟨h2, h7, hj⟩ | ⟨rfl, rfl⟩ | ⟨h2, h7, hj⟩ | ⟨rfl, rfl⟩ | ⟨h2, h7, hj⟩ | ⟨rfl, hj⟩
    · have hj : j = 4 ∨ j = 5 ∨ j = 6 ∨ j = 7 := by omega
      rcases hj with rfl | rfl | rfl | rfl
      all_goals simp (disch := omega) only [z_up, z_cpy, if_neg, if_pos, e1, g1, f1, Nat.add_zero, and_self, true_and, and_true, ↓reduceIte]
    · rw [← f2]; simp (disch := omega) only [z_up, z_cpy, if_neg, e1, g1]
    · rw [← T i j h2 h7 hj]; simp (disch := omega) only [z_up, z_cpy, if_neg, e1, g1]
    · rw [← f1 _ _ (by omega), ← g2]; simp (disch := omega) only [z_up, z_cpy, if_neg, e1]
    · rw [← f1 _ _ (by omega), ← U i j h2 h7 hj]; simp (disch := omega) only [z_up, z_cpy, if_neg, e1]
    · rw [← f1 _ _ (by omega), ← g1 _ _ (by omega), ← e2]; simp (disch := omega) only [z_up, z_cpy, if_neg]
    · rw [← f1 _ _ (by omega), ← g1 _ _ (by omega), ← V i j h2 h7 hj]; simp (disch := omega) only [z_up, z_cpy, if_neg]
    · simp (disch := omega) only [z_up, z_cpy, if_neg, if_pos, e1, g1, f1, Nat.sub_zero, Nat.zero_add, true_and, hj, Nat.zero_le, and_self, ↓reduceIte]
theorem dX8_takeOver_0 : decode cX8_takeOver 0 = .ok (.aload_n 0, 1) := by decide +kernel
theorem dX8_takeOver_1 : decode cX8_takeOver 1 = .ok (.getfield 12, 3) := by decide +kernel
theorem dX8_takeOver_4 : decode cX8_takeOver 4 = .ok (.aload_n 1, 1) := by decide +kernel
theorem dX8_takeOver_5 : decode cX8_takeOver 5 = .ok (.getfield 12, 3) := by decide +kernel
theorem dX8_takeOver_8 : decode cX8_takeOver 8 = .ok (.invokevirtual 55, 3) := by decide +kernel
theorem dX8_takeOver_11 : decode cX8_takeOver 11 = .ok (.aload_n 0, 1) := by decide +kernel
theorem dX8_takeOver_12 : decode cX8_takeOver 12 = .ok (.getfield 21, 3) := by decide +kernel
theorem dX8_takeOver_15 : decode cX8_takeOver 15 = .ok (.aload_n 1, 1) := by decide +kernel
theorem dX8_takeOver_16 : decode cX8_takeOver 16 = .ok (.getfield 21, 3) := by decide +kernel
theorem dX8_takeOver_19 : decode cX8_takeOver 19 = .ok (.invokevirtual 59, 3) := by decide +kernel
theorem dX8_takeOver_22 : decode cX8_takeOver 22 = .ok (.aload_n 0, 1) := by decide +kernel
theorem dX8_takeOver_23 : decode cX8_takeOver 23 = .ok (.getfield 28, 3) := by decide +kernel
theorem dX8_takeOver_26 : decode cX8_takeOver 26 = .ok (.aload_n 1, 1) := by decide +kernel
theorem dX8_takeOver_27 : decode cX8_takeOver 27 = .ok (.getfield 28, 3) := by decide +kernel
theorem dX8_takeOver_30 : decode cX8_takeOver 30 = .ok (.invokevirtual 62, 3) := by decide +kernel
theorem dX8_takeOver_33 : decode cX8_takeOver 33 = .ok (.aload_n 1, 1) := by decide +kernel
theorem dX8_takeOver_34 : decode cX8_takeOver 34 = .ok (.getfield 32, 3) := by decide +kernel
theorem dX8_takeOver_37 : decode cX8_takeOver 37 = .ok (.iconst 0, 1) := by decide +kernel
theorem dX8_takeOver_38 : decode cX8_takeOver 38 = .ok (.aload_n 0, 1) := by decide +kernel
theorem dX8_takeOver_39 : decode cX8_takeOver 39 = .ok (.getfield 32, 3) := by decide +kernel
theorem dX8_takeOver_42 : decode cX8_takeOver 42 = .ok (.iconst 0, 1) := by decide +kernel
theorem dX8_takeOver_43 : decode cX8_takeOver 43 = .ok (.bipush 10, 2) := by decide +kernel
theorem dX8_takeOver_45 : decode cX8_takeOver 45 = .ok (.invokestatic 65, 3) := by decide +kernel
theorem dX8_takeOver_48 : decode cX8_takeOver 48 = .ok (.aload_n 0, 1) := by decide +kernel
theorem dX8_takeOver_49 : decode cX8_takeOver 49 = .ok (.aload_n 1, 1) := by decide +kernel
theorem dX8_takeOver_50 : decode cX8_takeOver 50 = .ok (.getfield 42, 3) := by decide +kernel
theorem dX8_takeOver_53 : decode cX8_takeOver 53 = .ok (.putfield 42, 3) := by decide +kernel
theorem dX8_takeOver_56 : decode cX8_takeOver 56 = .ok (.aload_n 0, 1) := by decide +kernel
theorem dX8_takeOver_57 : decode cX8_takeOver 57 = .ok (.aload_n 1, 1) := by decide +kernel
theorem dX8_takeOver_58 : decode cX8_takeOver 58 = .ok (.getfield 45, 3) := by decide +kernel
theorem dX8_takeOver_61 : decode cX8_takeOver 61 = .ok (.putfield 45, 3) := by decide +kernel
theorem dX8_takeOver_64 : decode cX8_takeOver 64 = .ok (.aload_n 0, 1) := by decide +kernel
theorem dX8_takeOver_65 : decode cX8_takeOver 65 = .ok (.aload_n 1, 1) := by decide +kernel
theorem dX8_takeOver_66 : decode cX8_takeOver 66 = .ok (.getfield 48, 3) := by decide +kernel
theorem dX8_takeOver_69 : decode cX8_takeOver 69 = .ok (.putfield 48, 3) := by decide +kernel
theorem dX8_takeOver_72 : decode cX8_takeOver 72 = .ok (.aload_n 0, 1) := by decide +kernel
theorem dX8_takeOver_73 : decode cX8_takeOver 73 = .ok (.aload_n 1, 1) := by decide +kernel
theorem dX8_takeOver_74 : decode cX8_takeOver 74 = .ok (.getfield 51, 3) := by decide +kernel
theorem dX8_takeOver_77 : decode cX8_takeOver 77 = .ok (.putfield 51, 3) := by decide +kernel
theorem dX8_takeOver_80 : decode cX8_takeOver 80 = .ok (.return_, 1) := by decide +kernel
set_option maxRecDepth 100000 in
theorem rX8_takeOver_0 {zx : zX} {zn : Nat} {p : Program} {l : Launch} {e : Env} {s : State} {m : MethodId} {args : Array Value} {below : List Frame} {meth : Method} {c : Code} {D : va_G} {cA : Nat → ClassId} {ad : Nat → Nat} {Ret : zR} (C : z_Cx zx zn (z_A zn ad) 0 0 p { frames := 2, cells := 0, slots := 0, locals := 47 } s m args c cX8_takeOver yX8_takeOver.cls 2 D cA ad) (hr : meth.sig.returnType = none) (hlocks : meth.locks = false) : ∀ L st σ, tX8_takeOver_0 (z_X zx zn (z_A zn ad) 0 0 p l e { frames := 2, cells := 0, slots := 0, locals := 47 } s m args below meth c (MQ below (z_Qc zn D cA ad Ret) args s 0 0 (z_A zn ad)) 2 D cA ad true) Ret L st σ → z_X zx zn (z_A zn ad) 0 0 p l e { frames := 2, cells := 0, slots := 0, locals := 47 } s m args below meth c (MQ below (z_Qc zn D cA ad Ret) args s 0 0 (z_A zn ad)) 2 D cA ad true 0 L st σ := (s_aload_n C dX8_takeOver_0 rfl (s_getr C dX8_takeOver_1 (j := 0) cls_X8 (by decide) rfl (by decide) (by decide) (by decide +kernel) wd_192 (s_aload_n C dX8_takeOver_4 rfl (s_getr C dX8_takeOver_5 (j := 0) cls_X8 (by decide) rfl (by decide) (by decide) (by decide +kernel) wd_192 (s_cv1 C dX8_takeOver_8 (okX6_takeOver l) cls_X6 wd_635 wd_636 wd_637 wd_21 wd_638 ⟨by decide, by decide, by decide +kernel⟩ ⟨by decide, by decide⟩ (s_aload_n C dX8_takeOver_11 rfl (s_getr C dX8_takeOver_12 (j := 1) cls_X8 (by decide) rfl (by decide) (by decide) (by decide +kernel) wd_196 (s_aload_n C dX8_takeOver_15 rfl (s_getr C dX8_takeOver_16 (j := 1) cls_X8 (by decide) rfl (by decide) (by decide) (by decide +kernel) wd_196 (s_cv1 C dX8_takeOver_19 (okX7_takeOver l) cls_X7 wd_642 wd_643 wd_644 wd_22 wd_645 ⟨by decide, by decide, by decide +kernel⟩ ⟨by decide, by decide⟩ (s_aload_n C dX8_takeOver_22 rfl (s_getr C dX8_takeOver_23 (j := 2) cls_X8 (by decide) rfl (by decide) (by decide) (by decide +kernel) wd_199 (s_aload_n C dX8_takeOver_26 rfl (s_getr C dX8_takeOver_27 (j := 2) cls_X8 (by decide) rfl (by decide) (by decide) (by decide +kernel) wd_199 (s_cv1 C dX8_takeOver_30 (okX2_takeOver l) cls_X2 wd_647 wd_648 wd_649 wd_23 wd_650 ⟨by decide, by decide, by decide +kernel⟩ ⟨by decide, by decide⟩ (s_aload_n C dX8_takeOver_33 rfl (s_getr C dX8_takeOver_34 (j := 3) cls_X8 (by decide) rfl (by decide) (by decide) (by decide +kernel) wd_201 (s_iconst C dX8_takeOver_37 rfl ⟨by decide, by decide⟩ (s_aload_n C dX8_takeOver_38 rfl (s_getr C dX8_takeOver_39 (j := 3) cls_X8 (by decide) rfl (by decide) (by decide) (by decide +kernel) wd_201 (s_iconst C dX8_takeOver_42 rfl ⟨by decide, by decide⟩ (s_bipush C dX8_takeOver_43 rfl ⟨by decide, by decide⟩ (s_acopy C dX8_takeOver_45 wd_652 wd_641 wd_640 wd_31 ⟨by decide, by decide⟩ (s_aload_n C dX8_takeOver_48 rfl (s_aload_n C dX8_takeOver_49 rfl (s_geti C dX8_takeOver_50 cls_X8 (by decide) rfl wd_202 (s_puti C dX8_takeOver_53 cls_X8 (by decide) rfl wd_202 rfl rfl (s_aload_n C dX8_takeOver_56 rfl (s_aload_n C dX8_takeOver_57 rfl (s_geti C dX8_takeOver_58 cls_X8 (by decide) rfl wd_205 (s_puti C dX8_takeOver_61 cls_X8 (by decide) rfl wd_205 rfl rfl (s_aload_n C dX8_takeOver_64 rfl (s_aload_n C dX8_takeOver_65 rfl (s_geti C dX8_takeOver_66 cls_X8 (by decide) rfl wd_207 (s_puti C dX8_takeOver_69 cls_X8 (by decide) rfl wd_207 rfl rfl (s_aload_n C dX8_takeOver_72 rfl (s_aload_n C dX8_takeOver_73 rfl (s_geti C dX8_takeOver_74 cls_X8 (by decide) rfl wd_209 (s_putz C dX8_takeOver_77 cls_X8 (by decide) rfl wd_209 rfl rfl (s_vret C dX8_takeOver_80 hr hlocks))))))))))))))))))))))))))))))))))))))))
theorem okX8_takeOver {zx : zX} {zn : Nat} (l : Launch) : z_OK zx zn l yX8_takeOver cX8_takeOver 2 none 2 47 SX8_takeOver := by
  refine z_ok_of true (by decide +kernel) ?_ ?_
  · intro as σ Ret h
    obtain ⟨k0, k1, rfl⟩ := pX8_takeOver h
    exact ⟨Nat.le_of_ble_eq_true rfl, by simp⟩
  · intro p e s m args below meth c D cA ad Ret C hr hlocks as σ has hσ h
    obtain ⟨k0, k1, rfl⟩ := pX8_takeOver h
    exact vX8_takeOver (rX8_takeOver_0 C hr hlocks) k0 k1 σ (has _ (List.mem_of_getElem? (i := 0) rfl)).1 (has _ (List.mem_of_getElem? (i := 1) rfl)).1 hσ h
def SX8_grow : zS := fun as σ Ret => match as with
  | [.inr (.inr (8, 0, b)), .inl y] => ((0 ≤ σ (b + 1) 6 ∧ σ (b + 1) 6 ≤ 12) ∧ (0 ≤ y ∧ y ≤ 60) ∧ ∀ j : Nat, (j : Int) < σ (b + 1) 6 → (0 ≤ σ (b + 2) j ∧ σ (b + 2) j ≤ 999) ∧ 0 ≤ σ (b + 5) j ∧ σ (b + 5) j ≤ 5) ∧ Ret none (z_up (q_grow σ (b + 1) y (σ (b + 1) 6).toNat) b 5 (z_wr (σ b 5 + y)))
  | _ => False
def tX8_grow_0 (X : Nat → zB) (Ret : zR) (L : zL) (st : List zV) (σ : zM) : Prop := (z_aload 0 (z_getr 8 1 6 0 (z_iload 1 (z_cv1 6 SX6_growAll (z_aload 0 (z_dup (z_geti 8 5 (z_iload 1 (z_iaddW (z_puti 8 5 (z_vret Ret))))))))))) L st σ
theorem pX8_grow {as : List zV} {σ : zM} {Ret : zR} (h : SX8_grow as σ Ret) : ∃ (k0 : Nat) (x1 : Int), as = [.inr (.inr (8, 0, k0)), .inl x1] := by
  unfold SX8_grow at h
  split at h
  · exact ⟨_, _, rfl⟩
  · exact h.elim
set_option maxRecDepth 10000 in
set_option maxHeartbeats 4000000 in
theorem vX8_grow {X : Nat → zB} {Ret : zR} (h0 : ∀ L st σ, tX8_grow_0 X Ret L st σ → X 0 L st σ) (k0 : Nat) (x1 : Int) (σ : zM) (hk0 : z_kd k0 = (8, 0)) (hx1 : -2147483648 ≤ x1 ∧ x1 ≤ 2147483647) (hσ : z_okm σ) (h : SX8_grow [.inr (.inr (8, 0, k0)), .inl x1] σ Ret) : X 0 [some (.inr (.inr (8, 0, k0))), some (.inl x1)] [] σ := by
  obtain ⟨⟨h1, h2, h3⟩, h⟩ := h
  have e : ∀ n, q_grow σ (k0 + 1) x1 n k0 5 = σ k0 5 := fun n => q_grow_ne (by omega)
  refine h0 _ _ _ ?_
  simp only [z_push, z_lpush, z_iload, z_lload, z_aload, z_istore, z_istoreP, z_lstore, z_astore, z_iinc, z_iincP, z_iadd, z_isub, z_imul, z_iaddW, z_isubW, z_imulW, z_idiv, z_irem, z_iand, z_ior, z_ixor, z_ishl, z_ishr, z_iushr, z_ineg, z_i2l, z_i2b, z_i2s, z_i2c, z_l2i, z_ladd, z_lsub, z_land, z_lor, z_lshl, z_lshr, z_lcmp, z_dup, z_pop, z_dup2, z_goto, z_tsw, z_cases, z_geti, z_getr, z_puti, z_putz, z_ald, z_iast, z_bast, z_zast, z_alen, z_acopy, z_mmax, z_mmin, z_mabs, z_mabsL, z_iret, z_zret, z_nret, z_lret, z_aret, z_vret, z_cat, z_xald, z_xlen, z_ldcs, z_strv, z_strc, z_gcs, z_gfm, z_sln, z_sald, z_ifeq, z_ifne, z_iflt, z_ifge, z_ifgt, z_ifle, z_iceq, z_icne, z_iclt, z_icge, z_icgt, z_icle, z_cs0, z_cs1, z_cs2, z_cs3, z_cs4, z_cs5, z_cs6, z_cs7, z_cv0, z_cv1, z_cv2, z_cv3, z_cv4, z_cv5, z_cv6, z_cv7, z_g0, z_s0, z_g1, z_s1, z_g2, z_s2, z_g3, z_s3, z_g4, z_s4, z_g5, z_s5, z_g6, z_s6, z_g7, z_s7, z_g8, z_s8, z_g9, z_s9, z_g10, z_s10, z_g11, z_s11, z_g12, z_s12, z_g13, z_s13, z_b0, z_b1, z_b0n, z_b1n, z_up_far1, z_up_far2, z_up_far3, z_up_far4, z_up_far5, z_up_far6, Classical.not_not, not_true_eq_false, z_in, z_inL, Int.cast_ofNat_Int, Nat.reduceLeDiff, List.length_cons, List.length_nil, Nat.reduceAdd, Nat.zero_add, Nat.le_refl, true_and, and_true, List.length, Nat.reduceLT, true_or, or_true, false_or, or_false, false_and, and_false, not_true_eq_false, not_false_eq_true, forall_const, false_implies, true_implies, Int.reduceEq, Int.reduceLT, Int.reduceLE, Int.reduceAdd, Int.reduceSub, Int.reduceMul, Int.reduceNeg, Int.reduceToNat, Int.toNat_natCast, ↓reduceIte, reduceIte, Nat.reduceEqDiff, Nat.reduceSub, Nat.reduceMul, ne_eq, Int.zero_add, Int.add_zero, Int.sub_zero, Nat.add_zero, Int.ofNat_eq_natCast, tX8_grow_0, SX6_growAll, Nat.add_assoc, e]
  exact ⟨⟨h1, h2, h3⟩, fun _ => h⟩
theorem dX8_grow_0 : decode cX8_grow 0 = .ok (.aload_n 0, 1) := by decide +kernel
theorem dX8_grow_1 : decode cX8_grow 1 = .ok (.getfield 12, 3) := by decide +kernel
theorem dX8_grow_4 : decode cX8_grow 4 = .ok (.iload_n 1, 1) := by decide +kernel
theorem dX8_grow_5 : decode cX8_grow 5 = .ok (.invokevirtual 105, 3) := by decide +kernel
theorem dX8_grow_8 : decode cX8_grow 8 = .ok (.aload_n 0, 1) := by decide +kernel
theorem dX8_grow_9 : decode cX8_grow 9 = .ok (.dup, 1) := by decide +kernel
theorem dX8_grow_10 : decode cX8_grow 10 = .ok (.getfield 45, 3) := by decide +kernel
theorem dX8_grow_13 : decode cX8_grow 13 = .ok (.iload_n 1, 1) := by decide +kernel
theorem dX8_grow_14 : decode cX8_grow 14 = .ok (.iadd, 1) := by decide +kernel
theorem dX8_grow_15 : decode cX8_grow 15 = .ok (.putfield 45, 3) := by decide +kernel
theorem dX8_grow_18 : decode cX8_grow 18 = .ok (.return_, 1) := by decide +kernel
set_option maxRecDepth 100000 in
theorem rX8_grow_0 {zx : zX} {zn : Nat} {p : Program} {l : Launch} {e : Env} {s : State} {m : MethodId} {args : Array Value} {below : List Frame} {meth : Method} {c : Code} {D : va_G} {cA : Nat → ClassId} {ad : Nat → Nat} {Ret : zR} (C : z_Cx zx zn (z_A zn ad) 0 0 p { frames := 4, cells := 0, slots := 0, locals := 87 } s m args c cX8_grow yX8_grow.cls 2 D cA ad) (hr : meth.sig.returnType = none) (hlocks : meth.locks = false) : ∀ L st σ, tX8_grow_0 (z_X zx zn (z_A zn ad) 0 0 p l e { frames := 4, cells := 0, slots := 0, locals := 87 } s m args below meth c (MQ below (z_Qc zn D cA ad Ret) args s 0 0 (z_A zn ad)) 2 D cA ad true) Ret L st σ → z_X zx zn (z_A zn ad) 0 0 p l e { frames := 4, cells := 0, slots := 0, locals := 87 } s m args below meth c (MQ below (z_Qc zn D cA ad Ret) args s 0 0 (z_A zn ad)) 2 D cA ad true 0 L st σ := (s_aload_n C dX8_grow_0 rfl (s_getr C dX8_grow_1 (j := 0) cls_X8 (by decide) rfl (by decide) (by decide) (by decide +kernel) wd_192 (s_iload_n C dX8_grow_4 rfl (s_cv1 C dX8_grow_5 (okX6_growAll l) cls_X6 wd_493 wd_494 wd_495 wd_21 wd_496 ⟨by decide, by decide, by decide +kernel⟩ ⟨by decide, by decide⟩ (s_aload_n C dX8_grow_8 rfl (s_dup C dX8_grow_9 (s_geti C dX8_grow_10 cls_X8 (by decide) rfl wd_205 (s_iload_n C dX8_grow_13 rfl (s_iaddW C dX8_grow_14 (s_puti C dX8_grow_15 cls_X8 (by decide) rfl wd_205 rfl rfl (s_vret C dX8_grow_18 hr hlocks)))))))))))
theorem okX8_grow {zx : zX} {zn : Nat} (l : Launch) : z_OK zx zn l yX8_grow cX8_grow 2 none 4 87 SX8_grow := by
  refine z_ok_of true (by decide +kernel) ?_ ?_
  · intro as σ Ret h
    obtain ⟨k0, x1, rfl⟩ := pX8_grow h
    exact ⟨Nat.le_of_ble_eq_true rfl, by simp⟩
  · intro p e s m args below meth c D cA ad Ret C hr hlocks as σ has hσ h
    obtain ⟨k0, x1, rfl⟩ := pX8_grow h
    exact vX8_grow (rX8_grow_0 C hr hlocks) k0 x1 σ (has _ (List.mem_of_getElem? (i := 0) rfl)).1 (has _ (List.mem_of_getElem? (i := 1) rfl)) hσ h
def q_cl (b : Nat) (o : Int) : Nat := if o = 0 then b + 2 else if o = 1 then b + 2 else if o = 2 then b + 4 else if o = 3 then b + 6 else if o = 4 then b + 6 else if o = 5 then b + 7 else b
def q_ix (o : Int) (t : Nat) : Nat := if o < 6 then t else 6
def q_new (o n old : Int) : Int := if o = 0 then max 10 (min 999 (old + -n)) else if o = 1 then max 10 (min 999 (old + n)) else if o = 2 then n else if o = 3 then 1 else if o = 4 then 0 else if o = 5 then 1 else if o = 6 then 1 else 0
def q_und (o n old : Int) : Int := if o < 2 then q_new o n old - old else old
def q_carry (σ : zM) (b : Nat) (o : Int) (t : Nat) (n : Int) : zM :=
  z_up (z_up (z_up (z_up (z_up σ (q_cl b o) (q_ix o t) (q_new o n (σ (q_cl b o) (q_ix o t)))) (b + 13) (σ (b + 12) 3).toNat o) (b + 14) (σ (b + 12) 3).toNat t) (b + 15) (σ (b + 12) 3).toNat (q_und o n (σ (q_cl b o) (q_ix o t)))) (b + 12) 3 (σ (b + 12) 3 + 1)
def q_cok (σ : zM) (b : Nat) (o t n : Int) : Prop := (0 ≤ o ∧ o ≤ 7) ∧ ((0 ≤ t ∧ t < σ (b + 1) 6) ∧ t < 12) ∧ (0 ≤ n ∧ n ≤ 100) ∧ (0 ≤ σ (b + 2) t.toNat ∧ σ (b + 2) t.toNat ≤ 999) ∧ 0 ≤ σ (b + 12) 3 ∧ σ (b + 12) 3 < 60
def SX8_carryOut : zS := fun as σ Ret => match as with
  | [.inr (.inr (8, 0, b)), .inl o, .inl t, .inl n] => q_cok σ b o t n ∧ Ret none (q_carry σ b o t.toNat n)
  | _ => False
def tX8_carryOut_0 (X : Nat → zB) (Ret : zR) (L : zL) (st : List zV) (σ : zM) : Prop := (z_aload 0 (z_getr 8 1 6 0 (z_iload 2 (z_cv1 6 SX6_has (z_ifne (z_push 0 (z_istore 4 (z_iload 1 (z_tsw 0 [(z_aload 0 (z_getr 8 1 6 0 (z_iload 2 (z_iload 3 (z_ineg (z_cv2 6 SX6_stretch (z_istore 4 (z_goto (X 187))))))))), (z_aload 0 (z_getr 8 1 6 0 (z_iload 2 (z_iload 3 (z_cv2 6 SX6_stretch (z_istore 4 (z_goto (X 187)))))))), (z_aload 0 (z_getr 8 1 6 0 (z_getr 6 3 100 12 (z_iload 2 (z_ald 0 (z_istore 4 (z_aload 0 (z_getr 8 1 6 0 (z_getr 6 3 100 12 (z_iload 2 (z_iload 3 (z_iast (z_goto (X 187)))))))))))))), (z_aload 0 (z_getr 8 1 6 0 (z_getr 6 5 100 12 (z_iload 2 (z_ald 0 (z_istore 4 (z_aload 0 (z_getr 8 1 6 0 (z_getr 6 5 100 12 (z_iload 2 (z_iload 1 (z_push 3 (z_icne (z_push 0 (z_iast (z_goto (X 187)))) (z_push 1 (z_goto (z_iast (z_goto (X 187)))))))))))))))))), (z_aload 0 (z_getr 8 1 6 0 (z_getr 6 5 100 12 (z_iload 2 (z_ald 0 (z_istore 4 (z_aload 0 (z_getr 8 1 6 0 (z_getr 6 5 100 12 (z_iload 2 (z_iload 1 (z_push 3 (z_icne (z_push 0 (z_iast (z_goto (X 187)))) (z_push 1 (z_goto (z_iast (z_goto (X 187)))))))))))))))))), (z_aload 0 (z_getr 8 1 6 0 (z_getr 6 6 100 12 (z_iload 2 (z_ald 0 (z_istore 4 (z_aload 0 (z_getr 8 1 6 0 (z_getr 6 6 100 12 (z_iload 2 (z_push 1 (z_iast (z_goto (X 187))))))))))))))] (z_aload 0 (z_geti 8 6 (z_istore 4 (z_aload 0 (z_iload 1 (z_push 6 (z_icne (z_push 0 (z_puti 8 6 (X 187))) (z_push 1 (z_goto (z_puti 8 6 (X 187))))))))))))))) (z_vret Ret)))))) L st σ
def tX8_carryOut_187 (X : Nat → zB) (Ret : zR) (L : zL) (st : List zV) (σ : zM) : Prop := (z_aload 0 (z_getr 8 12 2 0 (z_iload 1 (z_iload 2 (z_iload 4 (z_cv3 2 SX2_add (z_vret Ret))))))) L st σ
theorem pX8_carryOut {as : List zV} {σ : zM} {Ret : zR} (h : SX8_carryOut as σ Ret) : ∃ (k0 : Nat) (x1 : Int) (x2 : Int) (x3 : Int), as = [.inr (.inr (8, 0, k0)), .inl x1, .inl x2, .inl x3] := by
  unfold SX8_carryOut at h
  split at h
  · exact ⟨_, _, _, _, rfl⟩
  · exact h.elim
set_option maxRecDepth 10000 in
set_option maxHeartbeats 4000000 in
theorem vX8_carryOut {X : Nat → zB} {Ret : zR} (h0 : ∀ L st σ, tX8_carryOut_0 X Ret L st σ → X 0 L st σ) (h187 : ∀ L st σ, tX8_carryOut_187 X Ret L st σ → X 187 L st σ) (k0 : Nat) (x1 : Int) (x2 : Int) (x3 : Int) (σ : zM) (hk0 : z_kd k0 = (8, 0)) (hx1 : -2147483648 ≤ x1 ∧ x1 ≤ 2147483647) (hx2 : -2147483648 ≤ x2 ∧ x2 ≤ 2147483647) (hx3 : -2147483648 ≤ x3 ∧ x3 ≤ 2147483647) (hσ : z_okm σ) (h : SX8_carryOut [.inr (.inr (8, 0, k0)), .inl x1, .inl x2, .inl x3] σ Ret) : X 0 [some (.inr (.inr (8, 0, k0))), some (.inl x1), some (.inl x2), some (.inl x3), none] [] σ := by
  obtain ⟨⟨ho, ht, hn, hl, hc⟩, h⟩ := h
  have hc1 := hc.1
  have hc2 := hc.2
  have ht0 := ht.1.1
  obtain ⟨t, rfl⟩ := z_nat ht0
  simp only [Int.toNat_natCast] at hl h
  have fin : ∀ (u : Int) (τ : zM), τ = z_up σ (q_cl k0 x1) (q_ix x1 t) (q_new x1 x3 (σ (q_cl k0 x1) (q_ix x1 t))) → u = q_und x1 x3 (σ (q_cl k0 x1) (q_ix x1 t)) → X 187 [some (.inr (.inr (8, 0, k0))), some (.inl x1), some (.inl (t : Int)), some (.inl x3), some (.inl u)] [] τ := by
    intro u τ hτ hu
    have e : τ (k0 + 12) 3 = σ (k0 + 12) 3 := by
      rw [hτ]
      refine z_up_ne (Or.inl ?_)
      unfold q_cl
      repeat' split
      all_goals omega
    refine h187 _ _ _ ?_
    simp only [z_push, z_lpush, z_iload, z_lload, z_aload, z_istore, z_istoreP, z_lstore, z_astore, z_iinc, z_iincP, z_iadd, z_isub, z_imul, z_iaddW, z_isubW, z_imulW, z_idiv, z_irem, z_iand, z_ior, z_ixor, z_ishl, z_ishr, z_iushr, z_ineg, z_i2l, z_i2b, z_i2s, z_i2c, z_l2i, z_ladd, z_lsub, z_land, z_lor, z_lshl, z_lshr, z_lcmp, z_dup, z_pop, z_dup2, z_goto, z_tsw, z_cases, z_geti, z_getr, z_puti, z_putz, z_ald, z_iast, z_bast, z_zast, z_alen, z_acopy, z_mmax, z_mmin, z_mabs, z_mabsL, z_iret, z_zret, z_nret, z_lret, z_aret, z_vret, z_cat, z_xald, z_xlen, z_ldcs, z_strv, z_strc, z_gcs, z_gfm, z_sln, z_sald, z_ifeq, z_ifne, z_iflt, z_ifge, z_ifgt, z_ifle, z_iceq, z_icne, z_iclt, z_icge, z_icgt, z_icle, z_cs0, z_cs1, z_cs2, z_cs3, z_cs4, z_cs5, z_cs6, z_cs7, z_cv0, z_cv1, z_cv2, z_cv3, z_cv4, z_cv5, z_cv6, z_cv7, z_g0, z_s0, z_g1, z_s1, z_g2, z_s2, z_g3, z_s3, z_g4, z_s4, z_g5, z_s5, z_g6, z_s6, z_g7, z_s7, z_g8, z_s8, z_g9, z_s9, z_g10, z_s10, z_g11, z_s11, z_g12, z_s12, z_g13, z_s13, z_b0, z_b1, z_b0n, z_b1n, z_up_far1, z_up_far2, z_up_far3, z_up_far4, z_up_far5, z_up_far6, Classical.not_not, not_true_eq_false, z_in, z_inL, Int.cast_ofNat_Int, Nat.reduceLeDiff, List.length_cons, List.length_nil, Nat.reduceAdd, Nat.zero_add, Nat.le_refl, true_and, and_true, List.length, Nat.reduceLT, true_or, or_true, false_or, or_false, false_and, and_false, not_true_eq_false, not_false_eq_true, forall_const, false_implies, true_implies, Int.reduceEq, Int.reduceLT, Int.reduceLE, Int.reduceAdd, Int.reduceSub, Int.reduceMul, Int.reduceNeg, Int.reduceToNat, Int.toNat_natCast, ↓reduceIte, reduceIte, Nat.reduceEqDiff, Nat.reduceSub, Nat.reduceMul, ne_eq, Int.zero_add, Int.add_zero, Int.sub_zero, Nat.add_zero, Int.ofNat_eq_natCast, tX8_carryOut_187, SX2_add, Nat.add_assoc, e, hc1, hc2]
    rw [hτ, hu]
    exact h
  have hho : x1 = 0 ∨ x1 = 1 ∨ x1 = 2 ∨ x1 = 3 ∨ x1 = 4 ∨ x1 = 5 ∨ x1 = 6 ∨ x1 = 7 := by omega
  rcases hho with rfl | rfl | rfl | rfl | rfl | rfl | rfl | rfl
  all_goals
    refine h0 _ _ _ ?_
    simp only [z_push, z_lpush, z_iload, z_lload, z_aload, z_istore, z_istoreP, z_lstore, z_astore, z_iinc, z_iincP, z_iadd, z_isub, z_imul, z_iaddW, z_isubW, z_imulW, z_idiv, z_irem, z_iand, z_ior, z_ixor, z_ishl, z_ishr, z_iushr, z_ineg, z_i2l, z_i2b, z_i2s, z_i2c, z_l2i, z_ladd, z_lsub, z_land, z_lor, z_lshl, z_lshr, z_lcmp, z_dup, z_pop, z_dup2, z_goto, z_tsw, z_cases, z_geti, z_getr, z_puti, z_putz, z_ald, z_iast, z_bast, z_zast, z_alen, z_acopy, z_mmax, z_mmin, z_mabs, z_mabsL, z_iret, z_zret, z_nret, z_lret, z_aret, z_vret, z_cat, z_xald, z_xlen, z_ldcs, z_strv, z_strc, z_gcs, z_gfm, z_sln, z_sald, z_ifeq, z_ifne, z_iflt, z_ifge, z_ifgt, z_ifle, z_iceq, z_icne, z_iclt, z_icge, z_icgt, z_icle, z_cs0, z_cs1, z_cs2, z_cs3, z_cs4, z_cs5, z_cs6, z_cs7, z_cv0, z_cv1, z_cv2, z_cv3, z_cv4, z_cv5, z_cv6, z_cv7, z_g0, z_s0, z_g1, z_s1, z_g2, z_s2, z_g3, z_s3, z_g4, z_s4, z_g5, z_s5, z_g6, z_s6, z_g7, z_s7, z_g8, z_s8, z_g9, z_s9, z_g10, z_s10, z_g11, z_s11, z_g12, z_s12, z_g13, z_s13, z_b0, z_b1, z_b0n, z_b1n, z_up_far1, z_up_far2, z_up_far3, z_up_far4, z_up_far5, z_up_far6, Classical.not_not, not_true_eq_false, z_in, z_inL, Int.cast_ofNat_Int, Nat.reduceLeDiff, List.length_cons, List.length_nil, Nat.reduceAdd, Nat.zero_add, Nat.le_refl, true_and, and_true, List.length, Nat.reduceLT, true_or, or_true, false_or, or_false, false_and, and_false, not_true_eq_false, not_false_eq_true, forall_const, false_implies, true_implies, Int.reduceEq, Int.reduceLT, Int.reduceLE, Int.reduceAdd, Int.reduceSub, Int.reduceMul, Int.reduceNeg, Int.reduceToNat, Int.toNat_natCast, ↓reduceIte, reduceIte, Nat.reduceEqDiff, Nat.reduceSub, Nat.reduceMul, ne_eq, Int.zero_add, Int.add_zero, Int.sub_zero, Nat.add_zero, Int.ofNat_eq_natCast, tX8_carryOut_0, SX6_has, SX6_stretch, Nat.add_assoc, ht]
    repeat' (first | (intro _) | (with_reducible assumption) | (refine And.intro ?_ ?_))
    all_goals first | omega | assumption | (refine z_fin h ?_ rfl; first | rfl | omega | (split <;> omega) | (split <;> split <;> omega)) | skip
    exact fin _ _ rfl rfl
theorem dX8_carryOut_0 : decode cX8_carryOut 0 = .ok (.aload_n 0, 1) := by decide +kernel
theorem dX8_carryOut_1 : decode cX8_carryOut 1 = .ok (.getfield 12, 3) := by decide +kernel
theorem dX8_carryOut_4 : decode cX8_carryOut 4 = .ok (.iload_n 2, 1) := by decide +kernel
theorem dX8_carryOut_5 : decode cX8_carryOut 5 = .ok (.invokevirtual 71, 3) := by decide +kernel
theorem dX8_carryOut_8 : decode cX8_carryOut 8 = .ok (.ifCond .ne 4, 3) := by decide +kernel
theorem dX8_carryOut_11 : decode cX8_carryOut 11 = .ok (.return_, 1) := by decide +kernel
theorem dX8_carryOut_12 : decode cX8_carryOut 12 = .ok (.iconst 0, 1) := by decide +kernel
theorem dX8_carryOut_13 : decode cX8_carryOut 13 = .ok (.istore 4, 2) := by decide +kernel
theorem dX8_carryOut_15 : decode cX8_carryOut 15 = .ok (.iload_n 1, 1) := by decide +kernel
theorem dX8_carryOut_16 : decode cX8_carryOut 16 = .ok (.tableswitch 150 0 5 #[40, 55, 69, 93, 93, 126], 40) := by decide +kernel
theorem dX8_carryOut_56 : decode cX8_carryOut 56 = .ok (.aload_n 0, 1) := by decide +kernel
theorem dX8_carryOut_57 : decode cX8_carryOut 57 = .ok (.getfield 12, 3) := by decide +kernel
theorem dX8_carryOut_60 : decode cX8_carryOut 60 = .ok (.iload_n 2, 1) := by decide +kernel
theorem dX8_carryOut_61 : decode cX8_carryOut 61 = .ok (.iload_n 3, 1) := by decide +kernel
theorem dX8_carryOut_62 : decode cX8_carryOut 62 = .ok (.ineg, 1) := by decide +kernel
theorem dX8_carryOut_63 : decode cX8_carryOut 63 = .ok (.invokevirtual 122, 3) := by decide +kernel
theorem dX8_carryOut_66 : decode cX8_carryOut 66 = .ok (.istore 4, 2) := by decide +kernel
theorem dX8_carryOut_68 : decode cX8_carryOut 68 = .ok (.goto 119, 3) := by decide +kernel
theorem dX8_carryOut_71 : decode cX8_carryOut 71 = .ok (.aload_n 0, 1) := by decide +kernel
theorem dX8_carryOut_72 : decode cX8_carryOut 72 = .ok (.getfield 12, 3) := by decide +kernel
theorem dX8_carryOut_75 : decode cX8_carryOut 75 = .ok (.iload_n 2, 1) := by decide +kernel
theorem dX8_carryOut_76 : decode cX8_carryOut 76 = .ok (.iload_n 3, 1) := by decide +kernel
theorem dX8_carryOut_77 : decode cX8_carryOut 77 = .ok (.invokevirtual 122, 3) := by decide +kernel
theorem dX8_carryOut_80 : decode cX8_carryOut 80 = .ok (.istore 4, 2) := by decide +kernel
theorem dX8_carryOut_82 : decode cX8_carryOut 82 = .ok (.goto 105, 3) := by decide +kernel
theorem dX8_carryOut_85 : decode cX8_carryOut 85 = .ok (.aload_n 0, 1) := by decide +kernel
theorem dX8_carryOut_86 : decode cX8_carryOut 86 = .ok (.getfield 12, 3) := by decide +kernel
theorem dX8_carryOut_89 : decode cX8_carryOut 89 = .ok (.getfield 92, 3) := by decide +kernel
theorem dX8_carryOut_92 : decode cX8_carryOut 92 = .ok (.iload_n 2, 1) := by decide +kernel
theorem dX8_carryOut_93 : decode cX8_carryOut 93 = .ok (.iaload, 1) := by decide +kernel
theorem dX8_carryOut_94 : decode cX8_carryOut 94 = .ok (.istore 4, 2) := by decide +kernel
theorem dX8_carryOut_96 : decode cX8_carryOut 96 = .ok (.aload_n 0, 1) := by decide +kernel
theorem dX8_carryOut_97 : decode cX8_carryOut 97 = .ok (.getfield 12, 3) := by decide +kernel
theorem dX8_carryOut_100 : decode cX8_carryOut 100 = .ok (.getfield 92, 3) := by decide +kernel
theorem dX8_carryOut_103 : decode cX8_carryOut 103 = .ok (.iload_n 2, 1) := by decide +kernel
theorem dX8_carryOut_104 : decode cX8_carryOut 104 = .ok (.iload_n 3, 1) := by decide +kernel
theorem dX8_carryOut_105 : decode cX8_carryOut 105 = .ok (.iastore, 1) := by decide +kernel
theorem dX8_carryOut_106 : decode cX8_carryOut 106 = .ok (.goto 81, 3) := by decide +kernel
theorem dX8_carryOut_109 : decode cX8_carryOut 109 = .ok (.aload_n 0, 1) := by decide +kernel
theorem dX8_carryOut_110 : decode cX8_carryOut 110 = .ok (.getfield 12, 3) := by decide +kernel
theorem dX8_carryOut_113 : decode cX8_carryOut 113 = .ok (.getfield 89, 3) := by decide +kernel
theorem dX8_carryOut_116 : decode cX8_carryOut 116 = .ok (.iload_n 2, 1) := by decide +kernel
theorem dX8_carryOut_117 : decode cX8_carryOut 117 = .ok (.iaload, 1) := by decide +kernel
theorem dX8_carryOut_118 : decode cX8_carryOut 118 = .ok (.istore 4, 2) := by decide +kernel
theorem dX8_carryOut_120 : decode cX8_carryOut 120 = .ok (.aload_n 0, 1) := by decide +kernel
theorem dX8_carryOut_121 : decode cX8_carryOut 121 = .ok (.getfield 12, 3) := by decide +kernel
theorem dX8_carryOut_124 : decode cX8_carryOut 124 = .ok (.getfield 89, 3) := by decide +kernel
theorem dX8_carryOut_127 : decode cX8_carryOut 127 = .ok (.iload_n 2, 1) := by decide +kernel
theorem dX8_carryOut_128 : decode cX8_carryOut 128 = .ok (.iload_n 1, 1) := by decide +kernel
theorem dX8_carryOut_129 : decode cX8_carryOut 129 = .ok (.iconst 3, 1) := by decide +kernel
theorem dX8_carryOut_130 : decode cX8_carryOut 130 = .ok (.if_icmp .ne 7, 3) := by decide +kernel
theorem dX8_carryOut_133 : decode cX8_carryOut 133 = .ok (.iconst 1, 1) := by decide +kernel
theorem dX8_carryOut_134 : decode cX8_carryOut 134 = .ok (.goto 4, 3) := by decide +kernel
theorem dX8_carryOut_137 : decode cX8_carryOut 137 = .ok (.iconst 0, 1) := by decide +kernel
theorem dX8_carryOut_138 : decode cX8_carryOut 138 = .ok (.iastore, 1) := by decide +kernel
theorem dX8_carryOut_139 : decode cX8_carryOut 139 = .ok (.goto 48, 3) := by decide +kernel
theorem dX8_carryOut_142 : decode cX8_carryOut 142 = .ok (.aload_n 0, 1) := by decide +kernel
theorem dX8_carryOut_143 : decode cX8_carryOut 143 = .ok (.getfield 12, 3) := by decide +kernel
theorem dX8_carryOut_146 : decode cX8_carryOut 146 = .ok (.getfield 86, 3) := by decide +kernel
theorem dX8_carryOut_149 : decode cX8_carryOut 149 = .ok (.iload_n 2, 1) := by decide +kernel
theorem dX8_carryOut_150 : decode cX8_carryOut 150 = .ok (.iaload, 1) := by decide +kernel
theorem dX8_carryOut_151 : decode cX8_carryOut 151 = .ok (.istore 4, 2) := by decide +kernel
theorem dX8_carryOut_153 : decode cX8_carryOut 153 = .ok (.aload_n 0, 1) := by decide +kernel
theorem dX8_carryOut_154 : decode cX8_carryOut 154 = .ok (.getfield 12, 3) := by decide +kernel
theorem dX8_carryOut_157 : decode cX8_carryOut 157 = .ok (.getfield 86, 3) := by decide +kernel
theorem dX8_carryOut_160 : decode cX8_carryOut 160 = .ok (.iload_n 2, 1) := by decide +kernel
theorem dX8_carryOut_161 : decode cX8_carryOut 161 = .ok (.iconst 1, 1) := by decide +kernel
theorem dX8_carryOut_162 : decode cX8_carryOut 162 = .ok (.iastore, 1) := by decide +kernel
theorem dX8_carryOut_163 : decode cX8_carryOut 163 = .ok (.goto 24, 3) := by decide +kernel
theorem dX8_carryOut_166 : decode cX8_carryOut 166 = .ok (.aload_n 0, 1) := by decide +kernel
theorem dX8_carryOut_167 : decode cX8_carryOut 167 = .ok (.getfield 48, 3) := by decide +kernel
theorem dX8_carryOut_170 : decode cX8_carryOut 170 = .ok (.istore 4, 2) := by decide +kernel
theorem dX8_carryOut_172 : decode cX8_carryOut 172 = .ok (.aload_n 0, 1) := by decide +kernel
theorem dX8_carryOut_173 : decode cX8_carryOut 173 = .ok (.iload_n 1, 1) := by decide +kernel
theorem dX8_carryOut_174 : decode cX8_carryOut 174 = .ok (.bipush 6, 2) := by decide +kernel
theorem dX8_carryOut_176 : decode cX8_carryOut 176 = .ok (.if_icmp .ne 7, 3) := by decide +kernel
theorem dX8_carryOut_179 : decode cX8_carryOut 179 = .ok (.iconst 1, 1) := by decide +kernel
theorem dX8_carryOut_180 : decode cX8_carryOut 180 = .ok (.goto 4, 3) := by decide +kernel
theorem dX8_carryOut_183 : decode cX8_carryOut 183 = .ok (.iconst 0, 1) := by decide +kernel
theorem dX8_carryOut_184 : decode cX8_carryOut 184 = .ok (.putfield 48, 3) := by decide +kernel
theorem dX8_carryOut_187 : decode cX8_carryOut 187 = .ok (.aload_n 0, 1) := by decide +kernel
theorem dX8_carryOut_188 : decode cX8_carryOut 188 = .ok (.getfield 28, 3) := by decide +kernel
theorem dX8_carryOut_191 : decode cX8_carryOut 191 = .ok (.iload_n 1, 1) := by decide +kernel
theorem dX8_carryOut_192 : decode cX8_carryOut 192 = .ok (.iload_n 2, 1) := by decide +kernel
theorem dX8_carryOut_193 : decode cX8_carryOut 193 = .ok (.iload 4, 2) := by decide +kernel
theorem dX8_carryOut_195 : decode cX8_carryOut 195 = .ok (.invokevirtual 125, 3) := by decide +kernel
theorem dX8_carryOut_198 : decode cX8_carryOut 198 = .ok (.return_, 1) := by decide +kernel
set_option maxRecDepth 100000 in
theorem rX8_carryOut_0 {zx : zX} {zn : Nat} {p : Program} {l : Launch} {e : Env} {s : State} {m : MethodId} {args : Array Value} {below : List Frame} {meth : Method} {c : Code} {D : va_G} {cA : Nat → ClassId} {ad : Nat → Nat} {Ret : zR} (C : z_Cx zx zn (z_A zn ad) 0 0 p { frames := 3, cells := 0, slots := 0, locals := 65 } s m args c cX8_carryOut yX8_carryOut.cls 5 D cA ad) (hr : meth.sig.returnType = none) (hlocks : meth.locks = false) : ∀ L st σ, tX8_carryOut_0 (z_X zx zn (z_A zn ad) 0 0 p l e { frames := 3, cells := 0, slots := 0, locals := 65 } s m args below meth c (MQ below (z_Qc zn D cA ad Ret) args s 0 0 (z_A zn ad)) 5 D cA ad true) Ret L st σ → z_X zx zn (z_A zn ad) 0 0 p l e { frames := 3, cells := 0, slots := 0, locals := 65 } s m args below meth c (MQ below (z_Qc zn D cA ad Ret) args s 0 0 (z_A zn ad)) 5 D cA ad true 0 L st σ := (s_aload_n C dX8_carryOut_0 rfl (s_getr C dX8_carryOut_1 (j := 0) cls_X8 (by decide) rfl (by decide) (by decide) (by decide +kernel) wd_192 (s_iload_n C dX8_carryOut_4 rfl (s_cv1 C dX8_carryOut_5 (okX6_has l) cls_X6 wd_457 wd_458 wd_459 wd_21 wd_460 ⟨by decide, by decide, by decide +kernel⟩ ⟨by decide, by decide⟩ (s_ifne C dX8_carryOut_8 (by decide) (s_iconst C dX8_carryOut_12 rfl ⟨by decide, by decide⟩ (s_istore C dX8_carryOut_13 (by decide) rfl (s_iload_n C dX8_carryOut_15 rfl (s_tsw C dX8_carryOut_16 (by decide) rfl (s_aload_n C dX8_carryOut_166 rfl (s_geti C dX8_carryOut_167 cls_X8 (by decide) rfl wd_207 (s_istore C dX8_carryOut_170 (by decide) rfl (s_aload_n C dX8_carryOut_172 rfl (s_iload_n C dX8_carryOut_173 rfl (s_bipush C dX8_carryOut_174 rfl ⟨by decide, by decide⟩ (s_icne C dX8_carryOut_176 (by decide) (s_iconst C dX8_carryOut_183 rfl ⟨by decide, by decide⟩ (s_puti C dX8_carryOut_184 cls_X8 (by decide) rfl wd_207 rfl rfl (fun _ _ _ h => h))) (s_iconst C dX8_carryOut_179 rfl ⟨by decide, by decide⟩ (s_goto C dX8_carryOut_180 (by decide) (s_puti C dX8_carryOut_184 cls_X8 (by decide) rfl wd_207 rfl rfl (fun _ _ _ h => h))))))))))) (fun i hi => match i, hi with | 0, _ => ⟨40, 56, _, rfl, by decide, rfl, (s_aload_n C dX8_carryOut_56 rfl (s_getr C dX8_carryOut_57 (j := 0) cls_X8 (by decide) rfl (by decide) (by decide) (by decide +kernel) wd_192 (s_iload_n C dX8_carryOut_60 rfl (s_iload_n C dX8_carryOut_61 rfl (s_ineg C dX8_carryOut_62 (s_cv2 C dX8_carryOut_63 (okX6_stretch l) cls_X6 wd_461 wd_462 wd_463 wd_21 wd_464 ⟨by decide, by decide, by decide +kernel⟩ ⟨by decide, by decide⟩ (s_istore C dX8_carryOut_66 (by decide) rfl (s_goto C dX8_carryOut_68 (by decide) (fun _ _ _ h => h)))))))))⟩ | 1, _ => ⟨55, 71, _, rfl, by decide, rfl, (s_aload_n C dX8_carryOut_71 rfl (s_getr C dX8_carryOut_72 (j := 0) cls_X8 (by decide) rfl (by decide) (by decide) (by decide +kernel) wd_192 (s_iload_n C dX8_carryOut_75 rfl (s_iload_n C dX8_carryOut_76 rfl (s_cv2 C dX8_carryOut_77 (okX6_stretch l) cls_X6 wd_461 wd_462 wd_463 wd_21 wd_464 ⟨by decide, by decide, by decide +kernel⟩ ⟨by decide, by decide⟩ (s_istore C dX8_carryOut_80 (by decide) rfl (s_goto C dX8_carryOut_82 (by decide) (fun _ _ _ h => h))))))))⟩ | 2, _ => ⟨69, 85, _, rfl, by decide, rfl, (s_aload_n C dX8_carryOut_85 rfl (s_getr C dX8_carryOut_86 (j := 0) cls_X8 (by decide) rfl (by decide) (by decide) (by decide +kernel) wd_192 (s_getr C dX8_carryOut_89 (j := 2) cls_X6 (by decide) rfl (by decide) (by decide) (by decide +kernel) wd_113 (s_iload_n C dX8_carryOut_92 rfl (s_iald C dX8_carryOut_93 (s_istore C dX8_carryOut_94 (by decide) rfl (s_aload_n C dX8_carryOut_96 rfl (s_getr C dX8_carryOut_97 (j := 0) cls_X8 (by decide) rfl (by decide) (by decide) (by decide +kernel) wd_192 (s_getr C dX8_carryOut_100 (j := 2) cls_X6 (by decide) rfl (by decide) (by decide) (by decide +kernel) wd_113 (s_iload_n C dX8_carryOut_103 rfl (s_iload_n C dX8_carryOut_104 rfl (s_iast C dX8_carryOut_105 (s_goto C dX8_carryOut_106 (by decide) (fun _ _ _ h => h))))))))))))))⟩ | 3, _ => ⟨93, 109, _, rfl, by decide, rfl, (s_aload_n C dX8_carryOut_109 rfl (s_getr C dX8_carryOut_110 (j := 0) cls_X8 (by decide) rfl (by decide) (by decide) (by decide +kernel) wd_192 (s_getr C dX8_carryOut_113 (j := 4) cls_X6 (by decide) rfl (by decide) (by decide) (by decide +kernel) wd_118 (s_iload_n C dX8_carryOut_116 rfl (s_iald C dX8_carryOut_117 (s_istore C dX8_carryOut_118 (by decide) rfl (s_aload_n C dX8_carryOut_120 rfl (s_getr C dX8_carryOut_121 (j := 0) cls_X8 (by decide) rfl (by decide) (by decide) (by decide +kernel) wd_192 (s_getr C dX8_carryOut_124 (j := 4) cls_X6 (by decide) rfl (by decide) (by decide) (by decide +kernel) wd_118 (s_iload_n C dX8_carryOut_127 rfl (s_iload_n C dX8_carryOut_128 rfl (s_iconst C dX8_carryOut_129 rfl ⟨by decide, by decide⟩ (s_icne C dX8_carryOut_130 (by decide) (s_iconst C dX8_carryOut_137 rfl ⟨by decide, by decide⟩ (s_iast C dX8_carryOut_138 (s_goto C dX8_carryOut_139 (by decide) (fun _ _ _ h => h)))) (s_iconst C dX8_carryOut_133 rfl ⟨by decide, by decide⟩ (s_goto C dX8_carryOut_134 (by decide) (s_iast C dX8_carryOut_138 (s_goto C dX8_carryOut_139 (by decide) (fun _ _ _ h => h))))))))))))))))))⟩ | 4, _ => ⟨93, 109, _, rfl, by decide, rfl, (s_aload_n C dX8_carryOut_109 rfl (s_getr C dX8_carryOut_110 (j := 0) cls_X8 (by decide) rfl (by decide) (by decide) (by decide +kernel) wd_192 (s_getr C dX8_carryOut_113 (j := 4) cls_X6 (by decide) rfl (by decide) (by decide) (by decide +kernel) wd_118 (s_iload_n C dX8_carryOut_116 rfl (s_iald C dX8_carryOut_117 (s_istore C dX8_carryOut_118 (by decide) rfl (s_aload_n C dX8_carryOut_120 rfl (s_getr C dX8_carryOut_121 (j := 0) cls_X8 (by decide) rfl (by decide) (by decide) (by decide +kernel) wd_192 (s_getr C dX8_carryOut_124 (j := 4) cls_X6 (by decide) rfl (by decide) (by decide) (by decide +kernel) wd_118 (s_iload_n C dX8_carryOut_127 rfl (s_iload_n C dX8_carryOut_128 rfl (s_iconst C dX8_carryOut_129 rfl ⟨by decide, by decide⟩ (s_icne C dX8_carryOut_130 (by decide) (s_iconst C dX8_carryOut_137 rfl ⟨by decide, by decide⟩ (s_iast C dX8_carryOut_138 (s_goto C dX8_carryOut_139 (by decide) (fun _ _ _ h => h)))) (s_iconst C dX8_carryOut_133 rfl ⟨by decide, by decide⟩ (s_goto C dX8_carryOut_134 (by decide) (s_iast C dX8_carryOut_138 (s_goto C dX8_carryOut_139 (by decide) (fun _ _ _ h => h))))))))))))))))))⟩ | 5, _ => ⟨126, 142, _, rfl, by decide, rfl, (s_aload_n C dX8_carryOut_142 rfl (s_getr C dX8_carryOut_143 (j := 0) cls_X8 (by decide) rfl (by decide) (by decide) (by decide +kernel) wd_192 (s_getr C dX8_carryOut_146 (j := 5) cls_X6 (by decide) rfl (by decide) (by decide) (by decide +kernel) wd_121 (s_iload_n C dX8_carryOut_149 rfl (s_iald C dX8_carryOut_150 (s_istore C dX8_carryOut_151 (by decide) rfl (s_aload_n C dX8_carryOut_153 rfl (s_getr C dX8_carryOut_154 (j := 0) cls_X8 (by decide) rfl (by decide) (by decide) (by decide +kernel) wd_192 (s_getr C dX8_carryOut_157 (j := 5) cls_X6 (by decide) rfl (by decide) (by decide) (by decide +kernel) wd_121 (s_iload_n C dX8_carryOut_160 rfl (s_iconst C dX8_carryOut_161 rfl ⟨by decide, by decide⟩ (s_iast C dX8_carryOut_162 (s_goto C dX8_carryOut_163 (by decide) (fun _ _ _ h => h))))))))))))))⟩) ⟨by decide, by decide⟩ ⟨by decide, by decide⟩)))) (s_vret C dX8_carryOut_11 hr hlocks))))))
set_option maxRecDepth 100000 in
theorem rX8_carryOut_187 {zx : zX} {zn : Nat} {p : Program} {l : Launch} {e : Env} {s : State} {m : MethodId} {args : Array Value} {below : List Frame} {meth : Method} {c : Code} {D : va_G} {cA : Nat → ClassId} {ad : Nat → Nat} {Ret : zR} (C : z_Cx zx zn (z_A zn ad) 0 0 p { frames := 3, cells := 0, slots := 0, locals := 65 } s m args c cX8_carryOut yX8_carryOut.cls 5 D cA ad) (hr : meth.sig.returnType = none) (hlocks : meth.locks = false) : ∀ L st σ, tX8_carryOut_187 (z_X zx zn (z_A zn ad) 0 0 p l e { frames := 3, cells := 0, slots := 0, locals := 65 } s m args below meth c (MQ below (z_Qc zn D cA ad Ret) args s 0 0 (z_A zn ad)) 5 D cA ad true) Ret L st σ → z_X zx zn (z_A zn ad) 0 0 p l e { frames := 3, cells := 0, slots := 0, locals := 65 } s m args below meth c (MQ below (z_Qc zn D cA ad Ret) args s 0 0 (z_A zn ad)) 5 D cA ad true 187 L st σ := (s_aload_n C dX8_carryOut_187 rfl (s_getr C dX8_carryOut_188 (j := 2) cls_X8 (by decide) rfl (by decide) (by decide) (by decide +kernel) wd_199 (s_iload_n C dX8_carryOut_191 rfl (s_iload_n C dX8_carryOut_192 rfl (s_iload C dX8_carryOut_193 (s_cv3 C dX8_carryOut_195 (okX2_add l) cls_X2 wd_475 wd_440 wd_441 wd_23 wd_442 ⟨by decide, by decide, by decide +kernel⟩ ⟨by decide, by decide⟩ (s_vret C dX8_carryOut_198 hr hlocks)))))))
theorem okX8_carryOut {zx : zX} {zn : Nat} (l : Launch) : z_OK zx zn l yX8_carryOut cX8_carryOut 5 none 3 65 SX8_carryOut := by
  refine z_ok_of true (by decide +kernel) ?_ ?_
  · intro as σ Ret h
    obtain ⟨k0, x1, x2, x3, rfl⟩ := pX8_carryOut h
    exact ⟨Nat.le_of_ble_eq_true rfl, by simp⟩
  · intro p e s m args below meth c D cA ad Ret C hr hlocks as σ has hσ h
    obtain ⟨k0, x1, x2, x3, rfl⟩ := pX8_carryOut h
    exact vX8_carryOut (rX8_carryOut_0 C hr hlocks) (rX8_carryOut_187 C hr hlocks) k0 x1 x2 x3 σ (has _ (List.mem_of_getElem? (i := 0) rfl)).1 (has _ (List.mem_of_getElem? (i := 1) rfl)) (has _ (List.mem_of_getElem? (i := 2) rfl)) (has _ (List.mem_of_getElem? (i := 3) rfl)) hσ h
def q_back (σ : zM) (b : Nat) : zM := z_up (z_up σ (q_cl b (σ (b + 13) (σ (b + 12) 3 - 1).toNat)) (q_ix (σ (b + 13) (σ (b + 12) 3 - 1).toNat) (σ (b + 14) (σ (b + 12) 3 - 1).toNat).toNat) (if σ (b + 13) (σ (b + 12) 3 - 1).toNat < 2 then max 10 (min 999 (σ (b + 2) (σ (b + 14) (σ (b + 12) 3 - 1).toNat).toNat + -σ (b + 15) (σ (b + 12) 3 - 1).toNat)) else σ (b + 15) (σ (b + 12) 3 - 1).toNat)) (b + 12) 3 (σ (b + 12) 3 - 1)
def SX8_takeBack : zS := fun as σ Ret => match as with
  | [.inr (.inr (8, 0, b))] => ((1 ≤ σ (b + 12) 3 ∧ σ (b + 12) 3 ≤ 60) ∧ (0 ≤ σ (b + 13) (σ (b + 12) 3 - 1).toNat ∧ σ (b + 13) (σ (b + 12) 3 - 1).toNat ≤ 7) ∧ ((0 ≤ σ (b + 14) (σ (b + 12) 3 - 1).toNat ∧ σ (b + 14) (σ (b + 12) 3 - 1).toNat < σ (b + 1) 6) ∧ σ (b + 14) (σ (b + 12) 3 - 1).toNat < 12) ∧ (-1000 ≤ σ (b + 15) (σ (b + 12) 3 - 1).toNat ∧ σ (b + 15) (σ (b + 12) 3 - 1).toNat ≤ 1000) ∧ (0 ≤ σ (b + 2) (σ (b + 14) (σ (b + 12) 3 - 1).toNat).toNat ∧ σ (b + 2) (σ (b + 14) (σ (b + 12) 3 - 1).toNat).toNat ≤ 999)) ∧ Ret none (q_back σ b)
  | _ => False
def tX8_takeBack_0 (X : Nat → zB) (Ret : zR) (L : zL) (st : List zV) (σ : zM) : Prop := (z_aload 0 (z_getr 8 12 2 0 (z_geti 2 3 (z_push 1 (z_isub (z_istore 1 (z_iload 1 (z_iflt (z_vret Ret) (z_iload 1 (z_push 60 (z_icge (z_vret Ret) (z_aload 0 (z_getr 8 1 6 0 (z_aload 0 (z_getr 8 12 2 0 (z_getr 2 2 100 60 (z_iload 1 (z_ald 0 (z_cv1 6 SX6_has (z_ifne (z_aload 0 (z_getr 8 12 2 0 (z_getr 2 2 100 60 (z_iload 1 (z_ald 0 (z_istore 2 (z_aload 0 (z_getr 8 12 2 0 (z_getr 2 3 100 60 (z_iload 1 (z_ald 0 (z_istore 3 (z_aload 0 (z_getr 8 12 2 0 (z_getr 2 1 100 60 (z_iload 1 (z_ald 0 (z_tsw 0 [(z_aload 0 (z_getr 8 1 6 0 (z_iload 2 (z_iload 3 (z_ineg (z_cv2 6 SX6_stretch (z_pop (z_goto (z_aload 0 (z_getr 8 12 2 0 (z_iload 1 (z_puti 2 3 (z_vret Ret))))))))))))), (z_aload 0 (z_getr 8 1 6 0 (z_iload 2 (z_iload 3 (z_ineg (z_cv2 6 SX6_stretch (z_pop (z_goto (z_aload 0 (z_getr 8 12 2 0 (z_iload 1 (z_puti 2 3 (z_vret Ret))))))))))))), (z_aload 0 (z_getr 8 1 6 0 (z_getr 6 3 100 12 (z_iload 2 (z_iload 3 (z_iast (z_goto (z_aload 0 (z_getr 8 12 2 0 (z_iload 1 (z_puti 2 3 (z_vret Ret)))))))))))), (z_aload 0 (z_getr 8 1 6 0 (z_getr 6 5 100 12 (z_iload 2 (z_iload 3 (z_iast (z_goto (z_aload 0 (z_getr 8 12 2 0 (z_iload 1 (z_puti 2 3 (z_vret Ret)))))))))))), (z_aload 0 (z_getr 8 1 6 0 (z_getr 6 5 100 12 (z_iload 2 (z_iload 3 (z_iast (z_goto (z_aload 0 (z_getr 8 12 2 0 (z_iload 1 (z_puti 2 3 (z_vret Ret)))))))))))), (z_aload 0 (z_getr 8 1 6 0 (z_getr 6 6 100 12 (z_iload 2 (z_iload 3 (z_iast (z_goto (z_aload 0 (z_getr 8 12 2 0 (z_iload 1 (z_puti 2 3 (z_vret Ret))))))))))))] (z_aload 0 (z_iload 3 (z_puti 8 6 (z_aload 0 (z_getr 8 12 2 0 (z_iload 1 (z_puti 2 3 (z_vret Ret)))))))))))))))))))))))))) (z_vret Ret))))))))))))))))))))) L st σ
theorem pX8_takeBack {as : List zV} {σ : zM} {Ret : zR} (h : SX8_takeBack as σ Ret) : ∃ (k0 : Nat), as = [.inr (.inr (8, 0, k0))] := by
  unfold SX8_takeBack at h
  split at h
  · exact ⟨_, rfl⟩
  · exact h.elim
set_option maxRecDepth 10000 in
set_option maxHeartbeats 4000000 in
theorem vX8_takeBack {X : Nat → zB} {Ret : zR} (h0 : ∀ L st σ, tX8_takeBack_0 X Ret L st σ → X 0 L st σ) (k0 : Nat) (σ : zM) (hk0 : z_kd k0 = (8, 0)) (hσ : z_okm σ) (h : SX8_takeBack [.inr (.inr (8, 0, k0))] σ Ret) : X 0 [some (.inr (.inr (8, 0, k0))), none, none, none] [] σ := by
  obtain ⟨⟨hc, ho, ht, hu, hl⟩, h⟩ := h
  simp only [q_back] at h
  generalize hlast : σ (k0 + 12) 3 - 1 = last at *
  generalize hoo : σ (k0 + 13) last.toNat = o at *
  generalize htt : σ (k0 + 14) last.toNat = t at *
  generalize huu : σ (k0 + 15) last.toNat = u at *
  have ht0 := ht.1.1
  obtain ⟨t, rfl⟩ := z_nat ht0
  have hlast1 : σ (k0 + 12) 3 = last + 1 := by omega
  simp only [Int.toNat_natCast] at hl h
  have hho : o = 0 ∨ o = 1 ∨ o = 2 ∨ o = 3 ∨ o = 4 ∨ o = 5 ∨ o = 6 ∨ o = 7 := by omega
  have l0 : last - 0 = last := by omega
  rcases hho with rfl | rfl | rfl | rfl | rfl | rfl | rfl | rfl
  all_goals
    refine h0 _ _ _ ?_
    simp only [z_push, z_lpush, z_iload, z_lload, z_aload, z_istore, z_istoreP, z_lstore, z_astore, z_iinc, z_iincP, z_iadd, z_isub, z_imul, z_iaddW, z_isubW, z_imulW, z_idiv, z_irem, z_iand, z_ior, z_ixor, z_ishl, z_ishr, z_iushr, z_ineg, z_i2l, z_i2b, z_i2s, z_i2c, z_l2i, z_ladd, z_lsub, z_land, z_lor, z_lshl, z_lshr, z_lcmp, z_dup, z_pop, z_dup2, z_goto, z_tsw, z_cases, z_geti, z_getr, z_puti, z_putz, z_ald, z_iast, z_bast, z_zast, z_alen, z_acopy, z_mmax, z_mmin, z_mabs, z_mabsL, z_iret, z_zret, z_nret, z_lret, z_aret, z_vret, z_cat, z_xald, z_xlen, z_ldcs, z_strv, z_strc, z_gcs, z_gfm, z_sln, z_sald, z_ifeq, z_ifne, z_iflt, z_ifge, z_ifgt, z_ifle, z_iceq, z_icne, z_iclt, z_icge, z_icgt, z_icle, z_cs0, z_cs1, z_cs2, z_cs3, z_cs4, z_cs5, z_cs6, z_cs7, z_cv0, z_cv1, z_cv2, z_cv3, z_cv4, z_cv5, z_cv6, z_cv7, z_g0, z_s0, z_g1, z_s1, z_g2, z_s2, z_g3, z_s3, z_g4, z_s4, z_g5, z_s5, z_g6, z_s6, z_g7, z_s7, z_g8, z_s8, z_g9, z_s9, z_g10, z_s10, z_g11, z_s11, z_g12, z_s12, z_g13, z_s13, z_b0, z_b1, z_b0n, z_b1n, z_up_far1, z_up_far2, z_up_far3, z_up_far4, z_up_far5, z_up_far6, Classical.not_not, not_true_eq_false, z_in, z_inL, Int.cast_ofNat_Int, Nat.reduceLeDiff, List.length_cons, List.length_nil, Nat.reduceAdd, Nat.zero_add, Nat.le_refl, true_and, and_true, List.length, Nat.reduceLT, true_or, or_true, false_or, or_false, false_and, and_false, not_true_eq_false, not_false_eq_true, forall_const, false_implies, true_implies, Int.reduceEq, Int.reduceLT, Int.reduceLE, Int.reduceAdd, Int.reduceSub, Int.reduceMul, Int.reduceNeg, Int.reduceToNat, Int.toNat_natCast, ↓reduceIte, reduceIte, Nat.reduceEqDiff, Nat.reduceSub, Nat.reduceMul, ne_eq, Int.zero_add, Int.add_zero, Int.sub_zero, Nat.add_zero, Int.ofNat_eq_natCast, tX8_takeBack_0, SX6_has, SX6_stretch, Nat.add_assoc, hlast, hoo, htt, huu, ht]
    repeat' (first | (intro _) | (with_reducible assumption) | (refine And.intro ?_ ?_))
    all_goals first | omega | assumption | (refine z_fin h ?_ rfl; first | rfl | omega | (split <;> omega) | (split <;> split <;> omega)) | skip
    all_goals exact h
theorem dX8_takeBack_0 : decode cX8_takeBack 0 = .ok (.aload_n 0, 1) := by decide +kernel
theorem dX8_takeBack_1 : decode cX8_takeBack 1 = .ok (.getfield 28, 3) := by decide +kernel
theorem dX8_takeBack_4 : decode cX8_takeBack 4 = .ok (.getfield 41, 3) := by decide +kernel
theorem dX8_takeBack_7 : decode cX8_takeBack 7 = .ok (.iconst 1, 1) := by decide +kernel
theorem dX8_takeBack_8 : decode cX8_takeBack 8 = .ok (.isub, 1) := by decide +kernel
theorem dX8_takeBack_9 : decode cX8_takeBack 9 = .ok (.istore_n 1, 1) := by decide +kernel
theorem dX8_takeBack_10 : decode cX8_takeBack 10 = .ok (.iload_n 1, 1) := by decide +kernel
theorem dX8_takeBack_11 : decode cX8_takeBack 11 = .ok (.ifCond .lt 28, 3) := by decide +kernel
theorem dX8_takeBack_14 : decode cX8_takeBack 14 = .ok (.iload_n 1, 1) := by decide +kernel
theorem dX8_takeBack_15 : decode cX8_takeBack 15 = .ok (.bipush 60, 2) := by decide +kernel
theorem dX8_takeBack_17 : decode cX8_takeBack 17 = .ok (.if_icmp .ge 22, 3) := by decide +kernel
theorem dX8_takeBack_20 : decode cX8_takeBack 20 = .ok (.aload_n 0, 1) := by decide +kernel
theorem dX8_takeBack_21 : decode cX8_takeBack 21 = .ok (.getfield 12, 3) := by decide +kernel
theorem dX8_takeBack_24 : decode cX8_takeBack 24 = .ok (.aload_n 0, 1) := by decide +kernel
theorem dX8_takeBack_25 : decode cX8_takeBack 25 = .ok (.getfield 28, 3) := by decide +kernel
theorem dX8_takeBack_28 : decode cX8_takeBack 28 = .ok (.getfield 112, 3) := by decide +kernel
theorem dX8_takeBack_31 : decode cX8_takeBack 31 = .ok (.iload_n 1, 1) := by decide +kernel
theorem dX8_takeBack_32 : decode cX8_takeBack 32 = .ok (.iaload, 1) := by decide +kernel
theorem dX8_takeBack_33 : decode cX8_takeBack 33 = .ok (.invokevirtual 71, 3) := by decide +kernel
theorem dX8_takeBack_36 : decode cX8_takeBack 36 = .ok (.ifCond .ne 4, 3) := by decide +kernel
theorem dX8_takeBack_39 : decode cX8_takeBack 39 = .ok (.return_, 1) := by decide +kernel
theorem dX8_takeBack_40 : decode cX8_takeBack 40 = .ok (.aload_n 0, 1) := by decide +kernel
theorem dX8_takeBack_41 : decode cX8_takeBack 41 = .ok (.getfield 28, 3) := by decide +kernel
theorem dX8_takeBack_44 : decode cX8_takeBack 44 = .ok (.getfield 112, 3) := by decide +kernel
theorem dX8_takeBack_47 : decode cX8_takeBack 47 = .ok (.iload_n 1, 1) := by decide +kernel
theorem dX8_takeBack_48 : decode cX8_takeBack 48 = .ok (.iaload, 1) := by decide +kernel
theorem dX8_takeBack_49 : decode cX8_takeBack 49 = .ok (.istore_n 2, 1) := by decide +kernel
theorem dX8_takeBack_50 : decode cX8_takeBack 50 = .ok (.aload_n 0, 1) := by decide +kernel
theorem dX8_takeBack_51 : decode cX8_takeBack 51 = .ok (.getfield 28, 3) := by decide +kernel
theorem dX8_takeBack_54 : decode cX8_takeBack 54 = .ok (.getfield 115, 3) := by decide +kernel
theorem dX8_takeBack_57 : decode cX8_takeBack 57 = .ok (.iload_n 1, 1) := by decide +kernel
theorem dX8_takeBack_58 : decode cX8_takeBack 58 = .ok (.iaload, 1) := by decide +kernel
theorem dX8_takeBack_59 : decode cX8_takeBack 59 = .ok (.istore_n 3, 1) := by decide +kernel
theorem dX8_takeBack_60 : decode cX8_takeBack 60 = .ok (.aload_n 0, 1) := by decide +kernel
theorem dX8_takeBack_61 : decode cX8_takeBack 61 = .ok (.getfield 28, 3) := by decide +kernel
theorem dX8_takeBack_64 : decode cX8_takeBack 64 = .ok (.getfield 109, 3) := by decide +kernel
theorem dX8_takeBack_67 : decode cX8_takeBack 67 = .ok (.iload_n 1, 1) := by decide +kernel
theorem dX8_takeBack_68 : decode cX8_takeBack 68 = .ok (.iaload, 1) := by decide +kernel
theorem dX8_takeBack_69 : decode cX8_takeBack 69 = .ok (.tableswitch 92 0 5 #[39, 39, 53, 66, 66, 79], 39) := by decide +kernel
theorem dX8_takeBack_108 : decode cX8_takeBack 108 = .ok (.aload_n 0, 1) := by decide +kernel
theorem dX8_takeBack_109 : decode cX8_takeBack 109 = .ok (.getfield 12, 3) := by decide +kernel
theorem dX8_takeBack_112 : decode cX8_takeBack 112 = .ok (.iload_n 2, 1) := by decide +kernel
theorem dX8_takeBack_113 : decode cX8_takeBack 113 = .ok (.iload_n 3, 1) := by decide +kernel
theorem dX8_takeBack_114 : decode cX8_takeBack 114 = .ok (.ineg, 1) := by decide +kernel
theorem dX8_takeBack_115 : decode cX8_takeBack 115 = .ok (.invokevirtual 122, 3) := by decide +kernel
theorem dX8_takeBack_118 : decode cX8_takeBack 118 = .ok (.pop, 1) := by decide +kernel
theorem dX8_takeBack_119 : decode cX8_takeBack 119 = .ok (.goto 47, 3) := by decide +kernel
theorem dX8_takeBack_122 : decode cX8_takeBack 122 = .ok (.aload_n 0, 1) := by decide +kernel
theorem dX8_takeBack_123 : decode cX8_takeBack 123 = .ok (.getfield 12, 3) := by decide +kernel
theorem dX8_takeBack_126 : decode cX8_takeBack 126 = .ok (.getfield 92, 3) := by decide +kernel
theorem dX8_takeBack_129 : decode cX8_takeBack 129 = .ok (.iload_n 2, 1) := by decide +kernel
theorem dX8_takeBack_130 : decode cX8_takeBack 130 = .ok (.iload_n 3, 1) := by decide +kernel
theorem dX8_takeBack_131 : decode cX8_takeBack 131 = .ok (.iastore, 1) := by decide +kernel
theorem dX8_takeBack_132 : decode cX8_takeBack 132 = .ok (.goto 34, 3) := by decide +kernel
theorem dX8_takeBack_135 : decode cX8_takeBack 135 = .ok (.aload_n 0, 1) := by decide +kernel
theorem dX8_takeBack_136 : decode cX8_takeBack 136 = .ok (.getfield 12, 3) := by decide +kernel
theorem dX8_takeBack_139 : decode cX8_takeBack 139 = .ok (.getfield 89, 3) := by decide +kernel
theorem dX8_takeBack_142 : decode cX8_takeBack 142 = .ok (.iload_n 2, 1) := by decide +kernel
theorem dX8_takeBack_143 : decode cX8_takeBack 143 = .ok (.iload_n 3, 1) := by decide +kernel
theorem dX8_takeBack_144 : decode cX8_takeBack 144 = .ok (.iastore, 1) := by decide +kernel
theorem dX8_takeBack_145 : decode cX8_takeBack 145 = .ok (.goto 21, 3) := by decide +kernel
theorem dX8_takeBack_148 : decode cX8_takeBack 148 = .ok (.aload_n 0, 1) := by decide +kernel
theorem dX8_takeBack_149 : decode cX8_takeBack 149 = .ok (.getfield 12, 3) := by decide +kernel
theorem dX8_takeBack_152 : decode cX8_takeBack 152 = .ok (.getfield 86, 3) := by decide +kernel
theorem dX8_takeBack_155 : decode cX8_takeBack 155 = .ok (.iload_n 2, 1) := by decide +kernel
theorem dX8_takeBack_156 : decode cX8_takeBack 156 = .ok (.iload_n 3, 1) := by decide +kernel
theorem dX8_takeBack_157 : decode cX8_takeBack 157 = .ok (.iastore, 1) := by decide +kernel
theorem dX8_takeBack_158 : decode cX8_takeBack 158 = .ok (.goto 8, 3) := by decide +kernel
theorem dX8_takeBack_161 : decode cX8_takeBack 161 = .ok (.aload_n 0, 1) := by decide +kernel
theorem dX8_takeBack_162 : decode cX8_takeBack 162 = .ok (.iload_n 3, 1) := by decide +kernel
theorem dX8_takeBack_163 : decode cX8_takeBack 163 = .ok (.putfield 48, 3) := by decide +kernel
theorem dX8_takeBack_166 : decode cX8_takeBack 166 = .ok (.aload_n 0, 1) := by decide +kernel
theorem dX8_takeBack_167 : decode cX8_takeBack 167 = .ok (.getfield 28, 3) := by decide +kernel
theorem dX8_takeBack_170 : decode cX8_takeBack 170 = .ok (.iload_n 1, 1) := by decide +kernel
theorem dX8_takeBack_171 : decode cX8_takeBack 171 = .ok (.putfield 41, 3) := by decide +kernel
theorem dX8_takeBack_174 : decode cX8_takeBack 174 = .ok (.return_, 1) := by decide +kernel
set_option maxRecDepth 100000 in
theorem rX8_takeBack_0 {zx : zX} {zn : Nat} {p : Program} {l : Launch} {e : Env} {s : State} {m : MethodId} {args : Array Value} {below : List Frame} {meth : Method} {c : Code} {D : va_G} {cA : Nat → ClassId} {ad : Nat → Nat} {Ret : zR} (C : z_Cx zx zn (z_A zn ad) 0 0 p { frames := 3, cells := 0, slots := 0, locals := 65 } s m args c cX8_takeBack yX8_takeBack.cls 4 D cA ad) (hr : meth.sig.returnType = none) (hlocks : meth.locks = false) : ∀ L st σ, tX8_takeBack_0 (z_X zx zn (z_A zn ad) 0 0 p l e { frames := 3, cells := 0, slots := 0, locals := 65 } s m args below meth c (MQ below (z_Qc zn D cA ad Ret) args s 0 0 (z_A zn ad)) 4 D cA ad true) Ret L st σ → z_X zx zn (z_A zn ad) 0 0 p l e { frames := 3, cells := 0, slots := 0, locals := 65 } s m args below meth c (MQ below (z_Qc zn D cA ad Ret) args s 0 0 (z_A zn ad)) 4 D cA ad true 0 L st σ := (s_aload_n C dX8_takeBack_0 rfl (s_getr C dX8_takeBack_1 (j := 2) cls_X8 (by decide) rfl (by decide) (by decide) (by decide +kernel) wd_199 (s_geti C dX8_takeBack_4 cls_X2 (by decide) rfl wd_180 (s_iconst C dX8_takeBack_7 rfl ⟨by decide, by decide⟩ (s_isub C dX8_takeBack_8 (s_istore_n C dX8_takeBack_9 (by decide) rfl rfl (s_iload_n C dX8_takeBack_10 rfl (s_iflt C dX8_takeBack_11 (by decide) (s_vret C dX8_takeBack_39 hr hlocks) (s_iload_n C dX8_takeBack_14 rfl (s_bipush C dX8_takeBack_15 rfl ⟨by decide, by decide⟩ (s_icge C dX8_takeBack_17 (by decide) (s_vret C dX8_takeBack_39 hr hlocks) (s_aload_n C dX8_takeBack_20 rfl (s_getr C dX8_takeBack_21 (j := 0) cls_X8 (by decide) rfl (by decide) (by decide) (by decide +kernel) wd_192 (s_aload_n C dX8_takeBack_24 rfl (s_getr C dX8_takeBack_25 (j := 2) cls_X8 (by decide) rfl (by decide) (by decide) (by decide +kernel) wd_199 (s_getr C dX8_takeBack_28 (j := 1) cls_X2 (by decide) rfl (by decide) (by decide) (by decide +kernel) wd_176 (s_iload_n C dX8_takeBack_31 rfl (s_iald C dX8_takeBack_32 (s_cv1 C dX8_takeBack_33 (okX6_has l) cls_X6 wd_457 wd_458 wd_459 wd_21 wd_460 ⟨by decide, by decide, by decide +kernel⟩ ⟨by decide, by decide⟩ (s_ifne C dX8_takeBack_36 (by decide) (s_aload_n C dX8_takeBack_40 rfl (s_getr C dX8_takeBack_41 (j := 2) cls_X8 (by decide) rfl (by decide) (by decide) (by decide +kernel) wd_199 (s_getr C dX8_takeBack_44 (j := 1) cls_X2 (by decide) rfl (by decide) (by decide) (by decide +kernel) wd_176 (s_iload_n C dX8_takeBack_47 rfl (s_iald C dX8_takeBack_48 (s_istore_n C dX8_takeBack_49 (by decide) rfl rfl (s_aload_n C dX8_takeBack_50 rfl (s_getr C dX8_takeBack_51 (j := 2) cls_X8 (by decide) rfl (by decide) (by decide) (by decide +kernel) wd_199 (s_getr C dX8_takeBack_54 (j := 2) cls_X2 (by decide) rfl (by decide) (by decide) (by decide +kernel) wd_178 (s_iload_n C dX8_takeBack_57 rfl (s_iald C dX8_takeBack_58 (s_istore_n C dX8_takeBack_59 (by decide) rfl rfl (s_aload_n C dX8_takeBack_60 rfl (s_getr C dX8_takeBack_61 (j := 2) cls_X8 (by decide) rfl (by decide) (by decide) (by decide +kernel) wd_199 (s_getr C dX8_takeBack_64 (j := 0) cls_X2 (by decide) rfl (by decide) (by decide) (by decide +kernel) wd_174 (s_iload_n C dX8_takeBack_67 rfl (s_iald C dX8_takeBack_68 (s_tsw C dX8_takeBack_69 (by decide) rfl (s_aload_n C dX8_takeBack_161 rfl (s_iload_n C dX8_takeBack_162 rfl (s_puti C dX8_takeBack_163 cls_X8 (by decide) rfl wd_207 rfl rfl (s_aload_n C dX8_takeBack_166 rfl (s_getr C dX8_takeBack_167 (j := 2) cls_X8 (by decide) rfl (by decide) (by decide) (by decide +kernel) wd_199 (s_iload_n C dX8_takeBack_170 rfl (s_puti C dX8_takeBack_171 cls_X2 (by decide) rfl wd_180 rfl rfl (s_vret C dX8_takeBack_174 hr hlocks)))))))) (fun i hi => match i, hi with | 0, _ => ⟨39, 108, _, rfl, by decide, rfl, (s_aload_n C dX8_takeBack_108 rfl (s_getr C dX8_takeBack_109 (j := 0) cls_X8 (by decide) rfl (by decide) (by decide) (by decide +kernel) wd_192 (s_iload_n C dX8_takeBack_112 rfl (s_iload_n C dX8_takeBack_113 rfl (s_ineg C dX8_takeBack_114 (s_cv2 C dX8_takeBack_115 (okX6_stretch l) cls_X6 wd_461 wd_462 wd_463 wd_21 wd_464 ⟨by decide, by decide, by decide +kernel⟩ ⟨by decide, by decide⟩ (s_pop C dX8_takeBack_118 (s_goto C dX8_takeBack_119 (by decide) (s_aload_n C dX8_takeBack_166 rfl (s_getr C dX8_takeBack_167 (j := 2) cls_X8 (by decide) rfl (by decide) (by decide) (by decide +kernel) wd_199 (s_iload_n C dX8_takeBack_170 rfl (s_puti C dX8_takeBack_171 cls_X2 (by decide) rfl wd_180 rfl rfl (s_vret C dX8_takeBack_174 hr hlocks)))))))))))))⟩ | 1, _ => ⟨39, 108, _, rfl, by decide, rfl, (s_aload_n C dX8_takeBack_108 rfl (s_getr C dX8_takeBack_109 (j := 0) cls_X8 (by decide) rfl (by decide) (by decide) (by decide +kernel) wd_192 (s_iload_n C dX8_takeBack_112 rfl (s_iload_n C dX8_takeBack_113 rfl (s_ineg C dX8_takeBack_114 (s_cv2 C dX8_takeBack_115 (okX6_stretch l) cls_X6 wd_461 wd_462 wd_463 wd_21 wd_464 ⟨by decide, by decide, by decide +kernel⟩ ⟨by decide, by decide⟩ (s_pop C dX8_takeBack_118 (s_goto C dX8_takeBack_119 (by decide) (s_aload_n C dX8_takeBack_166 rfl (s_getr C dX8_takeBack_167 (j := 2) cls_X8 (by decide) rfl (by decide) (by decide) (by decide +kernel) wd_199 (s_iload_n C dX8_takeBack_170 rfl (s_puti C dX8_takeBack_171 cls_X2 (by decide) rfl wd_180 rfl rfl (s_vret C dX8_takeBack_174 hr hlocks)))))))))))))⟩ | 2, _ => ⟨53, 122, _, rfl, by decide, rfl, (s_aload_n C dX8_takeBack_122 rfl (s_getr C dX8_takeBack_123 (j := 0) cls_X8 (by decide) rfl (by decide) (by decide) (by decide +kernel) wd_192 (s_getr C dX8_takeBack_126 (j := 2) cls_X6 (by decide) rfl (by decide) (by decide) (by decide +kernel) wd_113 (s_iload_n C dX8_takeBack_129 rfl (s_iload_n C dX8_takeBack_130 rfl (s_iast C dX8_takeBack_131 (s_goto C dX8_takeBack_132 (by decide) (s_aload_n C dX8_takeBack_166 rfl (s_getr C dX8_takeBack_167 (j := 2) cls_X8 (by decide) rfl (by decide) (by decide) (by decide +kernel) wd_199 (s_iload_n C dX8_takeBack_170 rfl (s_puti C dX8_takeBack_171 cls_X2 (by decide) rfl wd_180 rfl rfl (s_vret C dX8_takeBack_174 hr hlocks))))))))))))⟩ | 3, _ => ⟨66, 135, _, rfl, by decide, rfl, (s_aload_n C dX8_takeBack_135 rfl (s_getr C dX8_takeBack_136 (j := 0) cls_X8 (by decide) rfl (by decide) (by decide) (by decide +kernel) wd_192 (s_getr C dX8_takeBack_139 (j := 4) cls_X6 (by decide) rfl (by decide) (by decide) (by decide +kernel) wd_118 (s_iload_n C dX8_takeBack_142 rfl (s_iload_n C dX8_takeBack_143 rfl (s_iast C dX8_takeBack_144 (s_goto C dX8_takeBack_145 (by decide) (s_aload_n C dX8_takeBack_166 rfl (s_getr C dX8_takeBack_167 (j := 2) cls_X8 (by decide) rfl (by decide) (by decide) (by decide +kernel) wd_199 (s_iload_n C dX8_takeBack_170 rfl (s_puti C dX8_takeBack_171 cls_X2 (by decide) rfl wd_180 rfl rfl (s_vret C dX8_takeBack_174 hr hlocks))))))))))))⟩ | 4, _ => ⟨66, 135, _, rfl, by decide, rfl, (s_aload_n C dX8_takeBack_135 rfl (s_getr C dX8_takeBack_136 (j := 0) cls_X8 (by decide) rfl (by decide) (by decide) (by decide +kernel) wd_192 (s_getr C dX8_takeBack_139 (j := 4) cls_X6 (by decide) rfl (by decide) (by decide) (by decide +kernel) wd_118 (s_iload_n C dX8_takeBack_142 rfl (s_iload_n C dX8_takeBack_143 rfl (s_iast C dX8_takeBack_144 (s_goto C dX8_takeBack_145 (by decide) (s_aload_n C dX8_takeBack_166 rfl (s_getr C dX8_takeBack_167 (j := 2) cls_X8 (by decide) rfl (by decide) (by decide) (by decide +kernel) wd_199 (s_iload_n C dX8_takeBack_170 rfl (s_puti C dX8_takeBack_171 cls_X2 (by decide) rfl wd_180 rfl rfl (s_vret C dX8_takeBack_174 hr hlocks))))))))))))⟩ | 5, _ => ⟨79, 148, _, rfl, by decide, rfl, (s_aload_n C dX8_takeBack_148 rfl (s_getr C dX8_takeBack_149 (j := 0) cls_X8 (by decide) rfl (by decide) (by decide) (by decide +kernel) wd_192 (s_getr C dX8_takeBack_152 (j := 5) cls_X6 (by decide) rfl (by decide) (by decide) (by decide +kernel) wd_121 (s_iload_n C dX8_takeBack_155 rfl (s_iload_n C dX8_takeBack_156 rfl (s_iast C dX8_takeBack_157 (s_goto C dX8_takeBack_158 (by decide) (s_aload_n C dX8_takeBack_166 rfl (s_getr C dX8_takeBack_167 (j := 2) cls_X8 (by decide) rfl (by decide) (by decide) (by decide +kernel) wd_199 (s_iload_n C dX8_takeBack_170 rfl (s_puti C dX8_takeBack_171 cls_X2 (by decide) rfl wd_180 rfl rfl (s_vret C dX8_takeBack_174 hr hlocks))))))))))))⟩) ⟨by decide, by decide⟩ ⟨by decide, by decide⟩)))))))))))))))))) (s_vret C dX8_takeBack_39 hr hlocks)))))))))))))))))))))
theorem okX8_takeBack {zx : zX} {zn : Nat} (l : Launch) : z_OK zx zn l yX8_takeBack cX8_takeBack 4 none 3 65 SX8_takeBack := by
  refine z_ok_of true (by decide +kernel) ?_ ?_
  · intro as σ Ret h
    obtain ⟨k0, rfl⟩ := pX8_takeBack h
    exact ⟨Nat.le_of_ble_eq_true rfl, by simp⟩
  · intro p e s m args below meth c D cA ad Ret C hr hlocks as σ has hσ h
    obtain ⟨k0, rfl⟩ := pX8_takeBack h
    exact vX8_takeBack (rX8_takeBack_0 C hr hlocks) k0 σ (has _ (List.mem_of_getElem? (i := 0) rfl)).1 hσ h
