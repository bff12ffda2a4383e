/-! the model's small methods, on -/
def SX10_isTree : zS := fun as σ Ret => match as with
  | [.inr (.inr (10, 0, k)), .inl t] => (0 ≤ σ (k + 4) 0 ∧ σ (k + 4) 0 ≤ 12) ∧ Ret (some (.inl (if 0 ≤ t ∧ t < σ (k + 4) 0 then 1 else 0))) σ
  | _ => False
def tX10_isTree_0 (X : Nat → zB) (Ret : zR) (L : zL) (st : List zV) (σ : zM) : Prop := (z_iload 1 (z_i2l (z_lpush 0 (z_aload 0 (z_getr 10 4 100 106 (z_push 0 (z_ald 0 (z_push 1 (z_isub (z_i2l (z_cs3 SX10_in (z_zret Ret)))))))))))) L st σ
theorem pX10_isTree {as : List zV} {σ : zM} {Ret : zR} (h : SX10_isTree as σ Ret) : ∃ (k0 : Nat) (x1 : Int), as = [.inr (.inr (10, 0, k0)), .inl x1] := by
  unfold SX10_isTree at h
  split at h
  · exact ⟨_, _, rfl⟩
  · exact h.elim
set_option maxRecDepth 10000 in
set_option maxHeartbeats 4000000 in
theorem vX10_isTree {X : Nat → zB} {Ret : zR} (h0 : ∀ L st σ, tX10_isTree_0 X Ret L st σ → X 0 L st σ) (k0 : Nat) (x1 : Int) (σ : zM) (hk0 : z_kd k0 = (10, 0)) (hx1 : -2147483648 ≤ x1 ∧ x1 ≤ 2147483647) (hσ : z_okm σ) (h : SX10_isTree [.inr (.inr (10, 0, k0)), .inl x1] σ Ret) : X 0 [some (.inr (.inr (10, 0, k0))), some (.inl x1)] [] σ := by
  obtain ⟨hc, h⟩ := h
  refine h0 _ _ _ ?_
  simp only [z_push, z_lpush, z_iload, z_lload, z_aload, z_istore, z_istoreP, z_lstore, z_astore, z_iinc, z_iincP, z_iadd, z_isub, z_imul, z_iaddW, z_isubW, z_imulW, z_idiv, z_irem, z_iand, z_ior, z_ixor, z_ishl, z_ishr, z_iushr, z_ineg, z_i2l, z_i2b, z_i2s, z_i2c, z_l2i, z_ladd, z_lsub, z_land, z_lor, z_lshl, z_lshr, z_lcmp, z_dup, z_pop, z_dup2, z_goto, z_tsw, z_cases, z_geti, z_getr, z_puti, z_putz, z_ald, z_iast, z_bast, z_zast, z_alen, z_acopy, z_mmax, z_mmin, z_mabs, z_mabsL, z_iret, z_zret, z_nret, z_lret, z_aret, z_vret, z_cat, z_ldcs, z_strv, z_strc, z_gcs, z_gfm, z_sln, z_sald, z_ifeq, z_ifne, z_iflt, z_ifge, z_ifgt, z_ifle, z_iceq, z_icne, z_iclt, z_icge, z_icgt, z_icle, z_cs0, z_cs1, z_cs2, z_cs3, z_cs4, z_cs5, z_cs6, z_cs7, z_cv0, z_cv1, z_cv2, z_cv3, z_cv4, z_cv5, z_cv6, z_cv7, z_g0, z_s0, z_g1, z_s1, z_g2, z_s2, z_g3, z_s3, z_g4, z_s4, z_g5, z_s5, z_g6, z_s6, z_g7, z_s7, z_g8, z_s8, z_g9, z_s9, z_g10, z_s10, z_g11, z_s11, z_g12, z_s12, z_g13, z_s13, z_b0, z_b1, z_b0n, z_b1n, z_up_far1, z_up_far2, z_up_far3, z_up_far4, z_up_far5, z_up_far6, Classical.not_not, not_true_eq_false, z_in, z_inL, Int.cast_ofNat_Int, Nat.reduceLeDiff, List.length_cons, List.length_nil, Nat.reduceAdd, Nat.zero_add, Nat.le_refl, true_and, and_true, List.length, Nat.reduceLT, true_or, or_true, false_or, or_false, false_and, and_false, not_true_eq_false, not_false_eq_true, forall_const, false_implies, true_implies, Int.reduceEq, Int.reduceLT, Int.reduceLE, Int.reduceAdd, Int.reduceSub, Int.reduceMul, Int.reduceNeg, Int.reduceToNat, Int.toNat_natCast, ↓reduceIte, reduceIte, Nat.reduceEqDiff, Nat.reduceSub, Nat.reduceMul, ne_eq, Int.zero_add, Int.add_zero, Int.sub_zero, Nat.add_zero, Int.ofNat_eq_natCast, tX10_isTree_0, SX10_in]
  have e : (if 0 ≤ x1 ∧ x1 ≤ σ (k0 + 4) 0 - 1 then (1 : Int) else 0) = if 0 ≤ x1 ∧ x1 < σ (k0 + 4) 0 then 1 else 0 := by
    by_cases c : 0 ≤ x1 ∧ x1 < σ (k0 + 4) 0
    · rw [if_pos c, if_pos (by omega)]
    · rw [if_neg c, if_neg (by omega)]
  rw [e]
  exact fun _ => ⟨by omega, by omega, h⟩
theorem dX10_isTree_0 : decode cX10_isTree 0 = .ok (.iload_n 1, 1) := by decide +kernel
theorem dX10_isTree_1 : decode cX10_isTree 1 = .ok (.i2l, 1) := by decide +kernel
theorem dX10_isTree_2 : decode cX10_isTree 2 = .ok (.lconst 0, 1) := by decide +kernel
theorem dX10_isTree_3 : decode cX10_isTree 3 = .ok (.aload_n 0, 1) := by decide +kernel
theorem dX10_isTree_4 : decode cX10_isTree 4 = .ok (.getfield 19, 3) := by decide +kernel
theorem dX10_isTree_7 : decode cX10_isTree 7 = .ok (.iconst 0, 1) := by decide +kernel
theorem dX10_isTree_8 : decode cX10_isTree 8 = .ok (.iaload, 1) := by decide +kernel
theorem dX10_isTree_9 : decode cX10_isTree 9 = .ok (.iconst 1, 1) := by decide +kernel
theorem dX10_isTree_10 : decode cX10_isTree 10 = .ok (.isub, 1) := by decide +kernel
theorem dX10_isTree_11 : decode cX10_isTree 11 = .ok (.i2l, 1) := by decide +kernel
theorem dX10_isTree_12 : decode cX10_isTree 12 = .ok (.invokestatic 75, 3) := by decide +kernel
theorem dX10_isTree_15 : decode cX10_isTree 15 = .ok (.ireturn, 1) := by decide +kernel
set_option maxRecDepth 100000 in
theorem rX10_isTree_0 {p : Program} {l : Launch} {e : Env} {s : State} {m : MethodId} {args : Array Value} {below : List Frame} {meth : Method} {c : Code} {D : va_G} {cA : Nat → ClassId} {ad : Nat → Nat} {Ret : zR} (C : z_Cx p { frames := 1, cells := 0, slots := 0, locals := 25 } s m args c cX10_isTree yX10_isTree.cls 2 D cA ad) (hr : meth.sig.returnType = (some .boolean)) (hlocks : meth.locks = false) : ∀ L st σ, tX10_isTree_0 (z_X p l e { frames := 1, cells := 0, slots := 0, locals := 25 } s m args below meth c (MQ below (z_Qc D cA ad Ret) args s 0 0 (z_A ad)) 2 D cA ad true) Ret L st σ → z_X p l e { frames := 1, cells := 0, slots := 0, locals := 25 } s m args below meth c (MQ below (z_Qc D cA ad Ret) args s 0 0 (z_A ad)) 2 D cA ad true 0 L st σ := (s_iload_n C dX10_isTree_0 rfl (s_i2l C dX10_isTree_1 (s_lconst C dX10_isTree_2 (v := 0) rfl ⟨by decide, by decide⟩ (s_aload_n C dX10_isTree_3 rfl (s_getr C dX10_isTree_4 (j := 5) cls_X10 (by decide) rfl (by decide) (by decide) (by decide +kernel) wd_973 (s_iconst C dX10_isTree_7 rfl ⟨by decide, by decide⟩ (s_iald C dX10_isTree_8 (s_iconst C dX10_isTree_9 rfl ⟨by decide, by decide⟩ (s_isub C dX10_isTree_10 (s_i2l C dX10_isTree_11 (s_cs3 C dX10_isTree_12 (okX10_in l) wd_1082 wd_1083 wd_85 wd_1084 ⟨by decide, by decide, by decide +kernel⟩ ⟨by decide, by decide⟩ (s_zret C dX10_isTree_15 hr ⟨rfl, rfl⟩ hlocks))))))))))))
theorem okX10_isTree (l : Launch) : z_OK l yX10_isTree cX10_isTree 2 (some .boolean) 1 25 SX10_isTree := by
  refine z_ok_of true (by decide +kernel) ?_ ?_
  · intro as σ Ret h
    obtain ⟨k0, x1, rfl⟩ := pX10_isTree h
    exact ⟨Nat.le_of_ble_eq_true rfl, by simp⟩
  · intro p e s m args below meth c D cA ad Ret C hr hlocks as σ has hσ h
    obtain ⟨k0, x1, rfl⟩ := pX10_isTree h
    exact vX10_isTree (rX10_isTree_0 C hr hlocks) k0 x1 σ (has _ (List.mem_of_getElem? (i := 0) rfl)) (has _ (List.mem_of_getElem? (i := 1) rfl)) hσ h
def SX10_isWind : zS := fun as σ Ret => match as with
  | [.inr (.inr (10, 0, k)), .inl t] => (0 ≤ σ (k + 4) 1 ∧ σ (k + 4) 1 ≤ 6) ∧ Ret (some (.inl (if 0 ≤ t ∧ t < σ (k + 4) 1 then 1 else 0))) σ
  | _ => False
def tX10_isWind_0 (X : Nat → zB) (Ret : zR) (L : zL) (st : List zV) (σ : zM) : Prop := (z_iload 1 (z_i2l (z_lpush 0 (z_aload 0 (z_getr 10 4 100 106 (z_push 1 (z_ald 0 (z_push 1 (z_isub (z_i2l (z_cs3 SX10_in (z_zret Ret)))))))))))) L st σ
theorem pX10_isWind {as : List zV} {σ : zM} {Ret : zR} (h : SX10_isWind as σ Ret) : ∃ (k0 : Nat) (x1 : Int), as = [.inr (.inr (10, 0, k0)), .inl x1] := by
  unfold SX10_isWind at h
  split at h
  · exact ⟨_, _, rfl⟩
  · exact h.elim
set_option maxRecDepth 10000 in
set_option maxHeartbeats 4000000 in
theorem vX10_isWind {X : Nat → zB} {Ret : zR} (h0 : ∀ L st σ, tX10_isWind_0 X Ret L st σ → X 0 L st σ) (k0 : Nat) (x1 : Int) (σ : zM) (hk0 : z_kd k0 = (10, 0)) (hx1 : -2147483648 ≤ x1 ∧ x1 ≤ 2147483647) (hσ : z_okm σ) (h : SX10_isWind [.inr (.inr (10, 0, k0)), .inl x1] σ Ret) : X 0 [some (.inr (.inr (10, 0, k0))), some (.inl x1)] [] σ := by
  obtain ⟨hc, h⟩ := h
  refine h0 _ _ _ ?_
  simp only [z_push, z_lpush, z_iload, z_lload, z_aload, z_istore, z_istoreP, z_lstore, z_astore, z_iinc, z_iincP, z_iadd, z_isub, z_imul, z_iaddW, z_isubW, z_imulW, z_idiv, z_irem, z_iand, z_ior, z_ixor, z_ishl, z_ishr, z_iushr, z_ineg, z_i2l, z_i2b, z_i2s, z_i2c, z_l2i, z_ladd, z_lsub, z_land, z_lor, z_lshl, z_lshr, z_lcmp, z_dup, z_pop, z_dup2, z_goto, z_tsw, z_cases, z_geti, z_getr, z_puti, z_putz, z_ald, z_iast, z_bast, z_zast, z_alen, z_acopy, z_mmax, z_mmin, z_mabs, z_mabsL, z_iret, z_zret, z_nret, z_lret, z_aret, z_vret, z_cat, z_ldcs, z_strv, z_strc, z_gcs, z_gfm, z_sln, z_sald, z_ifeq, z_ifne, z_iflt, z_ifge, z_ifgt, z_ifle, z_iceq, z_icne, z_iclt, z_icge, z_icgt, z_icle, z_cs0, z_cs1, z_cs2, z_cs3, z_cs4, z_cs5, z_cs6, z_cs7, z_cv0, z_cv1, z_cv2, z_cv3, z_cv4, z_cv5, z_cv6, z_cv7, z_g0, z_s0, z_g1, z_s1, z_g2, z_s2, z_g3, z_s3, z_g4, z_s4, z_g5, z_s5, z_g6, z_s6, z_g7, z_s7, z_g8, z_s8, z_g9, z_s9, z_g10, z_s10, z_g11, z_s11, z_g12, z_s12, z_g13, z_s13, z_b0, z_b1, z_b0n, z_b1n, z_up_far1, z_up_far2, z_up_far3, z_up_far4, z_up_far5, z_up_far6, Classical.not_not, not_true_eq_false, z_in, z_inL, Int.cast_ofNat_Int, Nat.reduceLeDiff, List.length_cons, List.length_nil, Nat.reduceAdd, Nat.zero_add, Nat.le_refl, true_and, and_true, List.length, Nat.reduceLT, true_or, or_true, false_or, or_false, false_and, and_false, not_true_eq_false, not_false_eq_true, forall_const, false_implies, true_implies, Int.reduceEq, Int.reduceLT, Int.reduceLE, Int.reduceAdd, Int.reduceSub, Int.reduceMul, Int.reduceNeg, Int.reduceToNat, Int.toNat_natCast, ↓reduceIte, reduceIte, Nat.reduceEqDiff, Nat.reduceSub, Nat.reduceMul, ne_eq, Int.zero_add, Int.add_zero, Int.sub_zero, Nat.add_zero, Int.ofNat_eq_natCast, tX10_isWind_0, SX10_in]
  have e : (if 0 ≤ x1 ∧ x1 ≤ σ (k0 + 4) 1 - 1 then (1 : Int) else 0) = if 0 ≤ x1 ∧ x1 < σ (k0 + 4) 1 then 1 else 0 := by
    by_cases c : 0 ≤ x1 ∧ x1 < σ (k0 + 4) 1
    · rw [if_pos c, if_pos (by omega)]
    · rw [if_neg c, if_neg (by omega)]
  rw [e]
  exact fun _ => ⟨by omega, by omega, h⟩
theorem dX10_isWind_0 : decode cX10_isWind 0 = .ok (.iload_n 1, 1) := by decide +kernel
theorem dX10_isWind_1 : decode cX10_isWind 1 = .ok (.i2l, 1) := by decide +kernel
theorem dX10_isWind_2 : decode cX10_isWind 2 = .ok (.lconst 0, 1) := by decide +kernel
theorem dX10_isWind_3 : decode cX10_isWind 3 = .ok (.aload_n 0, 1) := by decide +kernel
theorem dX10_isWind_4 : decode cX10_isWind 4 = .ok (.getfield 19, 3) := by decide +kernel
theorem dX10_isWind_7 : decode cX10_isWind 7 = .ok (.iconst 1, 1) := by decide +kernel
theorem dX10_isWind_8 : decode cX10_isWind 8 = .ok (.iaload, 1) := by decide +kernel
theorem dX10_isWind_9 : decode cX10_isWind 9 = .ok (.iconst 1, 1) := by decide +kernel
theorem dX10_isWind_10 : decode cX10_isWind 10 = .ok (.isub, 1) := by decide +kernel
theorem dX10_isWind_11 : decode cX10_isWind 11 = .ok (.i2l, 1) := by decide +kernel
theorem dX10_isWind_12 : decode cX10_isWind 12 = .ok (.invokestatic 75, 3) := by decide +kernel
theorem dX10_isWind_15 : decode cX10_isWind 15 = .ok (.ireturn, 1) := by decide +kernel
set_option maxRecDepth 100000 in
theorem rX10_isWind_0 {p : Program} {l : Launch} {e : Env} {s : State} {m : MethodId} {args : Array Value} {below : List Frame} {meth : Method} {c : Code} {D : va_G} {cA : Nat → ClassId} {ad : Nat → Nat} {Ret : zR} (C : z_Cx p { frames := 1, cells := 0, slots := 0, locals := 25 } s m args c cX10_isWind yX10_isWind.cls 2 D cA ad) (hr : meth.sig.returnType = (some .boolean)) (hlocks : meth.locks = false) : ∀ L st σ, tX10_isWind_0 (z_X p l e { frames := 1, cells := 0, slots := 0, locals := 25 } s m args below meth c (MQ below (z_Qc D cA ad Ret) args s 0 0 (z_A ad)) 2 D cA ad true) Ret L st σ → z_X p l e { frames := 1, cells := 0, slots := 0, locals := 25 } s m args below meth c (MQ below (z_Qc D cA ad Ret) args s 0 0 (z_A ad)) 2 D cA ad true 0 L st σ := (s_iload_n C dX10_isWind_0 rfl (s_i2l C dX10_isWind_1 (s_lconst C dX10_isWind_2 (v := 0) rfl ⟨by decide, by decide⟩ (s_aload_n C dX10_isWind_3 rfl (s_getr C dX10_isWind_4 (j := 5) cls_X10 (by decide) rfl (by decide) (by decide) (by decide +kernel) wd_973 (s_iconst C dX10_isWind_7 rfl ⟨by decide, by decide⟩ (s_iald C dX10_isWind_8 (s_iconst C dX10_isWind_9 rfl ⟨by decide, by decide⟩ (s_isub C dX10_isWind_10 (s_i2l C dX10_isWind_11 (s_cs3 C dX10_isWind_12 (okX10_in l) wd_1082 wd_1083 wd_85 wd_1084 ⟨by decide, by decide, by decide +kernel⟩ ⟨by decide, by decide⟩ (s_zret C dX10_isWind_15 hr ⟨rfl, rfl⟩ hlocks))))))))))))
theorem okX10_isWind (l : Launch) : z_OK l yX10_isWind cX10_isWind 2 (some .boolean) 1 25 SX10_isWind := by
  refine z_ok_of true (by decide +kernel) ?_ ?_
  · intro as σ Ret h
    obtain ⟨k0, x1, rfl⟩ := pX10_isWind h
    exact ⟨Nat.le_of_ble_eq_true rfl, by simp⟩
  · intro p e s m args below meth c D cA ad Ret C hr hlocks as σ has hσ h
    obtain ⟨k0, x1, rfl⟩ := pX10_isWind h
    exact vX10_isWind (rX10_isWind_0 C hr hlocks) k0 x1 σ (has _ (List.mem_of_getElem? (i := 0) rfl)) (has _ (List.mem_of_getElem? (i := 1) rfl)) hσ h
def SX10_isLetter : zS := fun as σ Ret => match as with
  | [.inl a] => Ret (some (.inl (if 97 ≤ a ∧ a ≤ 122 then 1 else 0))) σ
  | _ => False
def tX10_isLetter_0 (X : Nat → zB) (Ret : zR) (L : zL) (st : List zV) (σ : zM) : Prop := (z_iload 0 (z_push 97 (z_iclt (z_push 0 (z_zret Ret)) (z_iload 0 (z_push 122 (z_icgt (z_push 0 (z_zret Ret)) (z_push 1 (z_goto (z_zret Ret))))))))) L st σ
theorem pX10_isLetter {as : List zV} {σ : zM} {Ret : zR} (h : SX10_isLetter as σ Ret) : ∃ (x1 : Int), as = [.inl x1] := by
  unfold SX10_isLetter at h
  split at h
  · exact ⟨_, rfl⟩
  · exact h.elim
set_option maxRecDepth 10000 in
set_option maxHeartbeats 4000000 in
theorem vX10_isLetter {X : Nat → zB} {Ret : zR} (h0 : ∀ L st σ, tX10_isLetter_0 X Ret L st σ → X 0 L st σ) (x1 : Int) (σ : zM) (hx1 : -2147483648 ≤ x1 ∧ x1 ≤ 2147483647) (hσ : z_okm σ) (h : SX10_isLetter [.inl x1] σ Ret) : X 0 [some (.inl x1)] [] σ := by
  refine h0 _ _ _ ?_
  simp only [SX10_isLetter] at h
  simp only [z_push, z_lpush, z_iload, z_lload, z_aload, z_istore, z_istoreP, z_lstore, z_astore, z_iinc, z_iincP, z_iadd, z_isub, z_imul, z_iaddW, z_isubW, z_imulW, z_idiv, z_irem, z_iand, z_ior, z_ixor, z_ishl, z_ishr, z_iushr, z_ineg, z_i2l, z_i2b, z_i2s, z_i2c, z_l2i, z_ladd, z_lsub, z_land, z_lor, z_lshl, z_lshr, z_lcmp, z_dup, z_pop, z_dup2, z_goto, z_tsw, z_cases, z_geti, z_getr, z_puti, z_putz, z_ald, z_iast, z_bast, z_zast, z_alen, z_acopy, z_mmax, z_mmin, z_mabs, z_mabsL, z_iret, z_zret, z_nret, z_lret, z_aret, z_vret, z_cat, z_ldcs, z_strv, z_strc, z_gcs, z_gfm, z_sln, z_sald, z_ifeq, z_ifne, z_iflt, z_ifge, z_ifgt, z_ifle, z_iceq, z_icne, z_iclt, z_icge, z_icgt, z_icle, z_cs0, z_cs1, z_cs2, z_cs3, z_cs4, z_cs5, z_cs6, z_cs7, z_cv0, z_cv1, z_cv2, z_cv3, z_cv4, z_cv5, z_cv6, z_cv7, z_g0, z_s0, z_g1, z_s1, z_g2, z_s2, z_g3, z_s3, z_g4, z_s4, z_g5, z_s5, z_g6, z_s6, z_g7, z_s7, z_g8, z_s8, z_g9, z_s9, z_g10, z_s10, z_g11, z_s11, z_g12, z_s12, z_g13, z_s13, z_b0, z_b1, z_b0n, z_b1n, z_up_far1, z_up_far2, z_up_far3, z_up_far4, z_up_far5, z_up_far6, Classical.not_not, not_true_eq_false, z_in, z_inL, Int.cast_ofNat_Int, Nat.reduceLeDiff, List.length_cons, List.length_nil, Nat.reduceAdd, Nat.zero_add, Nat.le_refl, true_and, and_true, List.length, Nat.reduceLT, true_or, or_true, false_or, or_false, false_and, and_false, not_true_eq_false, not_false_eq_true, forall_const, false_implies, true_implies, Int.reduceEq, Int.reduceLT, Int.reduceLE, Int.reduceAdd, Int.reduceSub, Int.reduceMul, Int.reduceNeg, Int.reduceToNat, Int.toNat_natCast, ↓reduceIte, reduceIte, Nat.reduceEqDiff, Nat.reduceSub, Nat.reduceMul, ne_eq, Int.zero_add, Int.add_zero, Int.sub_zero, Nat.add_zero, Int.ofNat_eq_natCast, tX10_isLetter_0]
  by_cases c : 97 ≤ x1 ∧ x1 ≤ 122
  · rw [if_pos c] at h
    repeat' (first | (intro _) | (with_reducible assumption) | (refine And.intro ?_ ?_))
    all_goals first | omega | assumption | (refine z_fin h ?_ rfl; first | rfl | omega | (split <;> omega) | (split <;> split <;> omega)) | skip
  · rw [if_neg c] at h
    repeat' (first | (intro _) | (with_reducible assumption) | (refine And.intro ?_ ?_))
    all_goals first | omega | assumption | (refine z_fin h ?_ rfl; first | rfl | omega | (split <;> omega) | (split <;> split <;> omega)) | skip
theorem dX10_isLetter_0 : decode cX10_isLetter 0 = .ok (.iload_n 0, 1) := by decide +kernel
theorem dX10_isLetter_1 : decode cX10_isLetter 1 = .ok (.bipush 97, 2) := by decide +kernel
theorem dX10_isLetter_3 : decode cX10_isLetter 3 = .ok (.if_icmp .lt 13, 3) := by decide +kernel
theorem dX10_isLetter_6 : decode cX10_isLetter 6 = .ok (.iload_n 0, 1) := by decide +kernel
theorem dX10_isLetter_7 : decode cX10_isLetter 7 = .ok (.bipush 122, 2) := by decide +kernel
theorem dX10_isLetter_9 : decode cX10_isLetter 9 = .ok (.if_icmp .gt 7, 3) := by decide +kernel
theorem dX10_isLetter_12 : decode cX10_isLetter 12 = .ok (.iconst 1, 1) := by decide +kernel
theorem dX10_isLetter_13 : decode cX10_isLetter 13 = .ok (.goto 4, 3) := by decide +kernel
theorem dX10_isLetter_16 : decode cX10_isLetter 16 = .ok (.iconst 0, 1) := by decide +kernel
theorem dX10_isLetter_17 : decode cX10_isLetter 17 = .ok (.ireturn, 1) := by decide +kernel
set_option maxRecDepth 100000 in
theorem rX10_isLetter_0 {p : Program} {l : Launch} {e : Env} {s : State} {m : MethodId} {args : Array Value} {below : List Frame} {meth : Method} {c : Code} {D : va_G} {cA : Nat → ClassId} {ad : Nat → Nat} {Ret : zR} (C : z_Cx p { frames := 0, cells := 0, slots := 0, locals := 0 } s m args c cX10_isLetter yX10_isLetter.cls 1 D cA ad) (hr : meth.sig.returnType = (some .boolean)) (hlocks : meth.locks = false) : ∀ L st σ, tX10_isLetter_0 (z_X p l e { frames := 0, cells := 0, slots := 0, locals := 0 } s m args below meth c (MQ below (z_Qc D cA ad Ret) args s 0 0 (z_A ad)) 1 D cA ad true) Ret L st σ → z_X p l e { frames := 0, cells := 0, slots := 0, locals := 0 } s m args below meth c (MQ below (z_Qc D cA ad Ret) args s 0 0 (z_A ad)) 1 D cA ad true 0 L st σ := (s_iload_n C dX10_isLetter_0 rfl (s_bipush C dX10_isLetter_1 rfl ⟨by decide, by decide⟩ (s_iclt C dX10_isLetter_3 (by decide) (s_iconst C dX10_isLetter_16 rfl ⟨by decide, by decide⟩ (s_zret C dX10_isLetter_17 hr ⟨rfl, rfl⟩ hlocks)) (s_iload_n C dX10_isLetter_6 rfl (s_bipush C dX10_isLetter_7 rfl ⟨by decide, by decide⟩ (s_icgt C dX10_isLetter_9 (by decide) (s_iconst C dX10_isLetter_16 rfl ⟨by decide, by decide⟩ (s_zret C dX10_isLetter_17 hr ⟨rfl, rfl⟩ hlocks)) (s_iconst C dX10_isLetter_12 rfl ⟨by decide, by decide⟩ (s_goto C dX10_isLetter_13 (by decide) (s_zret C dX10_isLetter_17 hr ⟨rfl, rfl⟩ hlocks)))))))))
theorem okX10_isLetter (l : Launch) : z_OK l yX10_isLetter cX10_isLetter 1 (some .boolean) 0 0 SX10_isLetter := by
  refine z_ok_of true (by decide +kernel) ?_ ?_
  · intro as σ Ret h
    obtain ⟨x1, rfl⟩ := pX10_isLetter h
    exact ⟨Nat.le_of_ble_eq_true rfl, by simp⟩
  · intro p e s m args below meth c D cA ad Ret C hr hlocks as σ has hσ h
    obtain ⟨x1, rfl⟩ := pX10_isLetter h
    exact vX10_isLetter (rX10_isLetter_0 C hr hlocks) x1 σ (has _ (List.mem_of_getElem? (i := 0) rfl)) hσ h
def SX10_isFigure : zS := fun as σ Ret => match as with
  | [.inl a] => Ret (some (.inl (if 48 ≤ a ∧ a ≤ 57 then 1 else 0))) σ
  | _ => False
def tX10_isFigure_0 (X : Nat → zB) (Ret : zR) (L : zL) (st : List zV) (σ : zM) : Prop := (z_iload 0 (z_push 48 (z_iclt (z_push 0 (z_zret Ret)) (z_iload 0 (z_push 57 (z_icgt (z_push 0 (z_zret Ret)) (z_push 1 (z_goto (z_zret Ret))))))))) L st σ
theorem pX10_isFigure {as : List zV} {σ : zM} {Ret : zR} (h : SX10_isFigure as σ Ret) : ∃ (x1 : Int), as = [.inl x1] := by
  unfold SX10_isFigure at h
  split at h
  · exact ⟨_, rfl⟩
  · exact h.elim
set_option maxRecDepth 10000 in
set_option maxHeartbeats 4000000 in
theorem vX10_isFigure {X : Nat → zB} {Ret : zR} (h0 : ∀ L st σ, tX10_isFigure_0 X Ret L st σ → X 0 L st σ) (x1 : Int) (σ : zM) (hx1 : -2147483648 ≤ x1 ∧ x1 ≤ 2147483647) (hσ : z_okm σ) (h : SX10_isFigure [.inl x1] σ Ret) : X 0 [some (.inl x1)] [] σ := by
  refine h0 _ _ _ ?_
  simp only [SX10_isFigure] at h
  simp only [z_push, z_lpush, z_iload, z_lload, z_aload, z_istore, z_istoreP, z_lstore, z_astore, z_iinc, z_iincP, z_iadd, z_isub, z_imul, z_iaddW, z_isubW, z_imulW, z_idiv, z_irem, z_iand, z_ior, z_ixor, z_ishl, z_ishr, z_iushr, z_ineg, z_i2l, z_i2b, z_i2s, z_i2c, z_l2i, z_ladd, z_lsub, z_land, z_lor, z_lshl, z_lshr, z_lcmp, z_dup, z_pop, z_dup2, z_goto, z_tsw, z_cases, z_geti, z_getr, z_puti, z_putz, z_ald, z_iast, z_bast, z_zast, z_alen, z_acopy, z_mmax, z_mmin, z_mabs, z_mabsL, z_iret, z_zret, z_nret, z_lret, z_aret, z_vret, z_cat, z_ldcs, z_strv, z_strc, z_gcs, z_gfm, z_sln, z_sald, z_ifeq, z_ifne, z_iflt, z_ifge, z_ifgt, z_ifle, z_iceq, z_icne, z_iclt, z_icge, z_icgt, z_icle, z_cs0, z_cs1, z_cs2, z_cs3, z_cs4, z_cs5, z_cs6, z_cs7, z_cv0, z_cv1, z_cv2, z_cv3, z_cv4, z_cv5, z_cv6, z_cv7, z_g0, z_s0, z_g1, z_s1, z_g2, z_s2, z_g3, z_s3, z_g4, z_s4, z_g5, z_s5, z_g6, z_s6, z_g7, z_s7, z_g8, z_s8, z_g9, z_s9, z_g10, z_s10, z_g11, z_s11, z_g12, z_s12, z_g13, z_s13, z_b0, z_b1, z_b0n, z_b1n, z_up_far1, z_up_far2, z_up_far3, z_up_far4, z_up_far5, z_up_far6, Classical.not_not, not_true_eq_false, z_in, z_inL, Int.cast_ofNat_Int, Nat.reduceLeDiff, List.length_cons, List.length_nil, Nat.reduceAdd, Nat.zero_add, Nat.le_refl, true_and, and_true, List.length, Nat.reduceLT, true_or, or_true, false_or, or_false, false_and, and_false, not_true_eq_false, not_false_eq_true, forall_const, false_implies, true_implies, Int.reduceEq, Int.reduceLT, Int.reduceLE, Int.reduceAdd, Int.reduceSub, Int.reduceMul, Int.reduceNeg, Int.reduceToNat, Int.toNat_natCast, ↓reduceIte, reduceIte, Nat.reduceEqDiff, Nat.reduceSub, Nat.reduceMul, ne_eq, Int.zero_add, Int.add_zero, Int.sub_zero, Nat.add_zero, Int.ofNat_eq_natCast, tX10_isFigure_0]
  by_cases c : 48 ≤ x1 ∧ x1 ≤ 57
  · rw [if_pos c] at h
    repeat' (first | (intro _) | (with_reducible assumption) | (refine And.intro ?_ ?_))
    all_goals first | omega | assumption | (refine z_fin h ?_ rfl; first | rfl | omega | (split <;> omega) | (split <;> split <;> omega)) | skip
  · rw [if_neg c] at h
    repeat' (first | (intro _) | (with_reducible assumption) | (refine And.intro ?_ ?_))
    all_goals first | omega | assumption | (refine z_fin h ?_ rfl; first | rfl | omega | (split <;> omega) | (split <;> split <;> omega)) | skip
theorem dX10_isFigure_0 : decode cX10_isFigure 0 = .ok (.iload_n 0, 1) := by decide +kernel
theorem dX10_isFigure_1 : decode cX10_isFigure 1 = .ok (.bipush 48, 2) := by decide +kernel
theorem dX10_isFigure_3 : decode cX10_isFigure 3 = .ok (.if_icmp .lt 13, 3) := by decide +kernel
theorem dX10_isFigure_6 : decode cX10_isFigure 6 = .ok (.iload_n 0, 1) := by decide +kernel
theorem dX10_isFigure_7 : decode cX10_isFigure 7 = .ok (.bipush 57, 2) := by decide +kernel
theorem dX10_isFigure_9 : decode cX10_isFigure 9 = .ok (.if_icmp .gt 7, 3) := by decide +kernel
theorem dX10_isFigure_12 : decode cX10_isFigure 12 = .ok (.iconst 1, 1) := by decide +kernel
theorem dX10_isFigure_13 : decode cX10_isFigure 13 = .ok (.goto 4, 3) := by decide +kernel
theorem dX10_isFigure_16 : decode cX10_isFigure 16 = .ok (.iconst 0, 1) := by decide +kernel
theorem dX10_isFigure_17 : decode cX10_isFigure 17 = .ok (.ireturn, 1) := by decide +kernel
set_option maxRecDepth 100000 in
theorem rX10_isFigure_0 {p : Program} {l : Launch} {e : Env} {s : State} {m : MethodId} {args : Array Value} {below : List Frame} {meth : Method} {c : Code} {D : va_G} {cA : Nat → ClassId} {ad : Nat → Nat} {Ret : zR} (C : z_Cx p { frames := 0, cells := 0, slots := 0, locals := 0 } s m args c cX10_isFigure yX10_isFigure.cls 1 D cA ad) (hr : meth.sig.returnType = (some .boolean)) (hlocks : meth.locks = false) : ∀ L st σ, tX10_isFigure_0 (z_X p l e { frames := 0, cells := 0, slots := 0, locals := 0 } s m args below meth c (MQ below (z_Qc D cA ad Ret) args s 0 0 (z_A ad)) 1 D cA ad true) Ret L st σ → z_X p l e { frames := 0, cells := 0, slots := 0, locals := 0 } s m args below meth c (MQ below (z_Qc D cA ad Ret) args s 0 0 (z_A ad)) 1 D cA ad true 0 L st σ := (s_iload_n C dX10_isFigure_0 rfl (s_bipush C dX10_isFigure_1 rfl ⟨by decide, by decide⟩ (s_iclt C dX10_isFigure_3 (by decide) (s_iconst C dX10_isFigure_16 rfl ⟨by decide, by decide⟩ (s_zret C dX10_isFigure_17 hr ⟨rfl, rfl⟩ hlocks)) (s_iload_n C dX10_isFigure_6 rfl (s_bipush C dX10_isFigure_7 rfl ⟨by decide, by decide⟩ (s_icgt C dX10_isFigure_9 (by decide) (s_iconst C dX10_isFigure_16 rfl ⟨by decide, by decide⟩ (s_zret C dX10_isFigure_17 hr ⟨rfl, rfl⟩ hlocks)) (s_iconst C dX10_isFigure_12 rfl ⟨by decide, by decide⟩ (s_goto C dX10_isFigure_13 (by decide) (s_zret C dX10_isFigure_17 hr ⟨rfl, rfl⟩ hlocks)))))))))
theorem okX10_isFigure (l : Launch) : z_OK l yX10_isFigure cX10_isFigure 1 (some .boolean) 0 0 SX10_isFigure := by
  refine z_ok_of true (by decide +kernel) ?_ ?_
  · intro as σ Ret h
    obtain ⟨x1, rfl⟩ := pX10_isFigure h
    exact ⟨Nat.le_of_ble_eq_true rfl, by simp⟩
  · intro p e s m args below meth c D cA ad Ret C hr hlocks as σ has hσ h
    obtain ⟨x1, rfl⟩ := pX10_isFigure h
    exact vX10_isFigure (rX10_isFigure_0 C hr hlocks) x1 σ (has _ (List.mem_of_getElem? (i := 0) rfl)) hσ h
def SX10_isOf : zS := fun as σ Ret => match as with
  | [.inl d, .inl k] => Ret (some (.inl (if q_isofb d k = true then 1 else 0))) σ
  | _ => False
def tX10_isOf_0 (X : Nat → zB) (Ret : zR) (L : zL) (st : List zV) (σ : zM) : Prop := (z_iload 1 (z_ifeq (z_push 1 (z_goto (z_zret Ret))) (z_iload 0 (z_iload 1 (z_iceq (z_push 1 (z_goto (z_zret Ret))) (z_iload 1 (z_push 1 (z_icne (X 24) (z_iload 0 (z_push 2 (z_iceq (z_push 1 (z_goto (z_zret Ret))) (z_iload 0 (z_push 5 (z_iceq (z_push 1 (z_goto (z_zret Ret))) (X 24))))))))))))))) L st σ
def tX10_isOf_24 (X : Nat → zB) (Ret : zR) (L : zL) (st : List zV) (σ : zM) : Prop := (z_iload 1 (z_push 3 (z_icne (z_push 0 (z_zret Ret)) (z_iload 0 (z_push 4 (z_icne (z_push 0 (z_zret Ret)) (z_push 1 (z_goto (z_zret Ret))))))))) L st σ
theorem pX10_isOf {as : List zV} {σ : zM} {Ret : zR} (h : SX10_isOf as σ Ret) : ∃ (x1 : Int) (x2 : Int), as = [.inl x1, .inl x2] := by
  unfold SX10_isOf at h
  split at h
  · exact ⟨_, _, rfl⟩
  · exact h.elim
set_option maxRecDepth 10000 in
set_option maxHeartbeats 4000000 in
theorem vX10_isOf {X : Nat → zB} {Ret : zR} (h0 : ∀ L st σ, tX10_isOf_0 X Ret L st σ → X 0 L st σ) (h24 : ∀ L st σ, tX10_isOf_24 X Ret L st σ → X 24 L st σ) (x1 : Int) (x2 : Int) (σ : zM) (hx1 : -2147483648 ≤ x1 ∧ x1 ≤ 2147483647) (hx2 : -2147483648 ≤ x2 ∧ x2 ≤ 2147483647) (hσ : z_okm σ) (h : SX10_isOf [.inl x1, .inl x2] σ Ret) : X 0 [some (.inl x1), some (.inl x2)] [] σ := by
  simp only [SX10_isOf, q_isofb, decide_eq_true_eq] at h
  by_cases c : x2 = 0 ∨ x2 = x1 ∨ (x2 = 1 ∧ (x1 = 2 ∨ x1 = 5)) ∨ (x2 = 3 ∧ x1 = 4)
  · rw [if_pos c] at h
    have L24 : x2 = 3 ∧ x1 = 4 → X 24 [some (.inl x1), some (.inl x2)] [] σ := by
      intro c3
      refine h24 _ _ _ ?_
      simp only [z_push, z_lpush, z_iload, z_lload, z_aload, z_istore, z_istoreP, z_lstore, z_astore, z_iinc, z_iincP, z_iadd, z_isub, z_imul, z_iaddW, z_isubW, z_imulW, z_idiv, z_irem, z_iand, z_ior, z_ixor, z_ishl, z_ishr, z_iushr, z_ineg, z_i2l, z_i2b, z_i2s, z_i2c, z_l2i, z_ladd, z_lsub, z_land, z_lor, z_lshl, z_lshr, z_lcmp, z_dup, z_pop, z_dup2, z_goto, z_tsw, z_cases, z_geti, z_getr, z_puti, z_putz, z_ald, z_iast, z_bast, z_zast, z_alen, z_acopy, z_mmax, z_mmin, z_mabs, z_mabsL, z_iret, z_zret, z_nret, z_lret, z_aret, z_vret, z_cat, z_ldcs, z_strv, z_strc, z_gcs, z_gfm, z_sln, z_sald, z_ifeq, z_ifne, z_iflt, z_ifge, z_ifgt, z_ifle, z_iceq, z_icne, z_iclt, z_icge, z_icgt, z_icle, z_cs0, z_cs1, z_cs2, z_cs3, z_cs4, z_cs5, z_cs6, z_cs7, z_cv0, z_cv1, z_cv2, z_cv3, z_cv4, z_cv5, z_cv6, z_cv7, z_g0, z_s0, z_g1, z_s1, z_g2, z_s2, z_g3, z_s3, z_g4, z_s4, z_g5, z_s5, z_g6, z_s6, z_g7, z_s7, z_g8, z_s8, z_g9, z_s9, z_g10, z_s10, z_g11, z_s11, z_g12, z_s12, z_g13, z_s13, z_b0, z_b1, z_b0n, z_b1n, z_up_far1, z_up_far2, z_up_far3, z_up_far4, z_up_far5, z_up_far6, Classical.not_not, not_true_eq_false, z_in, z_inL, Int.cast_ofNat_Int, Nat.reduceLeDiff, List.length_cons, List.length_nil, Nat.reduceAdd, Nat.zero_add, Nat.le_refl, true_and, and_true, List.length, Nat.reduceLT, true_or, or_true, false_or, or_false, false_and, and_false, not_true_eq_false, not_false_eq_true, forall_const, false_implies, true_implies, Int.reduceEq, Int.reduceLT, Int.reduceLE, Int.reduceAdd, Int.reduceSub, Int.reduceMul, Int.reduceNeg, Int.reduceToNat, Int.toNat_natCast, ↓reduceIte, reduceIte, Nat.reduceEqDiff, Nat.reduceSub, Nat.reduceMul, ne_eq, Int.zero_add, Int.add_zero, Int.sub_zero, Nat.add_zero, Int.ofNat_eq_natCast, tX10_isOf_24, c3.1, c3.2]
      exact h
    refine h0 _ _ _ ?_
    simp only [z_push, z_lpush, z_iload, z_lload, z_aload, z_istore, z_istoreP, z_lstore, z_astore, z_iinc, z_iincP, z_iadd, z_isub, z_imul, z_iaddW, z_isubW, z_imulW, z_idiv, z_irem, z_iand, z_ior, z_ixor, z_ishl, z_ishr, z_iushr, z_ineg, z_i2l, z_i2b, z_i2s, z_i2c, z_l2i, z_ladd, z_lsub, z_land, z_lor, z_lshl, z_lshr, z_lcmp, z_dup, z_pop, z_dup2, z_goto, z_tsw, z_cases, z_geti, z_getr, z_puti, z_putz, z_ald, z_iast, z_bast, z_zast, z_alen, z_acopy, z_mmax, z_mmin, z_mabs, z_mabsL, z_iret, z_zret, z_nret, z_lret, z_aret, z_vret, z_cat, z_ldcs, z_strv, z_strc, z_gcs, z_gfm, z_sln, z_sald, z_ifeq, z_ifne, z_iflt, z_ifge, z_ifgt, z_ifle, z_iceq, z_icne, z_iclt, z_icge, z_icgt, z_icle, z_cs0, z_cs1, z_cs2, z_cs3, z_cs4, z_cs5, z_cs6, z_cs7, z_cv0, z_cv1, z_cv2, z_cv3, z_cv4, z_cv5, z_cv6, z_cv7, z_g0, z_s0, z_g1, z_s1, z_g2, z_s2, z_g3, z_s3, z_g4, z_s4, z_g5, z_s5, z_g6, z_s6, z_g7, z_s7, z_g8, z_s8, z_g9, z_s9, z_g10, z_s10, z_g11, z_s11, z_g12, z_s12, z_g13, z_s13, z_b0, z_b1, z_b0n, z_b1n, z_up_far1, z_up_far2, z_up_far3, z_up_far4, z_up_far5, z_up_far6, Classical.not_not, not_true_eq_false, z_in, z_inL, Int.cast_ofNat_Int, Nat.reduceLeDiff, List.length_cons, List.length_nil, Nat.reduceAdd, Nat.zero_add, Nat.le_refl, true_and, and_true, List.length, Nat.reduceLT, true_or, or_true, false_or, or_false, false_and, and_false, not_true_eq_false, not_false_eq_true, forall_const, false_implies, true_implies, Int.reduceEq, Int.reduceLT, Int.reduceLE, Int.reduceAdd, Int.reduceSub, Int.reduceMul, Int.reduceNeg, Int.reduceToNat, Int.toNat_natCast, ↓reduceIte, reduceIte, Nat.reduceEqDiff, Nat.reduceSub, Nat.reduceMul, ne_eq, Int.zero_add, Int.add_zero, Int.sub_zero, Nat.add_zero, Int.ofNat_eq_natCast, tX10_isOf_0]
    repeat' (first | (intro _) | (with_reducible assumption) | (refine And.intro ?_ ?_))
    all_goals first | omega | assumption | (refine z_fin h ?_ rfl; first | rfl | omega | (split <;> omega) | (split <;> split <;> omega)) | skip
    all_goals exact L24 (by omega)
  · rw [if_neg c] at h
    have L24 : X 24 [some (.inl x1), some (.inl x2)] [] σ := by
      refine h24 _ _ _ ?_
      simp only [z_push, z_lpush, z_iload, z_lload, z_aload, z_istore, z_istoreP, z_lstore, z_astore, z_iinc, z_iincP, z_iadd, z_isub, z_imul, z_iaddW, z_isubW, z_imulW, z_idiv, z_irem, z_iand, z_ior, z_ixor, z_ishl, z_ishr, z_iushr, z_ineg, z_i2l, z_i2b, z_i2s, z_i2c, z_l2i, z_ladd, z_lsub, z_land, z_lor, z_lshl, z_lshr, z_lcmp, z_dup, z_pop, z_dup2, z_goto, z_tsw, z_cases, z_geti, z_getr, z_puti, z_putz, z_ald, z_iast, z_bast, z_zast, z_alen, z_acopy, z_mmax, z_mmin, z_mabs, z_mabsL, z_iret, z_zret, z_nret, z_lret, z_aret, z_vret, z_cat, z_ldcs, z_strv, z_strc, z_gcs, z_gfm, z_sln, z_sald, z_ifeq, z_ifne, z_iflt, z_ifge, z_ifgt, z_ifle, z_iceq, z_icne, z_iclt, z_icge, z_icgt, z_icle, z_cs0, z_cs1, z_cs2, z_cs3, z_cs4, z_cs5, z_cs6, z_cs7, z_cv0, z_cv1, z_cv2, z_cv3, z_cv4, z_cv5, z_cv6, z_cv7, z_g0, z_s0, z_g1, z_s1, z_g2, z_s2, z_g3, z_s3, z_g4, z_s4, z_g5, z_s5, z_g6, z_s6, z_g7, z_s7, z_g8, z_s8, z_g9, z_s9, z_g10, z_s10, z_g11, z_s11, z_g12, z_s12, z_g13, z_s13, z_b0, z_b1, z_b0n, z_b1n, z_up_far1, z_up_far2, z_up_far3, z_up_far4, z_up_far5, z_up_far6, Classical.not_not, not_true_eq_false, z_in, z_inL, Int.cast_ofNat_Int, Nat.reduceLeDiff, List.length_cons, List.length_nil, Nat.reduceAdd, Nat.zero_add, Nat.le_refl, true_and, and_true, List.length, Nat.reduceLT, true_or, or_true, false_or, or_false, false_and, and_false, not_true_eq_false, not_false_eq_true, forall_const, false_implies, true_implies, Int.reduceEq, Int.reduceLT, Int.reduceLE, Int.reduceAdd, Int.reduceSub, Int.reduceMul, Int.reduceNeg, Int.reduceToNat, Int.toNat_natCast, ↓reduceIte, reduceIte, Nat.reduceEqDiff, Nat.reduceSub, Nat.reduceMul, ne_eq, Int.zero_add, Int.add_zero, Int.sub_zero, Nat.add_zero, Int.ofNat_eq_natCast, tX10_isOf_24]
      repeat' (first | (intro _) | (with_reducible assumption) | (refine And.intro ?_ ?_))
      all_goals first | omega | assumption | (refine z_fin h ?_ rfl; first | rfl | omega | (split <;> omega) | (split <;> split <;> omega)) | skip
    refine h0 _ _ _ ?_
    simp only [z_push, z_lpush, z_iload, z_lload, z_aload, z_istore, z_istoreP, z_lstore, z_astore, z_iinc, z_iincP, z_iadd, z_isub, z_imul, z_iaddW, z_isubW, z_imulW, z_idiv, z_irem, z_iand, z_ior, z_ixor, z_ishl, z_ishr, z_iushr, z_ineg, z_i2l, z_i2b, z_i2s, z_i2c, z_l2i, z_ladd, z_lsub, z_land, z_lor, z_lshl, z_lshr, z_lcmp, z_dup, z_pop, z_dup2, z_goto, z_tsw, z_cases, z_geti, z_getr, z_puti, z_putz, z_ald, z_iast, z_bast, z_zast, z_alen, z_acopy, z_mmax, z_mmin, z_mabs, z_mabsL, z_iret, z_zret, z_nret, z_lret, z_aret, z_vret, z_cat, z_ldcs, z_strv, z_strc, z_gcs, z_gfm, z_sln, z_sald, z_ifeq, z_ifne, z_iflt, z_ifge, z_ifgt, z_ifle, z_iceq, z_icne, z_iclt, z_icge, z_icgt, z_icle, z_cs0, z_cs1, z_cs2, z_cs3, z_cs4, z_cs5, z_cs6, z_cs7, z_cv0, z_cv1, z_cv2, z_cv3, z_cv4, z_cv5, z_cv6, z_cv7, z_g0, z_s0, z_g1, z_s1, z_g2, z_s2, z_g3, z_s3, z_g4, z_s4, z_g5, z_s5, z_g6, z_s6, z_g7, z_s7, z_g8, z_s8, z_g9, z_s9, z_g10, z_s10, z_g11, z_s11, z_g12, z_s12, z_g13, z_s13, z_b0, z_b1, z_b0n, z_b1n, z_up_far1, z_up_far2, z_up_far3, z_up_far4, z_up_far5, z_up_far6, Classical.not_not, not_true_eq_false, z_in, z_inL, Int.cast_ofNat_Int, Nat.reduceLeDiff, List.length_cons, List.length_nil, Nat.reduceAdd, Nat.zero_add, Nat.le_refl, true_and, and_true, List.length, Nat.reduceLT, true_or, or_true, false_or, or_false, false_and, and_false, not_true_eq_false, not_false_eq_true, forall_const, false_implies, true_implies, Int.reduceEq, Int.reduceLT, Int.reduceLE, Int.reduceAdd, Int.reduceSub, Int.reduceMul, Int.reduceNeg, Int.reduceToNat, Int.toNat_natCast, ↓reduceIte, reduceIte, Nat.reduceEqDiff, Nat.reduceSub, Nat.reduceMul, ne_eq, Int.zero_add, Int.add_zero, Int.sub_zero, Nat.add_zero, Int.ofNat_eq_natCast, tX10_isOf_0]
    repeat' (first | (intro _) | (with_reducible assumption) | (refine And.intro ?_ ?_))
    all_goals first | omega | assumption | (refine z_fin h ?_ rfl; first | rfl | omega | (split <;> omega) | (split <;> split <;> omega)) | skip
    all_goals exact L24
theorem dX10_isOf_0 : decode cX10_isOf 0 = .ok (.iload_n 1, 1) := by decide +kernel
theorem dX10_isOf_1 : decode cX10_isOf 1 = .ok (.ifCond .eq 33, 3) := by decide +kernel
theorem dX10_isOf_4 : decode cX10_isOf 4 = .ok (.iload_n 0, 1) := by decide +kernel
theorem dX10_isOf_5 : decode cX10_isOf 5 = .ok (.iload_n 1, 1) := by decide +kernel
theorem dX10_isOf_6 : decode cX10_isOf 6 = .ok (.if_icmp .eq 28, 3) := by decide +kernel
theorem dX10_isOf_9 : decode cX10_isOf 9 = .ok (.iload_n 1, 1) := by decide +kernel
theorem dX10_isOf_10 : decode cX10_isOf 10 = .ok (.iconst 1, 1) := by decide +kernel
theorem dX10_isOf_11 : decode cX10_isOf 11 = .ok (.if_icmp .ne 13, 3) := by decide +kernel
theorem dX10_isOf_14 : decode cX10_isOf 14 = .ok (.iload_n 0, 1) := by decide +kernel
theorem dX10_isOf_15 : decode cX10_isOf 15 = .ok (.iconst 2, 1) := by decide +kernel
theorem dX10_isOf_16 : decode cX10_isOf 16 = .ok (.if_icmp .eq 18, 3) := by decide +kernel
theorem dX10_isOf_19 : decode cX10_isOf 19 = .ok (.iload_n 0, 1) := by decide +kernel
theorem dX10_isOf_20 : decode cX10_isOf 20 = .ok (.iconst 5, 1) := by decide +kernel
theorem dX10_isOf_21 : decode cX10_isOf 21 = .ok (.if_icmp .eq 13, 3) := by decide +kernel
theorem dX10_isOf_24 : decode cX10_isOf 24 = .ok (.iload_n 1, 1) := by decide +kernel
theorem dX10_isOf_25 : decode cX10_isOf 25 = .ok (.iconst 3, 1) := by decide +kernel
theorem dX10_isOf_26 : decode cX10_isOf 26 = .ok (.if_icmp .ne 12, 3) := by decide +kernel
theorem dX10_isOf_29 : decode cX10_isOf 29 = .ok (.iload_n 0, 1) := by decide +kernel
theorem dX10_isOf_30 : decode cX10_isOf 30 = .ok (.iconst 4, 1) := by decide +kernel
theorem dX10_isOf_31 : decode cX10_isOf 31 = .ok (.if_icmp .ne 7, 3) := by decide +kernel
theorem dX10_isOf_34 : decode cX10_isOf 34 = .ok (.iconst 1, 1) := by decide +kernel
theorem dX10_isOf_35 : decode cX10_isOf 35 = .ok (.goto 4, 3) := by decide +kernel
theorem dX10_isOf_38 : decode cX10_isOf 38 = .ok (.iconst 0, 1) := by decide +kernel
theorem dX10_isOf_39 : decode cX10_isOf 39 = .ok (.ireturn, 1) := by decide +kernel
set_option maxRecDepth 100000 in
theorem rX10_isOf_0 {p : Program} {l : Launch} {e : Env} {s : State} {m : MethodId} {args : Array Value} {below : List Frame} {meth : Method} {c : Code} {D : va_G} {cA : Nat → ClassId} {ad : Nat → Nat} {Ret : zR} (C : z_Cx p { frames := 0, cells := 0, slots := 0, locals := 0 } s m args c cX10_isOf yX10_isOf.cls 2 D cA ad) (hr : meth.sig.returnType = (some .boolean)) (hlocks : meth.locks = false) : ∀ L st σ, tX10_isOf_0 (z_X p l e { frames := 0, cells := 0, slots := 0, locals := 0 } s m args below meth c (MQ below (z_Qc D cA ad Ret) args s 0 0 (z_A ad)) 2 D cA ad true) Ret L st σ → z_X p l e { frames := 0, cells := 0, slots := 0, locals := 0 } s m args below meth c (MQ below (z_Qc D cA ad Ret) args s 0 0 (z_A ad)) 2 D cA ad true 0 L st σ := (s_iload_n C dX10_isOf_0 rfl (s_ifeq C dX10_isOf_1 (by decide) (s_iconst C dX10_isOf_34 rfl ⟨by decide, by decide⟩ (s_goto C dX10_isOf_35 (by decide) (s_zret C dX10_isOf_39 hr ⟨rfl, rfl⟩ hlocks))) (s_iload_n C dX10_isOf_4 rfl (s_iload_n C dX10_isOf_5 rfl (s_iceq C dX10_isOf_6 (by decide) (s_iconst C dX10_isOf_34 rfl ⟨by decide, by decide⟩ (s_goto C dX10_isOf_35 (by decide) (s_zret C dX10_isOf_39 hr ⟨rfl, rfl⟩ hlocks))) (s_iload_n C dX10_isOf_9 rfl (s_iconst C dX10_isOf_10 rfl ⟨by decide, by decide⟩ (s_icne C dX10_isOf_11 (by decide) (fun _ _ _ h => h) (s_iload_n C dX10_isOf_14 rfl (s_iconst C dX10_isOf_15 rfl ⟨by decide, by decide⟩ (s_iceq C dX10_isOf_16 (by decide) (s_iconst C dX10_isOf_34 rfl ⟨by decide, by decide⟩ (s_goto C dX10_isOf_35 (by decide) (s_zret C dX10_isOf_39 hr ⟨rfl, rfl⟩ hlocks))) (s_iload_n C dX10_isOf_19 rfl (s_iconst C dX10_isOf_20 rfl ⟨by decide, by decide⟩ (s_iceq C dX10_isOf_21 (by decide) (s_iconst C dX10_isOf_34 rfl ⟨by decide, by decide⟩ (s_goto C dX10_isOf_35 (by decide) (s_zret C dX10_isOf_39 hr ⟨rfl, rfl⟩ hlocks))) (fun _ _ _ h => h)))))))))))))))
set_option maxRecDepth 100000 in
theorem rX10_isOf_24 {p : Program} {l : Launch} {e : Env} {s : State} {m : MethodId} {args : Array Value} {below : List Frame} {meth : Method} {c : Code} {D : va_G} {cA : Nat → ClassId} {ad : Nat → Nat} {Ret : zR} (C : z_Cx p { frames := 0, cells := 0, slots := 0, locals := 0 } s m args c cX10_isOf yX10_isOf.cls 2 D cA ad) (hr : meth.sig.returnType = (some .boolean)) (hlocks : meth.locks = false) : ∀ L st σ, tX10_isOf_24 (z_X p l e { frames := 0, cells := 0, slots := 0, locals := 0 } s m args below meth c (MQ below (z_Qc D cA ad Ret) args s 0 0 (z_A ad)) 2 D cA ad true) Ret L st σ → z_X p l e { frames := 0, cells := 0, slots := 0, locals := 0 } s m args below meth c (MQ below (z_Qc D cA ad Ret) args s 0 0 (z_A ad)) 2 D cA ad true 24 L st σ := (s_iload_n C dX10_isOf_24 rfl (s_iconst C dX10_isOf_25 rfl ⟨by decide, by decide⟩ (s_icne C dX10_isOf_26 (by decide) (s_iconst C dX10_isOf_38 rfl ⟨by decide, by decide⟩ (s_zret C dX10_isOf_39 hr ⟨rfl, rfl⟩ hlocks)) (s_iload_n C dX10_isOf_29 rfl (s_iconst C dX10_isOf_30 rfl ⟨by decide, by decide⟩ (s_icne C dX10_isOf_31 (by decide) (s_iconst C dX10_isOf_38 rfl ⟨by decide, by decide⟩ (s_zret C dX10_isOf_39 hr ⟨rfl, rfl⟩ hlocks)) (s_iconst C dX10_isOf_34 rfl ⟨by decide, by decide⟩ (s_goto C dX10_isOf_35 (by decide) (s_zret C dX10_isOf_39 hr ⟨rfl, rfl⟩ hlocks)))))))))
theorem okX10_isOf (l : Launch) : z_OK l yX10_isOf cX10_isOf 2 (some .boolean) 0 0 SX10_isOf := by
  refine z_ok_of true (by decide +kernel) ?_ ?_
  · intro as σ Ret h
    obtain ⟨x1, x2, rfl⟩ := pX10_isOf h
    exact ⟨Nat.le_of_ble_eq_true rfl, by simp⟩
  · intro p e s m args below meth c D cA ad Ret C hr hlocks as σ has hσ h
    obtain ⟨x1, x2, rfl⟩ := pX10_isOf h
    exact vX10_isOf (rX10_isOf_0 C hr hlocks) (rX10_isOf_24 C hr hlocks) x1 x2 σ (has _ (List.mem_of_getElem? (i := 0) rfl)) (has _ (List.mem_of_getElem? (i := 1) rfl)) hσ h
