/-! lengths laid out in the model -/
def SX10_layLengths : zS := fun as σ Ret => match as with
  | [.inr (.inr (10, 0, _))] => ∀ σ' : zM, (∀ c j, c ≠ 98 → σ' c j = σ c j) → (∀ j : Nat, j < 12 → σ' 98 j = σ 93 (6 + 6 * j + 0)) → Ret none σ'
  | _ => False
def tX10_layLengths_0 (X : Nat → zB) (Ret : zR) (L : zL) (st : List zV) (σ : zM) : Prop := (z_push 0 (z_istore 1 (X 2))) L st σ
def tX10_layLengths_2 (X : Nat → zB) (Ret : zR) (L : zL) (st : List zV) (σ : zM) : Prop := (z_iload 1 (z_push 12 (z_icge (z_vret Ret) (z_aload 0 (z_getr 10 9 100 12 (z_iload 1 (z_aload 0 (z_iload 1 (z_push 0 (z_cv2 10 SX10_of (z_iast (z_iinc 1 1 (z_goto (X 2)))))))))))))) L st σ
theorem pX10_layLengths {as : List zV} {σ : zM} {Ret : zR} (h : SX10_layLengths as σ Ret) : ∃ (k0 : Nat), as = [.inr (.inr (10, 0, k0))] := by
  unfold SX10_layLengths at h
  split at h
  · exact ⟨_, rfl⟩
  · exact h.elim
set_option maxRecDepth 10000 in
set_option maxHeartbeats 4000000 in
theorem vX10_layLengths {X : Nat → zB} {Ret : zR} (h0 : ∀ L st σ, tX10_layLengths_0 X Ret L st σ → X 0 L st σ) (h2 : ∀ L st σ, tX10_layLengths_2 X Ret L st σ → X 2 L st σ) (k0 : Nat) (σ : zM) (hk0 : z_kd k0 = (10, 0)) (hσ : z_okm σ) (h : SX10_layLengths [.inr (.inr (10, 0, k0))] σ Ret) : X 0 [some (.inr (.inr (10, 0, k0))), none] [] σ := by
  obtain rfl := z_kd10 hk0
  have L2 : ∀ (d i : Nat) (σ1 : zM), i + d = 12 → (∀ c j, c ≠ 98 → σ1 c j = σ c j) → (∀ j : Nat, j < i → σ1 98 j = σ 93 (6 + 6 * j + 0)) → X 2 [some (.inr (.inr (10, 0, 89))), some (.inl (i : Int))] [] σ1 := by
    intro d
    induction d with
    | zero =>
      intro i σ1 hi f1 f2
      have fin := h σ1 f1 (fun j hj => f2 j (by omega))
      refine h2 _ _ _ ?_
      simp only [z_push, z_lpush, z_iload, z_lload, z_aload, z_istore, z_istoreP, z_lstore, z_astore, z_iinc, z_iincP, z_iadd, z_isub, z_imul, z_iaddW, z_isubW, z_imulW, z_idiv, z_irem, z_iand, z_ior, z_ixor, z_ishl, z_ishr, z_iushr, z_ineg, z_i2l, z_i2b, z_i2s, z_i2c, z_l2i, z_ladd, z_lsub, z_land, z_lor, z_lshl, z_lshr, z_lcmp, z_dup, z_pop, z_dup2, z_goto, z_tsw, z_cases, z_geti, z_getr, z_puti, z_putz, z_ald, z_iast, z_bast, z_zast, z_alen, z_acopy, z_mmax, z_mmin, z_mabs, z_mabsL, z_iret, z_zret, z_nret, z_lret, z_aret, z_vret, z_cat, z_ldcs, z_strv, z_strc, z_gcs, z_gfm, z_sln, z_sald, z_ifeq, z_ifne, z_iflt, z_ifge, z_ifgt, z_ifle, z_iceq, z_icne, z_iclt, z_icge, z_icgt, z_icle, z_cs0, z_cs1, z_cs2, z_cs3, z_cs4, z_cs5, z_cs6, z_cs7, z_cv0, z_cv1, z_cv2, z_cv3, z_cv4, z_cv5, z_cv6, z_cv7, z_g0, z_s0, z_g1, z_s1, z_g2, z_s2, z_g3, z_s3, z_g4, z_s4, z_g5, z_s5, z_g6, z_s6, z_g7, z_s7, z_g8, z_s8, z_g9, z_s9, z_g10, z_s10, z_g11, z_s11, z_g12, z_s12, z_g13, z_s13, z_b0, z_b1, z_b0n, z_b1n, z_up_far1, z_up_far2, z_up_far3, z_up_far4, z_up_far5, z_up_far6, Classical.not_not, not_true_eq_false, z_in, z_inL, Int.cast_ofNat_Int, Nat.reduceLeDiff, List.length_cons, List.length_nil, Nat.reduceAdd, Nat.zero_add, Nat.le_refl, true_and, and_true, List.length, Nat.reduceLT, true_or, or_true, false_or, or_false, false_and, and_false, not_true_eq_false, not_false_eq_true, forall_const, false_implies, true_implies, Int.reduceEq, Int.reduceLT, Int.reduceLE, Int.reduceAdd, Int.reduceSub, Int.reduceMul, Int.reduceNeg, Int.reduceToNat, Int.toNat_natCast, ↓reduceIte, reduceIte, Nat.reduceEqDiff, Nat.reduceSub, Nat.reduceMul, ne_eq, Int.zero_add, Int.add_zero, Int.sub_zero, Nat.add_zero, Int.ofNat_eq_natCast, tX10_layLengths_2]
      repeat' (first | (intro _) | (with_reducible assumption) | (refine And.intro ?_ ?_))
      all_goals first | omega | assumption | (refine z_fin fin ?_ rfl; first | rfl | omega | (split <;> omega) | (split <;> split <;> omega)) | skip
    | succ d ih =>
      intro i σ1 hi f1 f2
      have nx := ih (i + 1) (z_up σ1 98 i (σ 93 (6 + 6 * i + 0))) (by omega) (fun c j hc => by rw [z_up_ne (by omega)]; exact f1 c j hc) (fun j hj => by
        by_cases e : j = i
        · subst e; rw [z_up_eq]
        · rw [z_up_ne (by omega)]; exact f2 j (by omega))
      refine h2 _ _ _ ?_
      have e0 : ∀ j, σ1 93 j = σ 93 j := fun j => f1 93 j (by omega)
      simp only [z_push, z_lpush, z_iload, z_lload, z_aload, z_istore, z_istoreP, z_lstore, z_astore, z_iinc, z_iincP, z_iadd, z_isub, z_imul, z_iaddW, z_isubW, z_imulW, z_idiv, z_irem, z_iand, z_ior, z_ixor, z_ishl, z_ishr, z_iushr, z_ineg, z_i2l, z_i2b, z_i2s, z_i2c, z_l2i, z_ladd, z_lsub, z_land, z_lor, z_lshl, z_lshr, z_lcmp, z_dup, z_pop, z_dup2, z_goto, z_tsw, z_cases, z_geti, z_getr, z_puti, z_putz, z_ald, z_iast, z_bast, z_zast, z_alen, z_acopy, z_mmax, z_mmin, z_mabs, z_mabsL, z_iret, z_zret, z_nret, z_lret, z_aret, z_vret, z_cat, z_ldcs, z_strv, z_strc, z_gcs, z_gfm, z_sln, z_sald, z_ifeq, z_ifne, z_iflt, z_ifge, z_ifgt, z_ifle, z_iceq, z_icne, z_iclt, z_icge, z_icgt, z_icle, z_cs0, z_cs1, z_cs2, z_cs3, z_cs4, z_cs5, z_cs6, z_cs7, z_cv0, z_cv1, z_cv2, z_cv3, z_cv4, z_cv5, z_cv6, z_cv7, z_g0, z_s0, z_g1, z_s1, z_g2, z_s2, z_g3, z_s3, z_g4, z_s4, z_g5, z_s5, z_g6, z_s6, z_g7, z_s7, z_g8, z_s8, z_g9, z_s9, z_g10, z_s10, z_g11, z_s11, z_g12, z_s12, z_g13, z_s13, z_b0, z_b1, z_b0n, z_b1n, z_up_far1, z_up_far2, z_up_far3, z_up_far4, z_up_far5, z_up_far6, Classical.not_not, not_true_eq_false, z_in, z_inL, Int.cast_ofNat_Int, Nat.reduceLeDiff, List.length_cons, List.length_nil, Nat.reduceAdd, Nat.zero_add, Nat.le_refl, true_and, and_true, List.length, Nat.reduceLT, true_or, or_true, false_or, or_false, false_and, and_false, not_true_eq_false, not_false_eq_true, forall_const, false_implies, true_implies, Int.reduceEq, Int.reduceLT, Int.reduceLE, Int.reduceAdd, Int.reduceSub, Int.reduceMul, Int.reduceNeg, Int.reduceToNat, Int.toNat_natCast, ↓reduceIte, reduceIte, Nat.reduceEqDiff, Nat.reduceSub, Nat.reduceMul, ne_eq, Int.zero_add, Int.add_zero, Int.sub_zero, Nat.add_zero, Int.ofNat_eq_natCast, tX10_layLengths_2, SX10_of, e0]
      exact ⟨fun e => absurd e (by omega), fun _ => ⟨by omega, by omega, by omega, nx⟩⟩
  refine h0 _ _ _ ?_
  simp only [z_push, z_lpush, z_iload, z_lload, z_aload, z_istore, z_istoreP, z_lstore, z_astore, z_iinc, z_iincP, z_iadd, z_isub, z_imul, z_iaddW, z_isubW, z_imulW, z_idiv, z_irem, z_iand, z_ior, z_ixor, z_ishl, z_ishr, z_iushr, z_ineg, z_i2l, z_i2b, z_i2s, z_i2c, z_l2i, z_ladd, z_lsub, z_land, z_lor, z_lshl, z_lshr, z_lcmp, z_dup, z_pop, z_dup2, z_goto, z_tsw, z_cases, z_geti, z_getr, z_puti, z_putz, z_ald, z_iast, z_bast, z_zast, z_alen, z_acopy, z_mmax, z_mmin, z_mabs, z_mabsL, z_iret, z_zret, z_nret, z_lret, z_aret, z_vret, z_cat, z_ldcs, z_strv, z_strc, z_gcs, z_gfm, z_sln, z_sald, z_ifeq, z_ifne, z_iflt, z_ifge, z_ifgt, z_ifle, z_iceq, z_icne, z_iclt, z_icge, z_icgt, z_icle, z_cs0, z_cs1, z_cs2, z_cs3, z_cs4, z_cs5, z_cs6, z_cs7, z_cv0, z_cv1, z_cv2, z_cv3, z_cv4, z_cv5, z_cv6, z_cv7, z_g0, z_s0, z_g1, z_s1, z_g2, z_s2, z_g3, z_s3, z_g4, z_s4, z_g5, z_s5, z_g6, z_s6, z_g7, z_s7, z_g8, z_s8, z_g9, z_s9, z_g10, z_s10, z_g11, z_s11, z_g12, z_s12, z_g13, z_s13, z_b0, z_b1, z_b0n, z_b1n, z_up_far1, z_up_far2, z_up_far3, z_up_far4, z_up_far5, z_up_far6, Classical.not_not, not_true_eq_false, z_in, z_inL, Int.cast_ofNat_Int, Nat.reduceLeDiff, List.length_cons, List.length_nil, Nat.reduceAdd, Nat.zero_add, Nat.le_refl, true_and, and_true, List.length, Nat.reduceLT, true_or, or_true, false_or, or_false, false_and, and_false, not_true_eq_false, not_false_eq_true, forall_const, false_implies, true_implies, Int.reduceEq, Int.reduceLT, Int.reduceLE, Int.reduceAdd, Int.reduceSub, Int.reduceMul, Int.reduceNeg, Int.reduceToNat, Int.toNat_natCast, ↓reduceIte, reduceIte, Nat.reduceEqDiff, Nat.reduceSub, Nat.reduceMul, ne_eq, Int.zero_add, Int.add_zero, Int.sub_zero, Nat.add_zero, Int.ofNat_eq_natCast, tX10_layLengths_0]
  exact L2 12 0 σ (by omega) (fun _ _ _ => rfl) (fun j hj => absurd hj (by omega))
theorem dX10_layLengths_0 : decode cX10_layLengths 0 = .ok (.iconst 0, 1) := by decide +kernel
theorem dX10_layLengths_1 : decode cX10_layLengths 1 = .ok (.istore_n 1, 1) := by decide +kernel
theorem dX10_layLengths_2 : decode cX10_layLengths 2 = .ok (.iload_n 1, 1) := by decide +kernel
theorem dX10_layLengths_3 : decode cX10_layLengths 3 = .ok (.bipush 12, 2) := by decide +kernel
theorem dX10_layLengths_5 : decode cX10_layLengths 5 = .ok (.if_icmp .ge 21, 3) := by decide +kernel
theorem dX10_layLengths_8 : decode cX10_layLengths 8 = .ok (.aload_n 0, 1) := by decide +kernel
theorem dX10_layLengths_9 : decode cX10_layLengths 9 = .ok (.getfield 34, 3) := by decide +kernel
theorem dX10_layLengths_12 : decode cX10_layLengths 12 = .ok (.iload_n 1, 1) := by decide +kernel
theorem dX10_layLengths_13 : decode cX10_layLengths 13 = .ok (.aload_n 0, 1) := by decide +kernel
theorem dX10_layLengths_14 : decode cX10_layLengths 14 = .ok (.iload_n 1, 1) := by decide +kernel
theorem dX10_layLengths_15 : decode cX10_layLengths 15 = .ok (.iconst 0, 1) := by decide +kernel
theorem dX10_layLengths_16 : decode cX10_layLengths 16 = .ok (.invokevirtual 227, 3) := by decide +kernel
theorem dX10_layLengths_19 : decode cX10_layLengths 19 = .ok (.iastore, 1) := by decide +kernel
theorem dX10_layLengths_20 : decode cX10_layLengths 20 = .ok (.iinc 1 1, 3) := by decide +kernel
theorem dX10_layLengths_23 : decode cX10_layLengths 23 = .ok (.goto (-21), 3) := by decide +kernel
theorem dX10_layLengths_26 : decode cX10_layLengths 26 = .ok (.return_, 1) := by decide +kernel
set_option maxRecDepth 100000 in
theorem rX10_layLengths_0 {p : Program} {l : Launch} {e : Env} {s : State} {m : MethodId} {args : Array Value} {below : List Frame} {meth : Method} {c : Code} {D : va_G} {cA : Nat → ClassId} {ad : Nat → Nat} {Ret : zR} (C : z_Cx p { frames := 1, cells := 0, slots := 0, locals := 22 } s m args c cX10_layLengths yX10_layLengths.cls 2 D cA ad) (hr : meth.sig.returnType = none) (hlocks : meth.locks = false) : ∀ L st σ, tX10_layLengths_0 (z_X p l e { frames := 1, cells := 0, slots := 0, locals := 22 } s m args below meth c (MQ below (z_Qc D cA ad Ret) args s 0 0 (z_A ad)) 2 D cA ad true) Ret L st σ → z_X p l e { frames := 1, cells := 0, slots := 0, locals := 22 } s m args below meth c (MQ below (z_Qc D cA ad Ret) args s 0 0 (z_A ad)) 2 D cA ad true 0 L st σ := (s_iconst C dX10_layLengths_0 rfl ⟨by decide, by decide⟩ (s_istore_n C dX10_layLengths_1 (by decide) rfl rfl (fun _ _ _ h => h)))
set_option maxRecDepth 100000 in
theorem rX10_layLengths_2 {p : Program} {l : Launch} {e : Env} {s : State} {m : MethodId} {args : Array Value} {below : List Frame} {meth : Method} {c : Code} {D : va_G} {cA : Nat → ClassId} {ad : Nat → Nat} {Ret : zR} (C : z_Cx p { frames := 1, cells := 0, slots := 0, locals := 22 } s m args c cX10_layLengths yX10_layLengths.cls 2 D cA ad) (hr : meth.sig.returnType = none) (hlocks : meth.locks = false) : ∀ L st σ, tX10_layLengths_2 (z_X p l e { frames := 1, cells := 0, slots := 0, locals := 22 } s m args below meth c (MQ below (z_Qc D cA ad Ret) args s 0 0 (z_A ad)) 2 D cA ad true) Ret L st σ → z_X p l e { frames := 1, cells := 0, slots := 0, locals := 22 } s m args below meth c (MQ below (z_Qc D cA ad Ret) args s 0 0 (z_A ad)) 2 D cA ad true 2 L st σ := (s_iload_n C dX10_layLengths_2 rfl (s_bipush C dX10_layLengths_3 rfl ⟨by decide, by decide⟩ (s_icge C dX10_layLengths_5 (by decide) (s_vret C dX10_layLengths_26 hr hlocks) (s_aload_n C dX10_layLengths_8 rfl (s_getr C dX10_layLengths_9 (j := 21) cls_X10 (by decide) rfl (by decide) (by decide) (by decide +kernel) wd_989 (s_iload_n C dX10_layLengths_12 rfl (s_aload_n C dX10_layLengths_13 rfl (s_iload_n C dX10_layLengths_14 rfl (s_iconst C dX10_layLengths_15 rfl ⟨by decide, by decide⟩ (s_cv2 C dX10_layLengths_16 (okX10_of l) cls_X10 wd_1232 wd_1234 wd_55 wd_85 wd_1235 ⟨by decide, by decide, by decide +kernel⟩ ⟨by decide, by decide⟩ (s_iast C dX10_layLengths_19 (s_iinc C dX10_layLengths_20 (by decide) rfl (s_goto C dX10_layLengths_23 (by decide) (fun _ _ _ h => h))))))))))))))
theorem okX10_layLengths (l : Launch) : z_OK l yX10_layLengths cX10_layLengths 2 none 1 22 SX10_layLengths := by
  refine z_ok_of true (by decide +kernel) ?_ ?_
  · intro as σ Ret h
    obtain ⟨k0, rfl⟩ := pX10_layLengths h
    exact ⟨Nat.le_of_ble_eq_true rfl, by simp⟩
  · intro p e s m args below meth c D cA ad Ret C hr hlocks as σ has hσ h
    obtain ⟨k0, rfl⟩ := pX10_layLengths h
    exact vX10_layLengths (rX10_layLengths_0 C hr hlocks) (rX10_layLengths_2 C hr hlocks) k0 σ (has _ (List.mem_of_getElem? (i := 0) rfl)) hσ h
