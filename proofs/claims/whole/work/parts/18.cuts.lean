/-! the trees that may be cut, and the asks -/
def SX1_choose : zS := fun as σ Ret => match as with
  | [.inr (.inr (1, 0, k)), .inr (.inr (3, 0, e))] => (0 ≤ σ e 3 ∧ σ e 3 ≤ 12) ∧ ∀ σ' : zM, (∀ c j, ¬ (c = k ∧ j = 1 ∨ c = k + 1) → σ' c j = σ c j) → σ' k 1 = min 5 (σ e 3) → (∀ i : Nat, (i : Int) < min 5 (σ e 3) → σ' (k + 1) i = σ (e + 2) i) → Ret none σ'
  | _ => False
def tX1_choose_0 (X : Nat → zB) (Ret : zR) (L : zL) (st : List zV) (σ : zM) : Prop := (z_aload 0 (z_push 0 (z_puti 1 1 (z_push 0 (z_istore 2 (X 7)))))) L st σ
def tX1_choose_7 (X : Nat → zB) (Ret : zR) (L : zL) (st : List zV) (σ : zM) : Prop := (z_iload 2 (z_aload 1 (z_geti 3 3 (z_icge (z_vret Ret) (z_aload 0 (z_geti 1 1 (z_push 5 (z_icge (z_vret Ret) (z_aload 0 (z_getr 1 1 100 5 (z_aload 0 (z_geti 1 1 (z_aload 1 (z_getr 3 2 100 12 (z_iload 2 (z_ald 0 (z_iast (z_aload 0 (z_dup (z_geti 1 1 (z_push 1 (z_iadd (z_puti 1 1 (z_iinc 2 1 (z_goto (X 7)))))))))))))))))))))))))) L st σ
theorem pX1_choose {as : List zV} {σ : zM} {Ret : zR} (h : SX1_choose as σ Ret) : ∃ (k0 : Nat) (k1 : Nat), as = [.inr (.inr (1, 0, k0)), .inr (.inr (3, 0, k1))] := by
  unfold SX1_choose at h
  split at h
  · exact ⟨_, _, rfl⟩
  · exact h.elim
set_option maxRecDepth 10000 in
set_option maxHeartbeats 4000000 in
theorem vX1_choose {X : Nat → zB} {Ret : zR} (h0 : ∀ L st σ, tX1_choose_0 X Ret L st σ → X 0 L st σ) (h7 : ∀ L st σ, tX1_choose_7 X Ret L st σ → X 7 L st σ) (k0 : Nat) (k1 : Nat) (σ : zM) (hk0 : z_kd k0 = (1, 0)) (hk1 : z_kd k1 = (3, 0)) (hσ : z_okm σ) (h : SX1_choose [.inr (.inr (1, 0, k0)), .inr (.inr (3, 0, k1))] σ Ret) : X 0 [some (.inr (.inr (1, 0, k0))), some (.inr (.inr (3, 0, k1))), none] [] σ := by
  obtain ⟨⟨c0, c1⟩, h⟩ := h
  have ka : k0 = 84 := by
    have key : ∀ i, i < 108 → z_kd i = (1, 0) → i = 84 := by decide +kernel
    exact key _ (z_kd_lt hk0 (by decide)) hk0
  have kb : k1 = 80 := by
    have key : ∀ i, i < 108 → z_kd i = (3, 0) → i = 80 := by decide +kernel
    exact key _ (z_kd_lt hk1 (by decide)) hk1
  subst ka; subst kb
  obtain ⟨cnt, hcnt⟩ := z_nat c0
  have L7 : ∀ (d i : Nat) (τ : zM), (i : Int) + d = min 5 (cnt : Int) → (∀ c j, ¬ (c = 84 ∧ j = 1 ∨ c = 84 + 1) → τ c j = σ c j) → τ 84 1 = i → (∀ a : Nat, a < i → τ (84 + 1) a = σ (80 + 2) a) → X 7 [some (.inr (.inr (1, 0, 84))), some (.inr (.inr (3, 0, 80))), some (.inl (i : Int))] [] τ := by
    intro d
    induction d with
    | zero =>
      intro i τ hi f1 f2 f3
      refine h7 _ _ _ ?_
      simp only [z_push, z_lpush, z_iload, z_lload, z_aload, z_istore, z_istoreP, z_lstore, z_astore, z_iinc, z_iincP, z_iadd, z_isub, z_imul, z_iaddW, z_isubW, z_imulW, z_idiv, z_irem, z_iand, z_ior, z_ixor, z_ishl, z_ishr, z_iushr, z_ineg, z_i2l, z_i2b, z_i2s, z_i2c, z_l2i, z_ladd, z_lsub, z_land, z_lor, z_lshl, z_lshr, z_lcmp, z_dup, z_pop, z_dup2, z_goto, z_tsw, z_cases, z_geti, z_getr, z_puti, z_putz, z_ald, z_iast, z_bast, z_zast, z_alen, z_acopy, z_mmax, z_mmin, z_mabs, z_mabsL, z_iret, z_zret, z_nret, z_lret, z_aret, z_vret, z_cat, z_ldcs, z_strv, z_strc, z_gcs, z_gfm, z_sln, z_sald, z_ifeq, z_ifne, z_iflt, z_ifge, z_ifgt, z_ifle, z_iceq, z_icne, z_iclt, z_icge, z_icgt, z_icle, z_cs0, z_cs1, z_cs2, z_cs3, z_cs4, z_cs5, z_cs6, z_cs7, z_cv0, z_cv1, z_cv2, z_cv3, z_cv4, z_cv5, z_cv6, z_cv7, z_g0, z_s0, z_g1, z_s1, z_g2, z_s2, z_g3, z_s3, z_g4, z_s4, z_g5, z_s5, z_g6, z_s6, z_g7, z_s7, z_g8, z_s8, z_g9, z_s9, z_g10, z_s10, z_g11, z_s11, z_g12, z_s12, z_g13, z_s13, z_b0, z_b1, z_b0n, z_b1n, z_up_far1, z_up_far2, z_up_far3, z_up_far4, z_up_far5, z_up_far6, Classical.not_not, not_true_eq_false, z_in, z_inL, Int.cast_ofNat_Int, Nat.reduceLeDiff, List.length_cons, List.length_nil, Nat.reduceAdd, Nat.zero_add, Nat.le_refl, true_and, and_true, List.length, Nat.reduceLT, true_or, or_true, false_or, or_false, false_and, and_false, not_true_eq_false, not_false_eq_true, forall_const, false_implies, true_implies, Int.reduceEq, Int.reduceLT, Int.reduceLE, Int.reduceAdd, Int.reduceSub, Int.reduceMul, Int.reduceNeg, Int.reduceToNat, Int.toNat_natCast, ↓reduceIte, reduceIte, Nat.reduceEqDiff, Nat.reduceSub, Nat.reduceMul, ne_eq, Int.zero_add, Int.add_zero, Int.sub_zero, Nat.add_zero, Int.ofNat_eq_natCast, tX1_choose_7, f1 80 3 (by omega), hcnt, f2]
      have fin : Ret none τ := h τ f1 (by rw [f2, hcnt]; omega) (fun a ha => f3 a (by rw [hcnt] at ha; omega))
      repeat' (first | (intro _) | (with_reducible assumption) | (refine And.intro ?_ ?_))
      all_goals first | omega | assumption | (refine z_fin h ?_ rfl; first | rfl | omega | (split <;> omega) | (split <;> split <;> omega)) | skip
    | succ d ih =>
      intro i τ hi f1 f2 f3
      have e1 := ih (i + 1) (z_up (z_up τ (84 + 1) i (σ (80 + 2) i)) 84 1 (i + 1)) (by omega) (fun c j hc => by rw [z_up_ne (by omega), z_up_ne (by omega)]; exact f1 c j hc) (by rw [z_up_eq]; rfl) (fun a ha => by
        rw [z_up_ne (by omega)]
        by_cases q : a = i
        · rw [q, z_up_eq]
        · rw [z_up_ne (by omega)]; exact f3 a (by omega))
      have r1 : ∀ v : Int, z_up τ (84 + 1) i v 84 1 = i := fun v => by rw [z_up_ne (by omega), f2]
      refine h7 _ _ _ ?_
      simp only [z_push, z_lpush, z_iload, z_lload, z_aload, z_istore, z_istoreP, z_lstore, z_astore, z_iinc, z_iincP, z_iadd, z_isub, z_imul, z_iaddW, z_isubW, z_imulW, z_idiv, z_irem, z_iand, z_ior, z_ixor, z_ishl, z_ishr, z_iushr, z_ineg, z_i2l, z_i2b, z_i2s, z_i2c, z_l2i, z_ladd, z_lsub, z_land, z_lor, z_lshl, z_lshr, z_lcmp, z_dup, z_pop, z_dup2, z_goto, z_tsw, z_cases, z_geti, z_getr, z_puti, z_putz, z_ald, z_iast, z_bast, z_zast, z_alen, z_acopy, z_mmax, z_mmin, z_mabs, z_mabsL, z_iret, z_zret, z_nret, z_lret, z_aret, z_vret, z_cat, z_ldcs, z_strv, z_strc, z_gcs, z_gfm, z_sln, z_sald, z_ifeq, z_ifne, z_iflt, z_ifge, z_ifgt, z_ifle, z_iceq, z_icne, z_iclt, z_icge, z_icgt, z_icle, z_cs0, z_cs1, z_cs2, z_cs3, z_cs4, z_cs5, z_cs6, z_cs7, z_cv0, z_cv1, z_cv2, z_cv3, z_cv4, z_cv5, z_cv6, z_cv7, z_g0, z_s0, z_g1, z_s1, z_g2, z_s2, z_g3, z_s3, z_g4, z_s4, z_g5, z_s5, z_g6, z_s6, z_g7, z_s7, z_g8, z_s8, z_g9, z_s9, z_g10, z_s10, z_g11, z_s11, z_g12, z_s12, z_g13, z_s13, z_b0, z_b1, z_b0n, z_b1n, z_up_far1, z_up_far2, z_up_far3, z_up_far4, z_up_far5, z_up_far6, Classical.not_not, not_true_eq_false, z_in, z_inL, Int.cast_ofNat_Int, Nat.reduceLeDiff, List.length_cons, List.length_nil, Nat.reduceAdd, Nat.zero_add, Nat.le_refl, true_and, and_true, List.length, Nat.reduceLT, true_or, or_true, false_or, or_false, false_and, and_false, not_true_eq_false, not_false_eq_true, forall_const, false_implies, true_implies, Int.reduceEq, Int.reduceLT, Int.reduceLE, Int.reduceAdd, Int.reduceSub, Int.reduceMul, Int.reduceNeg, Int.reduceToNat, Int.toNat_natCast, ↓reduceIte, reduceIte, Nat.reduceEqDiff, Nat.reduceSub, Nat.reduceMul, ne_eq, Int.zero_add, Int.add_zero, Int.sub_zero, Nat.add_zero, Int.ofNat_eq_natCast, tX1_choose_7, f1 80 3 (by omega), f1 (80 + 2) i (by omega), f1 82 i (by omega), hcnt, f2, r1]
      repeat' (first | (intro _) | (with_reducible assumption) | (refine And.intro ?_ ?_))
      all_goals first | omega | assumption | (refine z_fin h ?_ rfl; first | rfl | omega | (split <;> omega) | (split <;> split <;> omega)) | skip
  refine h0 _ _ _ ?_
  simp only [z_push, z_lpush, z_iload, z_lload, z_aload, z_istore, z_istoreP, z_lstore, z_astore, z_iinc, z_iincP, z_iadd, z_isub, z_imul, z_iaddW, z_isubW, z_imulW, z_idiv, z_irem, z_iand, z_ior, z_ixor, z_ishl, z_ishr, z_iushr, z_ineg, z_i2l, z_i2b, z_i2s, z_i2c, z_l2i, z_ladd, z_lsub, z_land, z_lor, z_lshl, z_lshr, z_lcmp, z_dup, z_pop, z_dup2, z_goto, z_tsw, z_cases, z_geti, z_getr, z_puti, z_putz, z_ald, z_iast, z_bast, z_zast, z_alen, z_acopy, z_mmax, z_mmin, z_mabs, z_mabsL, z_iret, z_zret, z_nret, z_lret, z_aret, z_vret, z_cat, z_ldcs, z_strv, z_strc, z_gcs, z_gfm, z_sln, z_sald, z_ifeq, z_ifne, z_iflt, z_ifge, z_ifgt, z_ifle, z_iceq, z_icne, z_iclt, z_icge, z_icgt, z_icle, z_cs0, z_cs1, z_cs2, z_cs3, z_cs4, z_cs5, z_cs6, z_cs7, z_cv0, z_cv1, z_cv2, z_cv3, z_cv4, z_cv5, z_cv6, z_cv7, z_g0, z_s0, z_g1, z_s1, z_g2, z_s2, z_g3, z_s3, z_g4, z_s4, z_g5, z_s5, z_g6, z_s6, z_g7, z_s7, z_g8, z_s8, z_g9, z_s9, z_g10, z_s10, z_g11, z_s11, z_g12, z_s12, z_g13, z_s13, z_b0, z_b1, z_b0n, z_b1n, z_up_far1, z_up_far2, z_up_far3, z_up_far4, z_up_far5, z_up_far6, Classical.not_not, not_true_eq_false, z_in, z_inL, Int.cast_ofNat_Int, Nat.reduceLeDiff, List.length_cons, List.length_nil, Nat.reduceAdd, Nat.zero_add, Nat.le_refl, true_and, and_true, List.length, Nat.reduceLT, true_or, or_true, false_or, or_false, false_and, and_false, not_true_eq_false, not_false_eq_true, forall_const, false_implies, true_implies, Int.reduceEq, Int.reduceLT, Int.reduceLE, Int.reduceAdd, Int.reduceSub, Int.reduceMul, Int.reduceNeg, Int.reduceToNat, Int.toNat_natCast, ↓reduceIte, reduceIte, Nat.reduceEqDiff, Nat.reduceSub, Nat.reduceMul, ne_eq, Int.zero_add, Int.add_zero, Int.sub_zero, Nat.add_zero, Int.ofNat_eq_natCast, tX1_choose_0]
  exact L7 (min 5 cnt) 0 (z_up σ 84 1 0) (by omega) (fun c j hc => z_up_ne (by omega)) z_up_eq (fun a ha => absurd ha (Nat.not_lt_zero _))
theorem dX1_choose_0 : decode cX1_choose 0 = .ok (.aload_n 0, 1) := by decide +kernel
theorem dX1_choose_1 : decode cX1_choose 1 = .ok (.iconst 0, 1) := by decide +kernel
theorem dX1_choose_2 : decode cX1_choose 2 = .ok (.putfield 15, 3) := by decide +kernel
theorem dX1_choose_5 : decode cX1_choose 5 = .ok (.iconst 0, 1) := by decide +kernel
theorem dX1_choose_6 : decode cX1_choose 6 = .ok (.istore_n 2, 1) := by decide +kernel
theorem dX1_choose_7 : decode cX1_choose 7 = .ok (.iload_n 2, 1) := by decide +kernel
theorem dX1_choose_8 : decode cX1_choose 8 = .ok (.aload_n 1, 1) := by decide +kernel
theorem dX1_choose_9 : decode cX1_choose 9 = .ok (.getfield 19, 3) := by decide +kernel
theorem dX1_choose_12 : decode cX1_choose 12 = .ok (.if_icmp .ge 42, 3) := by decide +kernel
theorem dX1_choose_15 : decode cX1_choose 15 = .ok (.aload_n 0, 1) := by decide +kernel
theorem dX1_choose_16 : decode cX1_choose 16 = .ok (.getfield 15, 3) := by decide +kernel
theorem dX1_choose_19 : decode cX1_choose 19 = .ok (.iconst 5, 1) := by decide +kernel
theorem dX1_choose_20 : decode cX1_choose 20 = .ok (.if_icmp .ge 34, 3) := by decide +kernel
theorem dX1_choose_23 : decode cX1_choose 23 = .ok (.aload_n 0, 1) := by decide +kernel
theorem dX1_choose_24 : decode cX1_choose 24 = .ok (.getfield 11, 3) := by decide +kernel
theorem dX1_choose_27 : decode cX1_choose 27 = .ok (.aload_n 0, 1) := by decide +kernel
theorem dX1_choose_28 : decode cX1_choose 28 = .ok (.getfield 15, 3) := by decide +kernel
theorem dX1_choose_31 : decode cX1_choose 31 = .ok (.aload_n 1, 1) := by decide +kernel
theorem dX1_choose_32 : decode cX1_choose 32 = .ok (.getfield 22, 3) := by decide +kernel
theorem dX1_choose_35 : decode cX1_choose 35 = .ok (.iload_n 2, 1) := by decide +kernel
theorem dX1_choose_36 : decode cX1_choose 36 = .ok (.iaload, 1) := by decide +kernel
theorem dX1_choose_37 : decode cX1_choose 37 = .ok (.iastore, 1) := by decide +kernel
theorem dX1_choose_38 : decode cX1_choose 38 = .ok (.aload_n 0, 1) := by decide +kernel
theorem dX1_choose_39 : decode cX1_choose 39 = .ok (.dup, 1) := by decide +kernel
theorem dX1_choose_40 : decode cX1_choose 40 = .ok (.getfield 15, 3) := by decide +kernel
theorem dX1_choose_43 : decode cX1_choose 43 = .ok (.iconst 1, 1) := by decide +kernel
theorem dX1_choose_44 : decode cX1_choose 44 = .ok (.iadd, 1) := by decide +kernel
theorem dX1_choose_45 : decode cX1_choose 45 = .ok (.putfield 15, 3) := by decide +kernel
theorem dX1_choose_48 : decode cX1_choose 48 = .ok (.iinc 2 1, 3) := by decide +kernel
theorem dX1_choose_51 : decode cX1_choose 51 = .ok (.goto (-44), 3) := by decide +kernel
theorem dX1_choose_54 : decode cX1_choose 54 = .ok (.return_, 1) := by decide +kernel
set_option maxRecDepth 100000 in
theorem rX1_choose_0 {p : Program} {l : Launch} {e : Env} {s : State} {m : MethodId} {args : Array Value} {below : List Frame} {meth : Method} {c : Code} {D : va_G} {cA : Nat → ClassId} {ad : Nat → Nat} {Ret : zR} (C : z_Cx p { frames := 0, cells := 0, slots := 0, locals := 0 } s m args c cX1_choose yX1_choose.cls 3 D cA ad) (hr : meth.sig.returnType = none) (hlocks : meth.locks = false) : ∀ L st σ, tX1_choose_0 (z_X p l e { frames := 0, cells := 0, slots := 0, locals := 0 } s m args below meth c (MQ below (z_Qc D cA ad Ret) args s 0 0 (z_A ad)) 3 D cA ad true) Ret L st σ → z_X p l e { frames := 0, cells := 0, slots := 0, locals := 0 } s m args below meth c (MQ below (z_Qc D cA ad Ret) args s 0 0 (z_A ad)) 3 D cA ad true 0 L st σ := (s_aload_n C dX1_choose_0 rfl (s_iconst C dX1_choose_1 rfl ⟨by decide, by decide⟩ (s_puti C dX1_choose_2 cls_X1 (by decide) rfl wd_324 rfl rfl (s_iconst C dX1_choose_5 rfl ⟨by decide, by decide⟩ (s_istore_n C dX1_choose_6 (by decide) rfl rfl (fun _ _ _ h => h))))))
set_option maxRecDepth 100000 in
theorem rX1_choose_7 {p : Program} {l : Launch} {e : Env} {s : State} {m : MethodId} {args : Array Value} {below : List Frame} {meth : Method} {c : Code} {D : va_G} {cA : Nat → ClassId} {ad : Nat → Nat} {Ret : zR} (C : z_Cx p { frames := 0, cells := 0, slots := 0, locals := 0 } s m args c cX1_choose yX1_choose.cls 3 D cA ad) (hr : meth.sig.returnType = none) (hlocks : meth.locks = false) : ∀ L st σ, tX1_choose_7 (z_X p l e { frames := 0, cells := 0, slots := 0, locals := 0 } s m args below meth c (MQ below (z_Qc D cA ad Ret) args s 0 0 (z_A ad)) 3 D cA ad true) Ret L st σ → z_X p l e { frames := 0, cells := 0, slots := 0, locals := 0 } s m args below meth c (MQ below (z_Qc D cA ad Ret) args s 0 0 (z_A ad)) 3 D cA ad true 7 L st σ := (s_iload_n C dX1_choose_7 rfl (s_aload_n C dX1_choose_8 rfl (s_geti C dX1_choose_9 cls_X3 (by decide) rfl wd_306 (s_icge C dX1_choose_12 (by decide) (s_vret C dX1_choose_54 hr hlocks) (s_aload_n C dX1_choose_15 rfl (s_geti C dX1_choose_16 cls_X1 (by decide) rfl wd_324 (s_iconst C dX1_choose_19 rfl ⟨by decide, by decide⟩ (s_icge C dX1_choose_20 (by decide) (s_vret C dX1_choose_54 hr hlocks) (s_aload_n C dX1_choose_23 rfl (s_getr C dX1_choose_24 (j := 0) cls_X1 (by decide) rfl (by decide) (by decide) (by decide +kernel) wd_323 (s_aload_n C dX1_choose_27 rfl (s_geti C dX1_choose_28 cls_X1 (by decide) rfl wd_324 (s_aload_n C dX1_choose_31 rfl (s_getr C dX1_choose_32 (j := 1) cls_X3 (by decide) rfl (by decide) (by decide) (by decide +kernel) wd_303 (s_iload_n C dX1_choose_35 rfl (s_iald C dX1_choose_36 (s_iast C dX1_choose_37 (s_aload_n C dX1_choose_38 rfl (s_dup C dX1_choose_39 (s_geti C dX1_choose_40 cls_X1 (by decide) rfl wd_324 (s_iconst C dX1_choose_43 rfl ⟨by decide, by decide⟩ (s_iadd C dX1_choose_44 (s_puti C dX1_choose_45 cls_X1 (by decide) rfl wd_324 rfl rfl (s_iinc C dX1_choose_48 (by decide) rfl (s_goto C dX1_choose_51 (by decide) (fun _ _ _ h => h))))))))))))))))))))))))))
theorem okX1_choose (l : Launch) : z_OK l yX1_choose cX1_choose 3 none 0 0 SX1_choose := by
  refine z_ok_of true (by decide +kernel) ?_ ?_
  · intro as σ Ret h
    obtain ⟨k0, k1, rfl⟩ := pX1_choose h
    exact ⟨Nat.le_of_ble_eq_true rfl, by simp⟩
  · intro p e s m args below meth c D cA ad Ret C hr hlocks as σ has hσ h
    obtain ⟨k0, k1, rfl⟩ := pX1_choose h
    exact vX1_choose (rX1_choose_0 C hr hlocks) (rX1_choose_7 C hr hlocks) k0 k1 σ (has _ (List.mem_of_getElem? (i := 0) rfl)) (has _ (List.mem_of_getElem? (i := 1) rfl)) hσ h
