/-! the trees that may be cut, and the asks -/
def SX1_choose : zS := fun as σ Ret => match as with
  | [.inr (.inr (1, 0, k)), .inr (.inr (3, 0, e))] => (0 ≤ σ e 3 ∧ σ e 3 ≤ 12) ∧ ∀ σ' : zM, (∀ c j, ¬ (c = k ∧ j = 1 ∨ c = k + 1) → σ' c j = σ c j) → σ' k 1 = min 5 (σ e 3) → (∀ i : Nat, (i : Int) < min 5 (σ e 3) → σ' (k + 1) i = σ (e + 2) i) → Ret none σ'
  | _ => False
def tX1_choose_0 (X : Nat → zB) (Ret : zR) (L : zL) (st : List zV) (σ : zM) : Prop := (z_aload 0 (z_push 0 (z_puti 1 1 (z_push 0 (z_istore 2 (X 7)))))) L st σ
def tX1_choose_7 (X : Nat → zB) (Ret : zR) (L : zL) (st : List zV) (σ : zM) : Prop := (z_iload 2 (z_aload 1 (z_geti 3 3 (z_icge (z_vret Ret) (z_aload 0 (z_geti 1 1 (z_push 5 (z_icge (z_vret Ret) (z_aload 0 (z_getr 1 1 100 5 (z_aload 0 (z_geti 1 1 (z_aload 1 (z_getr 3 2 100 12 (z_iload 2 (z_ald 0 (z_iast (z_aload 0 (z_dup (z_geti 1 1 (z_push 1 (z_iadd (z_puti 1 1 (z_iinc 2 1 (z_goto (X 7)))))))))))))))))))))))))) L st σ
theorem pX1_choose {as : List zV} {σ : zM} {Ret : zR} (h : SX1_choose as σ Ret) : ∃ (k0 : Nat) (k1 : Nat), as = [.inr (.inr (1, 0, k0)), .inr (.inr (3, 0, k1))] := by
  unfold SX1_choose at h
  split at h
  · exact ⟨_, _, rfl⟩
  · exact h.elim
set_option maxRecDepth 10000 in
set_option maxHeartbeats 4000000 in
theorem vX1_choose {X : Nat → zB} {Ret : zR} (h0 : ∀ L st σ, tX1_choose_0 X Ret L st σ → X 0 L st σ) (h7 : ∀ L st σ, tX1_choose_7 X Ret L st σ → X 7 L st σ) (k0 : Nat) (k1 : Nat) (σ : zM) (hk0 : z_kd k0 = (1, 0)) (hk1 : z_kd k1 = (3, 0)) (hσ : z_okm σ) (h : SX1_choose [.inr (.inr (1, 0, k0)), .inr (.inr (3, 0, k1))] σ Ret) : X 0 [some (.inr (.inr (1, 0, k0))), some (.inr (.inr (3, 0, k1))), none] [] σ := by
  obtain ⟨⟨c0, c1⟩, h⟩ := h
  have ka : k0 = 84 := by
    have key : ∀ i, i < 108 → z_kd i = (1, 0) → i = 84 := by decide +kernel
    exact key _ (z_kd_lt hk0 (by decide)) hk0
  have kb : k1 = 80 := by
    have key : ∀ i, i < 108 → z_kd i = (3, 0) → i = 80 := by decide +kernel
    exact key _ (z_kd_lt hk1 (by decide)) hk1
  subst ka; subst kb
  obtain ⟨cnt, hcnt⟩ := z_nat c0
  have L7 : ∀ (d i : Nat) (τ : zM), (i : Int) + d = min 5 (cnt : Int) → (∀ c j, ¬ (c = 84 ∧ j = 1 ∨ c = 84 + 1) → τ c j = σ c j) → τ 84 1 = i → (∀ a : Nat, a < i → τ (84 + 1) a = σ (80 + 2) a) → X 7 [some (.inr (.inr (1, 0, 84))), some (.inr (.inr (3, 0, 80))), some (.inl (i : Int))] [] τ := by
    intro d
    induction d with
    | zero =>
      intro i τ hi f1 f2 f3
      refine h7 _ _ _ ?_
      simp only [z_push, z_lpush, z_iload, z_lload, z_aload, z_istore, z_istoreP, z_lstore, z_astore, z_iinc, z_iincP, z_iadd, z_isub, z_imul, z_iaddW, z_isubW, z_imulW, z_idiv, z_irem, z_iand, z_ior, z_ixor, z_ishl, z_ishr, z_iushr, z_ineg, z_i2l, z_i2b, z_i2s, z_i2c, z_l2i, z_ladd, z_lsub, z_land, z_lor, z_lshl, z_lshr, z_lcmp, z_dup, z_pop, z_dup2, z_goto, z_tsw, z_cases, z_geti, z_getr, z_puti, z_putz, z_ald, z_iast, z_bast, z_zast, z_alen, z_acopy, z_mmax, z_mmin, z_mabs, z_mabsL, z_iret, z_zret, z_nret, z_lret, z_aret, z_vret, z_cat, z_ldcs, z_strv, z_strc, z_gcs, z_gfm, z_sln, z_sald, z_ifeq, z_ifne, z_iflt, z_ifge, z_ifgt, z_ifle, z_iceq, z_icne, z_iclt, z_icge, z_icgt, z_icle, z_cs0, z_cs1, z_cs2, z_cs3, z_cs4, z_cs5, z_cs6, z_cs7, z_cv0, z_cv1, z_cv2, z_cv3, z_cv4, z_cv5, z_cv6, z_cv7, z_g0, z_s0, z_g1, z_s1, z_g2, z_s2, z_g3, z_s3, z_g4, z_s4, z_g5, z_s5, z_g6, z_s6, z_g7, z_s7, z_g8, z_s8, z_g9, z_s9, z_g10, z_s10, z_g11, z_s11, z_g12, z_s12, z_g13, z_s13, z_b0, z_b1, z_b0n, z_b1n, z_up_far1, z_up_far2, z_up_far3, z_up_far4, z_up_far5, z_up_far6, Classical.not_not, not_true_eq_false, z_in, z_inL, Int.cast_ofNat_Int, Nat.reduceLeDiff, List.length_cons, List.length_nil, Nat.reduceAdd, Nat.zero_add, Nat.le_refl, true_and, and_true, List.length, Nat.reduceLT, true_or, or_true, false_or, or_false, false_and, and_false, not_true_eq_false, not_false_eq_true, forall_const, false_implies, true_implies, Int.reduceEq, Int.reduceLT, Int.reduceLE, Int.reduceAdd, Int.reduceSub, Int.reduceMul, Int.reduceNeg, Int.reduceToNat, Int.toNat_natCast, ↓reduceIte, reduceIte, Nat.reduceEqDiff, Nat.reduceSub, Nat.reduceMul, ne_eq, Int.zero_add, Int.add_zero, Int.sub_zero, Nat.add_zero, Int.ofNat_eq_natCast, tX1_choose_7, f1 80 3 (by omega), hcnt, f2]
      have fin : Ret none τ := h τ f1 (by rw [f2, hcnt]; omega) (fun a ha => f3 a (by rw [hcnt] at ha; omega))
      repeat' (first | (intro _) | (with_reducible assumption) | (refine And.intro ?_ ?_))
      all_goals first | omega | assumption | (refine z_fin h ?_ rfl; first | rfl | omega | (split <;> omega) | (split <;> split <;> omega)) | skip
    | succ d ih =>
      intro i τ hi f1 f2 f3
      have e1 := ih (i + 1) (z_up (z_up τ (84 + 1) i (σ (80 + 2) i)) 84 1 (i + 1)) (by omega) (fun c j hc => by rw [z_up_ne (by omega), z_up_ne (by omega)]; exact f1 c j hc) (by rw [z_up_eq]; rfl) (fun a ha => by
        rw [z_up_ne (by omega)]
        by_cases q : a = i
        · rw [q, z_up_eq]
        · rw [z_up_ne (by omega)]; exact f3 a (by omega))
      have r1 : ∀ v : Int, z_up τ (84 + 1) i v 84 1 = i := fun v => by rw [z_up_ne (by omega), f2]
      refine h7 _ _ _ ?_
      simp only [z_push, z_lpush, z_iload, z_lload, z_aload, z_istore, z_istoreP, z_lstore, z_astore, z_iinc, z_iincP, z_iadd, z_isub, z_imul, z_iaddW, z_isubW, z_imulW, z_idiv, z_irem, z_iand, z_ior, z_ixor, z_ishl, z_ishr, z_iushr, z_ineg, z_i2l, z_i2b, z_i2s, z_i2c, z_l2i, z_ladd, z_lsub, z_land, z_lor, z_lshl, z_lshr, z_lcmp, z_dup, z_pop, z_dup2, z_goto, z_tsw, z_cases, z_geti, z_getr, z_puti, z_putz, z_ald, z_iast, z_bast, z_zast, z_alen, z_acopy, z_mmax, z_mmin, z_mabs, z_mabsL, z_iret, z_zret, z_nret, z_lret, z_aret, z_vret, z_cat, z_ldcs, z_strv, z_strc, z_gcs, z_gfm, z_sln, z_sald, z_ifeq, z_ifne, z_iflt, z_ifge, z_ifgt, z_ifle, z_iceq, z_icne, z_iclt, z_icge, z_icgt, z_icle, z_cs0, z_cs1, z_cs2, z_cs3, z_cs4, z_cs5, z_cs6, z_cs7, z_cv0, z_cv1, z_cv2, z_cv3, z_cv4, z_cv5, z_cv6, z_cv7, z_g0, z_s0, z_g1, z_s1, z_g2, z_s2, z_g3, z_s3, z_g4, z_s4, z_g5, z_s5, z_g6, z_s6, z_g7, z_s7, z_g8, z_s8, z_g9, z_s9, z_g10, z_s10, z_g11, z_s11, z_g12, z_s12, z_g13, z_s13, z_b0, z_b1, z_b0n, z_b1n, z_up_far1, z_up_far2, z_up_far3, z_up_far4, z_up_far5, z_up_far6, Classical.not_not, not_true_eq_false, z_in, z_inL, Int.cast_ofNat_Int, Nat.reduceLeDiff, List.length_cons, List.length_nil, Nat.reduceAdd, Nat.zero_add, Nat.le_refl, true_and, and_true, List.length, Nat.reduceLT, true_or, or_true, false_or, or_false, false_and, and_false, not_true_eq_false, not_false_eq_true, forall_const, false_implies, true_implies, Int.reduceEq, Int.reduceLT, Int.reduceLE, Int.reduceAdd, Int.reduceSub, Int.reduceMul, Int.reduceNeg, Int.reduceToNat, Int.toNat_natCast, ↓reduceIte, reduceIte, Nat.reduceEqDiff, Nat.reduceSub, Nat.reduceMul, ne_eq, Int.zero_add, Int.add_zero, Int.sub_zero, Nat.add_zero, Int.ofNat_eq_natCast, tX1_choose_7, f1 80 3 (by omega), f1 (80 + 2) i (by omega), f1 82 i (by omega), hcnt, f2, r1]
      repeat' (first | (intro _) | (with_reducible assumption) | (refine And.intro ?_ ?_))
      all_goals first | omega | assumption | (refine z_fin h ?_ rfl; first | rfl | omega | (split <;> omega) | (split <;> split <;> omega)) | skip
  refine h0 _ _ _ ?_
  simp only [z_push, z_lpush, z_iload, z_lload, z_aload, z_istore, z_istoreP, z_lstore, z_astore, z_iinc, z_iincP, z_iadd, z_isub, z_imul, z_iaddW, z_isubW, z_imulW, z_idiv, z_irem, z_iand, z_ior, z_ixor, z_ishl, z_ishr, z_iushr, z_ineg, z_i2l, z_i2b, z_i2s, z_i2c, z_l2i, z_ladd, z_lsub, z_land, z_lor, z_lshl, z_lshr, z_lcmp, z_dup, z_pop, z_dup2, z_goto, z_tsw, z_cases, z_geti, z_getr, z_puti, z_putz, z_ald, z_iast, z_bast, z_zast, z_alen, z_acopy, z_mmax, z_mmin, z_mabs, z_mabsL, z_iret, z_zret, z_nret, z_lret, z_aret, z_vret, z_cat, z_ldcs, z_strv, z_strc, z_gcs, z_gfm, z_sln, z_sald, z_ifeq, z_ifne, z_iflt, z_ifge, z_ifgt, z_ifle, z_iceq, z_icne, z_iclt, z_icge, z_icgt, z_icle, z_cs0, z_cs1, z_cs2, z_cs3, z_cs4, z_cs5, z_cs6, z_cs7, z_cv0, z_cv1, z_cv2, z_cv3, z_cv4, z_cv5, z_cv6, z_cv7, z_g0, z_s0, z_g1, z_s1, z_g2, z_s2, z_g3, z_s3, z_g4, z_s4, z_g5, z_s5, z_g6, z_s6, z_g7, z_s7, z_g8, z_s8, z_g9, z_s9, z_g10, z_s10, z_g11, z_s11, z_g12, z_s12, z_g13, z_s13, z_b0, z_b1, z_b0n, z_b1n, z_up_far1, z_up_far2, z_up_far3, z_up_far4, z_up_far5, z_up_far6, Classical.not_not, not_true_eq_false, z_in, z_inL, Int.cast_ofNat_Int, Nat.reduceLeDiff, List.length_cons, List.length_nil, Nat.reduceAdd, Nat.zero_add, Nat.le_refl, true_and, and_true, List.length, Nat.reduceLT, true_or, or_true, false_or, or_false, false_and, and_false, not_true_eq_false, not_false_eq_true, forall_const, false_implies, true_implies, Int.reduceEq, Int.reduceLT, Int.reduceLE, Int.reduceAdd, Int.reduceSub, Int.reduceMul, Int.reduceNeg, Int.reduceToNat, Int.toNat_natCast, ↓reduceIte, reduceIte, Nat.reduceEqDiff, Nat.reduceSub, Nat.reduceMul, ne_eq, Int.zero_add, Int.add_zero, Int.sub_zero, Nat.add_zero, Int.ofNat_eq_natCast, tX1_choose_0]
  exact L7 (min 5 cnt) 0 (z_up σ 84 1 0) (by omega) (fun c j hc => z_up_ne (by omega)) z_up_eq (fun a ha => absurd ha (Nat.not_lt_zero _))
theorem dX1_choose_0 : decode cX1_choose 0 = .ok (.aload_n 0, 1) := by decide +kernel
theorem dX1_choose_1 : decode cX1_choose 1 = .ok (.iconst 0, 1) := by decide +kernel
theorem dX1_choose_2 : decode cX1_choose 2 = .ok (.putfield 15, 3) := by decide +kernel
theorem dX1_choose_5 : decode cX1_choose 5 = .ok (.iconst 0, 1) := by decide +kernel
theorem dX1_choose_6 : decode cX1_choose 6 = .ok (.istore_n 2, 1) := by decide +kernel
theorem dX1_choose_7 : decode cX1_choose 7 = .ok (.iload_n 2, 1) := by decide +kernel
theorem dX1_choose_8 : decode cX1_choose 8 = .ok (.aload_n 1, 1) := by decide +kernel
theorem dX1_choose_9 : decode cX1_choose 9 = .ok (.getfield 19, 3) := by decide +kernel
theorem dX1_choose_12 : decode cX1_choose 12 = .ok (.if_icmp .ge 42, 3) := by decide +kernel
theorem dX1_choose_15 : decode cX1_choose 15 = .ok (.aload_n 0, 1) := by decide +kernel
theorem dX1_choose_16 : decode cX1_choose 16 = .ok (.getfield 15, 3) := by decide +kernel
theorem dX1_choose_19 : decode cX1_choose 19 = .ok (.iconst 5, 1) := by decide +kernel
theorem dX1_choose_20 : decode cX1_choose 20 = .ok (.if_icmp .ge 34, 3) := by decide +kernel
theorem dX1_choose_23 : decode cX1_choose 23 = .ok (.aload_n 0, 1) := by decide +kernel
theorem dX1_choose_24 : decode cX1_choose 24 = .ok (.getfield 11, 3) := by decide +kernel
theorem dX1_choose_27 : decode cX1_choose 27 = .ok (.aload_n 0, 1) := by decide +kernel
theorem dX1_choose_28 : decode cX1_choose 28 = .ok (.getfield 15, 3) := by decide +kernel
theorem dX1_choose_31 : decode cX1_choose 31 = .ok (.aload_n 1, 1) := by decide +kernel
theorem dX1_choose_32 : decode cX1_choose 32 = .ok (.getfield 22, 3) := by decide +kernel
theorem dX1_choose_35 : decode cX1_choose 35 = .ok (.iload_n 2, 1) := by decide +kernel
theorem dX1_choose_36 : decode cX1_choose 36 = .ok (.iaload, 1) := by decide +kernel
theorem dX1_choose_37 : decode cX1_choose 37 = .ok (.iastore, 1) := by decide +kernel
theorem dX1_choose_38 : decode cX1_choose 38 = .ok (.aload_n 0, 1) := by decide +kernel
theorem dX1_choose_39 : decode cX1_choose 39 = .ok (.dup, 1) := by decide +kernel
theorem dX1_choose_40 : decode cX1_choose 40 = .ok (.getfield 15, 3) := by decide +kernel
theorem dX1_choose_43 : decode cX1_choose 43 = .ok (.iconst 1, 1) := by decide +kernel
theorem dX1_choose_44 : decode cX1_choose 44 = .ok (.iadd, 1) := by decide +kernel
theorem dX1_choose_45 : decode cX1_choose 45 = .ok (.putfield 15, 3) := by decide +kernel
theorem dX1_choose_48 : decode cX1_choose 48 = .ok (.iinc 2 1, 3) := by decide +kernel
theorem dX1_choose_51 : decode cX1_choose 51 = .ok (.goto (-44), 3) := by decide +kernel
theorem dX1_choose_54 : decode cX1_choose 54 = .ok (.return_, 1) := by decide +kernel
set_option maxRecDepth 100000 in
theorem rX1_choose_0 {p : Program} {l : Launch} {e : Env} {s : State} {m : MethodId} {args : Array Value} {below : List Frame} {meth : Method} {c : Code} {D : va_G} {cA : Nat → ClassId} {ad : Nat → Nat} {Ret : zR} (C : z_Cx p { frames := 0, cells := 0, slots := 0, locals := 0 } s m args c cX1_choose yX1_choose.cls 3 D cA ad) (hr : meth.sig.returnType = none) (hlocks : meth.locks = false) : ∀ L st σ, tX1_choose_0 (z_X p l e { frames := 0, cells := 0, slots := 0, locals := 0 } s m args below meth c (MQ below (z_Qc D cA ad Ret) args s 0 0 (z_A ad)) 3 D cA ad true) Ret L st σ → z_X p l e { frames := 0, cells := 0, slots := 0, locals := 0 } s m args below meth c (MQ below (z_Qc D cA ad Ret) args s 0 0 (z_A ad)) 3 D cA ad true 0 L st σ := (s_aload_n C dX1_choose_0 rfl (s_iconst C dX1_choose_1 rfl ⟨by decide, by decide⟩ (s_puti C dX1_choose_2 cls_X1 (by decide) rfl wd_324 rfl rfl (s_iconst C dX1_choose_5 rfl ⟨by decide, by decide⟩ (s_istore_n C dX1_choose_6 (by decide) rfl rfl (fun _ _ _ h => h))))))
set_option maxRecDepth 100000 in
theorem rX1_choose_7 {p : Program} {l : Launch} {e : Env} {s : State} {m : MethodId} {args : Array Value} {below : List Frame} {meth : Method} {c : Code} {D : va_G} {cA : Nat → ClassId} {ad : Nat → Nat} {Ret : zR} (C : z_Cx p { frames := 0, cells := 0, slots := 0, locals := 0 } s m args c cX1_choose yX1_choose.cls 3 D cA ad) (hr : meth.sig.returnType = none) (hlocks : meth.locks = false) : ∀ L st σ, tX1_choose_7 (z_X p l e { frames := 0, cells := 0, slots := 0, locals := 0 } s m args below meth c (MQ below (z_Qc D cA ad Ret) args s 0 0 (z_A ad)) 3 D cA ad true) Ret L st σ → z_X p l e { frames := 0, cells := 0, slots := 0, locals := 0 } s m args below meth c (MQ below (z_Qc D cA ad Ret) args s 0 0 (z_A ad)) 3 D cA ad true 7 L st σ := (s_iload_n C dX1_choose_7 rfl (s_aload_n C dX1_choose_8 rfl (s_geti C dX1_choose_9 cls_X3 (by decide) rfl wd_306 (s_icge C dX1_choose_12 (by decide) (s_vret C dX1_choose_54 hr hlocks) (s_aload_n C dX1_choose_15 rfl (s_geti C dX1_choose_16 cls_X1 (by decide) rfl wd_324 (s_iconst C dX1_choose_19 rfl ⟨by decide, by decide⟩ (s_icge C dX1_choose_20 (by decide) (s_vret C dX1_choose_54 hr hlocks) (s_aload_n C dX1_choose_23 rfl (s_getr C dX1_choose_24 (j := 0) cls_X1 (by decide) rfl (by decide) (by decide) (by decide +kernel) wd_323 (s_aload_n C dX1_choose_27 rfl (s_geti C dX1_choose_28 cls_X1 (by decide) rfl wd_324 (s_aload_n C dX1_choose_31 rfl (s_getr C dX1_choose_32 (j := 1) cls_X3 (by decide) rfl (by decide) (by decide) (by decide +kernel) wd_303 (s_iload_n C dX1_choose_35 rfl (s_iald C dX1_choose_36 (s_iast C dX1_choose_37 (s_aload_n C dX1_choose_38 rfl (s_dup C dX1_choose_39 (s_geti C dX1_choose_40 cls_X1 (by decide) rfl wd_324 (s_iconst C dX1_choose_43 rfl ⟨by decide, by decide⟩ (s_iadd C dX1_choose_44 (s_puti C dX1_choose_45 cls_X1 (by decide) rfl wd_324 rfl rfl (s_iinc C dX1_choose_48 (by decide) rfl (s_goto C dX1_choose_51 (by decide) (fun _ _ _ h => h))))))))))))))))))))))))))
theorem okX1_choose (l : Launch) : z_OK l yX1_choose cX1_choose 3 none 0 0 SX1_choose := by
  refine z_ok_of true (by decide +kernel) ?_ ?_
  · intro as σ Ret h
    obtain ⟨k0, k1, rfl⟩ := pX1_choose h
    exact ⟨Nat.le_of_ble_eq_true rfl, by simp⟩
  · intro p e s m args below meth c D cA ad Ret C hr hlocks as σ has hσ h
    obtain ⟨k0, k1, rfl⟩ := pX1_choose h
    exact vX1_choose (rX1_choose_0 C hr hlocks) (rX1_choose_7 C hr hlocks) k0 k1 σ (has _ (List.mem_of_getElem? (i := 0) rfl)) (has _ (List.mem_of_getElem? (i := 1) rfl)) hσ h
theorem z_sh4 : ∀ c : Nat, c < 6 → (Int32.ofInt 1 <<< (Int32.ofInt (2 * (c : Int)) &&& 31)).toInt = ((4 ^ c : Nat) : Int) := by decide +kernel
theorem z_four {P : Nat → Prop} (h : ∀ a, a < 32 → ∀ b, b < 32 → P (32 * a + b)) (s : Nat) (hs : s < 1024) : P s := by
  have := h (s / 32) (by omega) (s % 32) (by omega)
  rwa [Nat.div_add_mod] at this
def q_dg (s i : Nat) : Nat := s / 4 ^ i % 4
theorem q_dg_lt (s i : Nat) : q_dg s i < 4 := Nat.mod_lt _ (by decide)
theorem z_dig (s : Nat) (hs : s < 1024) : ∀ i : Nat, i < 5 → (Int32.ofInt (Int32.ofInt (s : Int) >>> (Int32.ofInt (2 * (i : Int)) &&& 31)).toInt &&& Int32.ofInt 3).toInt = (q_dg s i : Int) := z_four (P := fun s => ∀ i : Nat, i < 5 → (Int32.ofInt (Int32.ofInt (s : Int) >>> (Int32.ofInt (2 * (i : Int)) &&& 31)).toInt &&& Int32.ofInt 3).toInt = (q_dg s i : Int)) (by decide +kernel) s hs
def SX1_rowsOfSteps : zS := fun as σ Ret => match as with
  | [.inr (.inr (1, 0, k))] => (0 ≤ σ k 1 ∧ σ k 1 ≤ 5) ∧ Ret (some (.inl ((4 ^ (σ k 1).toNat : Nat) : Int))) σ
  | _ => False
def tX1_rowsOfSteps_0 (X : Nat → zB) (Ret : zR) (L : zL) (st : List zV) (σ : zM) : Prop := (z_push 1 (z_push 2 (z_aload 0 (z_geti 1 1 (z_imul (z_ishl (z_iret Ret))))))) L st σ
theorem pX1_rowsOfSteps {as : List zV} {σ : zM} {Ret : zR} (h : SX1_rowsOfSteps as σ Ret) : ∃ (k0 : Nat), as = [.inr (.inr (1, 0, k0))] := by
  unfold SX1_rowsOfSteps at h
  split at h
  · exact ⟨_, rfl⟩
  · exact h.elim
set_option maxRecDepth 10000 in
set_option maxHeartbeats 4000000 in
theorem vX1_rowsOfSteps {X : Nat → zB} {Ret : zR} (h0 : ∀ L st σ, tX1_rowsOfSteps_0 X Ret L st σ → X 0 L st σ) (k0 : Nat) (σ : zM) (hk0 : z_kd k0 = (1, 0)) (hσ : z_okm σ) (h : SX1_rowsOfSteps [.inr (.inr (1, 0, k0))] σ Ret) : X 0 [some (.inr (.inr (1, 0, k0)))] [] σ := by
  obtain ⟨⟨c0, c1⟩, h⟩ := h
  obtain ⟨c, hc⟩ := z_nat c0
  rw [hc, Int.toNat_natCast] at h
  have e := z_sh4 c (by omega)
  refine h0 _ _ _ ?_
  simp only [z_push, z_lpush, z_iload, z_lload, z_aload, z_istore, z_istoreP, z_lstore, z_astore, z_iinc, z_iincP, z_iadd, z_isub, z_imul, z_iaddW, z_isubW, z_imulW, z_idiv, z_irem, z_iand, z_ior, z_ixor, z_ishl, z_ishr, z_iushr, z_ineg, z_i2l, z_i2b, z_i2s, z_i2c, z_l2i, z_ladd, z_lsub, z_land, z_lor, z_lshl, z_lshr, z_lcmp, z_dup, z_pop, z_dup2, z_goto, z_tsw, z_cases, z_geti, z_getr, z_puti, z_putz, z_ald, z_iast, z_bast, z_zast, z_alen, z_acopy, z_mmax, z_mmin, z_mabs, z_mabsL, z_iret, z_zret, z_nret, z_lret, z_aret, z_vret, z_cat, z_ldcs, z_strv, z_strc, z_gcs, z_gfm, z_sln, z_sald, z_ifeq, z_ifne, z_iflt, z_ifge, z_ifgt, z_ifle, z_iceq, z_icne, z_iclt, z_icge, z_icgt, z_icle, z_cs0, z_cs1, z_cs2, z_cs3, z_cs4, z_cs5, z_cs6, z_cs7, z_cv0, z_cv1, z_cv2, z_cv3, z_cv4, z_cv5, z_cv6, z_cv7, z_g0, z_s0, z_g1, z_s1, z_g2, z_s2, z_g3, z_s3, z_g4, z_s4, z_g5, z_s5, z_g6, z_s6, z_g7, z_s7, z_g8, z_s8, z_g9, z_s9, z_g10, z_s10, z_g11, z_s11, z_g12, z_s12, z_g13, z_s13, z_b0, z_b1, z_b0n, z_b1n, z_up_far1, z_up_far2, z_up_far3, z_up_far4, z_up_far5, z_up_far6, Classical.not_not, not_true_eq_false, z_in, z_inL, Int.cast_ofNat_Int, Nat.reduceLeDiff, List.length_cons, List.length_nil, Nat.reduceAdd, Nat.zero_add, Nat.le_refl, true_and, and_true, List.length, Nat.reduceLT, true_or, or_true, false_or, or_false, false_and, and_false, not_true_eq_false, not_false_eq_true, forall_const, false_implies, true_implies, Int.reduceEq, Int.reduceLT, Int.reduceLE, Int.reduceAdd, Int.reduceSub, Int.reduceMul, Int.reduceNeg, Int.reduceToNat, Int.toNat_natCast, ↓reduceIte, reduceIte, Nat.reduceEqDiff, Nat.reduceSub, Nat.reduceMul, ne_eq, Int.zero_add, Int.add_zero, Int.sub_zero, Nat.add_zero, Int.ofNat_eq_natCast, tX1_rowsOfSteps_0, hc, e]
  repeat' (first | (intro _) | (with_reducible assumption) | (refine And.intro ?_ ?_))
  all_goals first | omega | assumption | (refine z_fin h ?_ rfl; first | rfl | omega | (split <;> omega) | (split <;> split <;> omega)) | skip
theorem dX1_rowsOfSteps_0 : decode cX1_rowsOfSteps 0 = .ok (.iconst 1, 1) := by decide +kernel
theorem dX1_rowsOfSteps_1 : decode cX1_rowsOfSteps 1 = .ok (.iconst 2, 1) := by decide +kernel
theorem dX1_rowsOfSteps_2 : decode cX1_rowsOfSteps 2 = .ok (.aload_n 0, 1) := by decide +kernel
theorem dX1_rowsOfSteps_3 : decode cX1_rowsOfSteps 3 = .ok (.getfield 15, 3) := by decide +kernel
theorem dX1_rowsOfSteps_6 : decode cX1_rowsOfSteps 6 = .ok (.imul, 1) := by decide +kernel
theorem dX1_rowsOfSteps_7 : decode cX1_rowsOfSteps 7 = .ok (.ishl, 1) := by decide +kernel
theorem dX1_rowsOfSteps_8 : decode cX1_rowsOfSteps 8 = .ok (.ireturn, 1) := by decide +kernel
set_option maxRecDepth 100000 in
theorem rX1_rowsOfSteps_0 {p : Program} {l : Launch} {e : Env} {s : State} {m : MethodId} {args : Array Value} {below : List Frame} {meth : Method} {c : Code} {D : va_G} {cA : Nat → ClassId} {ad : Nat → Nat} {Ret : zR} (C : z_Cx p { frames := 0, cells := 0, slots := 0, locals := 0 } s m args c cX1_rowsOfSteps yX1_rowsOfSteps.cls 1 D cA ad) (hr : meth.sig.returnType = (some .int)) (hlocks : meth.locks = false) : ∀ L st σ, tX1_rowsOfSteps_0 (z_X p l e { frames := 0, cells := 0, slots := 0, locals := 0 } s m args below meth c (MQ below (z_Qc D cA ad Ret) args s 0 0 (z_A ad)) 1 D cA ad true) Ret L st σ → z_X p l e { frames := 0, cells := 0, slots := 0, locals := 0 } s m args below meth c (MQ below (z_Qc D cA ad Ret) args s 0 0 (z_A ad)) 1 D cA ad true 0 L st σ := (s_iconst C dX1_rowsOfSteps_0 rfl ⟨by decide, by decide⟩ (s_iconst C dX1_rowsOfSteps_1 rfl ⟨by decide, by decide⟩ (s_aload_n C dX1_rowsOfSteps_2 rfl (s_geti C dX1_rowsOfSteps_3 cls_X1 (by decide) rfl wd_324 (s_imul C dX1_rowsOfSteps_6 (s_ishl C dX1_rowsOfSteps_7 (s_iret C dX1_rowsOfSteps_8 hr hlocks)))))))
theorem okX1_rowsOfSteps (l : Launch) : z_OK l yX1_rowsOfSteps cX1_rowsOfSteps 1 (some .int) 0 0 SX1_rowsOfSteps := by
  refine z_ok_of true (by decide +kernel) ?_ ?_
  · intro as σ Ret h
    obtain ⟨k0, rfl⟩ := pX1_rowsOfSteps h
    exact ⟨Nat.le_of_ble_eq_true rfl, by simp⟩
  · intro p e s m args below meth c D cA ad Ret C hr hlocks as σ has hσ h
    obtain ⟨k0, rfl⟩ := pX1_rowsOfSteps h
    exact vX1_rowsOfSteps (rX1_rowsOfSteps_0 C hr hlocks) k0 σ (has _ (List.mem_of_getElem? (i := 0) rfl)) hσ h
def q_dsum (s : Nat) : Nat → Nat
  | 0 => 0
  | i + 1 => q_dsum s i + q_dg s i
theorem q_dsum_le (s : Nat) : ∀ n : Nat, q_dsum s n ≤ 3 * n
  | 0 => Nat.le_refl _
  | n + 1 => by
    have := q_dsum_le s n
    have := q_dg_lt s n
    simp only [q_dsum]
    omega
def SX1_sumOf : zS := fun as σ Ret => match as with
  | [.inl s] => (0 ≤ s ∧ s < 1024) ∧ Ret (some (.inl (q_dsum s.toNat 5 : Int))) σ
  | _ => False
def tX1_sumOf_0 (X : Nat → zB) (Ret : zR) (L : zL) (st : List zV) (σ : zM) : Prop := (z_push 0 (z_istore 1 (z_push 0 (z_istore 2 (X 4))))) L st σ
def tX1_sumOf_4 (X : Nat → zB) (Ret : zR) (L : zL) (st : List zV) (σ : zM) : Prop := (z_iload 2 (z_push 5 (z_icge (z_iload 1 (z_iret Ret)) (z_iload 1 (z_iload 0 (z_push 2 (z_iload 2 (z_imul (z_ishr (z_push 3 (z_iand (z_iadd (z_istore 1 (z_iinc 2 1 (z_goto (X 4)))))))))))))))) L st σ
theorem pX1_sumOf {as : List zV} {σ : zM} {Ret : zR} (h : SX1_sumOf as σ Ret) : ∃ (x1 : Int), as = [.inl x1] := by
  unfold SX1_sumOf at h
  split at h
  · exact ⟨_, rfl⟩
  · exact h.elim
set_option maxRecDepth 10000 in
set_option maxHeartbeats 4000000 in
theorem vX1_sumOf {X : Nat → zB} {Ret : zR} (h0 : ∀ L st σ, tX1_sumOf_0 X Ret L st σ → X 0 L st σ) (h4 : ∀ L st σ, tX1_sumOf_4 X Ret L st σ → X 4 L st σ) (x1 : Int) (σ : zM) (hx1 : -2147483648 ≤ x1 ∧ x1 ≤ 2147483647) (hσ : z_okm σ) (h : SX1_sumOf [.inl x1] σ Ret) : X 0 [some (.inl x1), none, none] [] σ := by
  obtain ⟨⟨c0, c1⟩, h⟩ := h
  obtain ⟨s, rfl⟩ := z_nat c0
  rw [Int.toNat_natCast] at h
  have dg := z_dig s (by omega)
  have L4 : ∀ (d i : Nat), i + d = 5 → X 4 [some (.inl (s : Int)), some (.inl (q_dsum s i : Int)), some (.inl (i : Int))] [] σ := by
    intro d
    induction d with
    | zero =>
      intro i hi
      have e : i = 5 := by omega
      subst e
      refine h4 _ _ _ ?_
      simp only [z_push, z_lpush, z_iload, z_lload, z_aload, z_istore, z_istoreP, z_lstore, z_astore, z_iinc, z_iincP, z_iadd, z_isub, z_imul, z_iaddW, z_isubW, z_imulW, z_idiv, z_irem, z_iand, z_ior, z_ixor, z_ishl, z_ishr, z_iushr, z_ineg, z_i2l, z_i2b, z_i2s, z_i2c, z_l2i, z_ladd, z_lsub, z_land, z_lor, z_lshl, z_lshr, z_lcmp, z_dup, z_pop, z_dup2, z_goto, z_tsw, z_cases, z_geti, z_getr, z_puti, z_putz, z_ald, z_iast, z_bast, z_zast, z_alen, z_acopy, z_mmax, z_mmin, z_mabs, z_mabsL, z_iret, z_zret, z_nret, z_lret, z_aret, z_vret, z_cat, z_ldcs, z_strv, z_strc, z_gcs, z_gfm, z_sln, z_sald, z_ifeq, z_ifne, z_iflt, z_ifge, z_ifgt, z_ifle, z_iceq, z_icne, z_iclt, z_icge, z_icgt, z_icle, z_cs0, z_cs1, z_cs2, z_cs3, z_cs4, z_cs5, z_cs6, z_cs7, z_cv0, z_cv1, z_cv2, z_cv3, z_cv4, z_cv5, z_cv6, z_cv7, z_g0, z_s0, z_g1, z_s1, z_g2, z_s2, z_g3, z_s3, z_g4, z_s4, z_g5, z_s5, z_g6, z_s6, z_g7, z_s7, z_g8, z_s8, z_g9, z_s9, z_g10, z_s10, z_g11, z_s11, z_g12, z_s12, z_g13, z_s13, z_b0, z_b1, z_b0n, z_b1n, z_up_far1, z_up_far2, z_up_far3, z_up_far4, z_up_far5, z_up_far6, Classical.not_not, not_true_eq_false, z_in, z_inL, Int.cast_ofNat_Int, Nat.reduceLeDiff, List.length_cons, List.length_nil, Nat.reduceAdd, Nat.zero_add, Nat.le_refl, true_and, and_true, List.length, Nat.reduceLT, true_or, or_true, false_or, or_false, false_and, and_false, not_true_eq_false, not_false_eq_true, forall_const, false_implies, true_implies, Int.reduceEq, Int.reduceLT, Int.reduceLE, Int.reduceAdd, Int.reduceSub, Int.reduceMul, Int.reduceNeg, Int.reduceToNat, Int.toNat_natCast, ↓reduceIte, reduceIte, Nat.reduceEqDiff, Nat.reduceSub, Nat.reduceMul, ne_eq, Int.zero_add, Int.add_zero, Int.sub_zero, Nat.add_zero, Int.ofNat_eq_natCast, tX1_sumOf_4]
      repeat' (first | (intro _) | (with_reducible assumption) | (refine And.intro ?_ ?_))
      all_goals first | omega | assumption | (refine z_fin h ?_ rfl; first | rfl | omega | (split <;> omega) | (split <;> split <;> omega)) | skip
    | succ d ih =>
      intro i hi
      have e1 := ih (i + 1) (by omega)
      have l1 := q_dsum_le s i
      have l2 := q_dg_lt s i
      simp only [q_dsum, Int.natCast_add] at e1
      refine h4 _ _ _ ?_
      simp only [z_push, z_lpush, z_iload, z_lload, z_aload, z_istore, z_istoreP, z_lstore, z_astore, z_iinc, z_iincP, z_iadd, z_isub, z_imul, z_iaddW, z_isubW, z_imulW, z_idiv, z_irem, z_iand, z_ior, z_ixor, z_ishl, z_ishr, z_iushr, z_ineg, z_i2l, z_i2b, z_i2s, z_i2c, z_l2i, z_ladd, z_lsub, z_land, z_lor, z_lshl, z_lshr, z_lcmp, z_dup, z_pop, z_dup2, z_goto, z_tsw, z_cases, z_geti, z_getr, z_puti, z_putz, z_ald, z_iast, z_bast, z_zast, z_alen, z_acopy, z_mmax, z_mmin, z_mabs, z_mabsL, z_iret, z_zret, z_nret, z_lret, z_aret, z_vret, z_cat, z_ldcs, z_strv, z_strc, z_gcs, z_gfm, z_sln, z_sald, z_ifeq, z_ifne, z_iflt, z_ifge, z_ifgt, z_ifle, z_iceq, z_icne, z_iclt, z_icge, z_icgt, z_icle, z_cs0, z_cs1, z_cs2, z_cs3, z_cs4, z_cs5, z_cs6, z_cs7, z_cv0, z_cv1, z_cv2, z_cv3, z_cv4, z_cv5, z_cv6, z_cv7, z_g0, z_s0, z_g1, z_s1, z_g2, z_s2, z_g3, z_s3, z_g4, z_s4, z_g5, z_s5, z_g6, z_s6, z_g7, z_s7, z_g8, z_s8, z_g9, z_s9, z_g10, z_s10, z_g11, z_s11, z_g12, z_s12, z_g13, z_s13, z_b0, z_b1, z_b0n, z_b1n, z_up_far1, z_up_far2, z_up_far3, z_up_far4, z_up_far5, z_up_far6, Classical.not_not, not_true_eq_false, z_in, z_inL, Int.cast_ofNat_Int, Nat.reduceLeDiff, List.length_cons, List.length_nil, Nat.reduceAdd, Nat.zero_add, Nat.le_refl, true_and, and_true, List.length, Nat.reduceLT, true_or, or_true, false_or, or_false, false_and, and_false, not_true_eq_false, not_false_eq_true, forall_const, false_implies, true_implies, Int.reduceEq, Int.reduceLT, Int.reduceLE, Int.reduceAdd, Int.reduceSub, Int.reduceMul, Int.reduceNeg, Int.reduceToNat, Int.toNat_natCast, ↓reduceIte, reduceIte, Nat.reduceEqDiff, Nat.reduceSub, Nat.reduceMul, ne_eq, Int.zero_add, Int.add_zero, Int.sub_zero, Nat.add_zero, Int.ofNat_eq_natCast, tX1_sumOf_4, dg i (by omega)]
      repeat' (first | (intro _) | (with_reducible assumption) | (refine And.intro ?_ ?_))
      all_goals first | omega | assumption | (refine z_fin h ?_ rfl; first | rfl | omega | (split <;> omega) | (split <;> split <;> omega)) | skip
  refine h0 _ _ _ ?_
  simp only [z_push, z_lpush, z_iload, z_lload, z_aload, z_istore, z_istoreP, z_lstore, z_astore, z_iinc, z_iincP, z_iadd, z_isub, z_imul, z_iaddW, z_isubW, z_imulW, z_idiv, z_irem, z_iand, z_ior, z_ixor, z_ishl, z_ishr, z_iushr, z_ineg, z_i2l, z_i2b, z_i2s, z_i2c, z_l2i, z_ladd, z_lsub, z_land, z_lor, z_lshl, z_lshr, z_lcmp, z_dup, z_pop, z_dup2, z_goto, z_tsw, z_cases, z_geti, z_getr, z_puti, z_putz, z_ald, z_iast, z_bast, z_zast, z_alen, z_acopy, z_mmax, z_mmin, z_mabs, z_mabsL, z_iret, z_zret, z_nret, z_lret, z_aret, z_vret, z_cat, z_ldcs, z_strv, z_strc, z_gcs, z_gfm, z_sln, z_sald, z_ifeq, z_ifne, z_iflt, z_ifge, z_ifgt, z_ifle, z_iceq, z_icne, z_iclt, z_icge, z_icgt, z_icle, z_cs0, z_cs1, z_cs2, z_cs3, z_cs4, z_cs5, z_cs6, z_cs7, z_cv0, z_cv1, z_cv2, z_cv3, z_cv4, z_cv5, z_cv6, z_cv7, z_g0, z_s0, z_g1, z_s1, z_g2, z_s2, z_g3, z_s3, z_g4, z_s4, z_g5, z_s5, z_g6, z_s6, z_g7, z_s7, z_g8, z_s8, z_g9, z_s9, z_g10, z_s10, z_g11, z_s11, z_g12, z_s12, z_g13, z_s13, z_b0, z_b1, z_b0n, z_b1n, z_up_far1, z_up_far2, z_up_far3, z_up_far4, z_up_far5, z_up_far6, Classical.not_not, not_true_eq_false, z_in, z_inL, Int.cast_ofNat_Int, Nat.reduceLeDiff, List.length_cons, List.length_nil, Nat.reduceAdd, Nat.zero_add, Nat.le_refl, true_and, and_true, List.length, Nat.reduceLT, true_or, or_true, false_or, or_false, false_and, and_false, not_true_eq_false, not_false_eq_true, forall_const, false_implies, true_implies, Int.reduceEq, Int.reduceLT, Int.reduceLE, Int.reduceAdd, Int.reduceSub, Int.reduceMul, Int.reduceNeg, Int.reduceToNat, Int.toNat_natCast, ↓reduceIte, reduceIte, Nat.reduceEqDiff, Nat.reduceSub, Nat.reduceMul, ne_eq, Int.zero_add, Int.add_zero, Int.sub_zero, Nat.add_zero, Int.ofNat_eq_natCast, tX1_sumOf_0]
  exact L4 5 0 (by omega)
theorem dX1_sumOf_0 : decode cX1_sumOf 0 = .ok (.iconst 0, 1) := by decide +kernel
theorem dX1_sumOf_1 : decode cX1_sumOf 1 = .ok (.istore_n 1, 1) := by decide +kernel
theorem dX1_sumOf_2 : decode cX1_sumOf 2 = .ok (.iconst 0, 1) := by decide +kernel
theorem dX1_sumOf_3 : decode cX1_sumOf 3 = .ok (.istore_n 2, 1) := by decide +kernel
theorem dX1_sumOf_4 : decode cX1_sumOf 4 = .ok (.iload_n 2, 1) := by decide +kernel
theorem dX1_sumOf_5 : decode cX1_sumOf 5 = .ok (.iconst 5, 1) := by decide +kernel
theorem dX1_sumOf_6 : decode cX1_sumOf 6 = .ok (.if_icmp .ge 19, 3) := by decide +kernel
theorem dX1_sumOf_9 : decode cX1_sumOf 9 = .ok (.iload_n 1, 1) := by decide +kernel
theorem dX1_sumOf_10 : decode cX1_sumOf 10 = .ok (.iload_n 0, 1) := by decide +kernel
theorem dX1_sumOf_11 : decode cX1_sumOf 11 = .ok (.iconst 2, 1) := by decide +kernel
theorem dX1_sumOf_12 : decode cX1_sumOf 12 = .ok (.iload_n 2, 1) := by decide +kernel
theorem dX1_sumOf_13 : decode cX1_sumOf 13 = .ok (.imul, 1) := by decide +kernel
theorem dX1_sumOf_14 : decode cX1_sumOf 14 = .ok (.ishr, 1) := by decide +kernel
theorem dX1_sumOf_15 : decode cX1_sumOf 15 = .ok (.iconst 3, 1) := by decide +kernel
theorem dX1_sumOf_16 : decode cX1_sumOf 16 = .ok (.iand, 1) := by decide +kernel
theorem dX1_sumOf_17 : decode cX1_sumOf 17 = .ok (.iadd, 1) := by decide +kernel
theorem dX1_sumOf_18 : decode cX1_sumOf 18 = .ok (.istore_n 1, 1) := by decide +kernel
theorem dX1_sumOf_19 : decode cX1_sumOf 19 = .ok (.iinc 2 1, 3) := by decide +kernel
theorem dX1_sumOf_22 : decode cX1_sumOf 22 = .ok (.goto (-18), 3) := by decide +kernel
theorem dX1_sumOf_25 : decode cX1_sumOf 25 = .ok (.iload_n 1, 1) := by decide +kernel
theorem dX1_sumOf_26 : decode cX1_sumOf 26 = .ok (.ireturn, 1) := by decide +kernel
set_option maxRecDepth 100000 in
theorem rX1_sumOf_0 {p : Program} {l : Launch} {e : Env} {s : State} {m : MethodId} {args : Array Value} {below : List Frame} {meth : Method} {c : Code} {D : va_G} {cA : Nat → ClassId} {ad : Nat → Nat} {Ret : zR} (C : z_Cx p { frames := 0, cells := 0, slots := 0, locals := 0 } s m args c cX1_sumOf yX1_sumOf.cls 3 D cA ad) (hr : meth.sig.returnType = (some .int)) (hlocks : meth.locks = false) : ∀ L st σ, tX1_sumOf_0 (z_X p l e { frames := 0, cells := 0, slots := 0, locals := 0 } s m args below meth c (MQ below (z_Qc D cA ad Ret) args s 0 0 (z_A ad)) 3 D cA ad true) Ret L st σ → z_X p l e { frames := 0, cells := 0, slots := 0, locals := 0 } s m args below meth c (MQ below (z_Qc D cA ad Ret) args s 0 0 (z_A ad)) 3 D cA ad true 0 L st σ := (s_iconst C dX1_sumOf_0 rfl ⟨by decide, by decide⟩ (s_istore_n C dX1_sumOf_1 (by decide) rfl rfl (s_iconst C dX1_sumOf_2 rfl ⟨by decide, by decide⟩ (s_istore_n C dX1_sumOf_3 (by decide) rfl rfl (fun _ _ _ h => h)))))
set_option maxRecDepth 100000 in
theorem rX1_sumOf_4 {p : Program} {l : Launch} {e : Env} {s : State} {m : MethodId} {args : Array Value} {below : List Frame} {meth : Method} {c : Code} {D : va_G} {cA : Nat → ClassId} {ad : Nat → Nat} {Ret : zR} (C : z_Cx p { frames := 0, cells := 0, slots := 0, locals := 0 } s m args c cX1_sumOf yX1_sumOf.cls 3 D cA ad) (hr : meth.sig.returnType = (some .int)) (hlocks : meth.locks = false) : ∀ L st σ, tX1_sumOf_4 (z_X p l e { frames := 0, cells := 0, slots := 0, locals := 0 } s m args below meth c (MQ below (z_Qc D cA ad Ret) args s 0 0 (z_A ad)) 3 D cA ad true) Ret L st σ → z_X p l e { frames := 0, cells := 0, slots := 0, locals := 0 } s m args below meth c (MQ below (z_Qc D cA ad Ret) args s 0 0 (z_A ad)) 3 D cA ad true 4 L st σ := (s_iload_n C dX1_sumOf_4 rfl (s_iconst C dX1_sumOf_5 rfl ⟨by decide, by decide⟩ (s_icge C dX1_sumOf_6 (by decide) (s_iload_n C dX1_sumOf_25 rfl (s_iret C dX1_sumOf_26 hr hlocks)) (s_iload_n C dX1_sumOf_9 rfl (s_iload_n C dX1_sumOf_10 rfl (s_iconst C dX1_sumOf_11 rfl ⟨by decide, by decide⟩ (s_iload_n C dX1_sumOf_12 rfl (s_imul C dX1_sumOf_13 (s_ishr C dX1_sumOf_14 (s_iconst C dX1_sumOf_15 rfl ⟨by decide, by decide⟩ (s_iand C dX1_sumOf_16 (s_iadd C dX1_sumOf_17 (s_istore_n C dX1_sumOf_18 (by decide) rfl rfl (s_iinc C dX1_sumOf_19 (by decide) rfl (s_goto C dX1_sumOf_22 (by decide) (fun _ _ _ h => h))))))))))))))))
theorem okX1_sumOf (l : Launch) : z_OK l yX1_sumOf cX1_sumOf 3 (some .int) 0 0 SX1_sumOf := by
  refine z_ok_of true (by decide +kernel) ?_ ?_
  · intro as σ Ret h
    obtain ⟨x1, rfl⟩ := pX1_sumOf h
    exact ⟨Nat.le_of_ble_eq_true rfl, by simp⟩
  · intro p e s m args below meth c D cA ad Ret C hr hlocks as σ has hσ h
    obtain ⟨x1, rfl⟩ := pX1_sumOf h
    exact vX1_sumOf (rX1_sumOf_0 C hr hlocks) (rX1_sumOf_4 C hr hlocks) x1 σ (has _ (List.mem_of_getElem? (i := 0) rfl)) hσ h
/-- lengths laid by steps, tree by tree -/
def q_nl (σ : zM) (k f : Nat) (st : Nat) (s : Int) (i : Nat) : Int := σ (f + 2) (σ (k + 1) i).toNat - s * (q_dg st ((σ k 1).toNat - 1 - i) : Int)
def q_lay (σ : zM) (k f o : Nat) (st : Nat) (s : Int) : Nat → zM
  | 0 => σ
  | i + 1 => z_up (q_lay σ k f o st s i) (o + 2) (σ (k + 1) i).toNat (q_nl σ k f st s i)
theorem q_lay_ne {σ : zM} {k f o st : Nat} {s : Int} {c j : Nat} (h : c ≠ o + 2) : ∀ n : Nat, q_lay σ k f o st s n c j = σ c j
  | 0 => rfl
  | n + 1 => by rw [q_lay, z_up_ne (Or.inl h), q_lay_ne h n]
def q_lok (σ : zM) (k f : Nat) (st : Nat) (s : Int) (n : Nat) : Prop := ∀ i : Nat, i < n → 10 ≤ q_nl σ k f st s i
def SX1_tryOn : zS := fun as σ Ret => match as with
  | [.inr (.inr (1, 0, k)), .inr (.inr (8, 0, f)), .inr (.inr (8, 0, o)), .inl st, .inl s] => ((f ≠ o ∧ (0 ≤ σ k 1 ∧ σ k 1 ≤ 5)) ∧ (∀ i : Nat, (i : Int) < σ k 1 → (0 ≤ σ (k + 1) i ∧ σ (k + 1) i < σ (f + 1) 6) ∧ σ (k + 1) i < 12 ∧ (0 ≤ σ (f + 2) (σ (k + 1) i).toNat ∧ σ (f + 2) (σ (k + 1) i).toNat ≤ 999)) ∧ (0 ≤ st ∧ st < 1024) ∧ 1 ≤ s ∧ s ≤ 20) ∧
      (q_lok σ k f st.toNat s (σ k 1).toNat → Ret (some (.inl 1)) (q_lay σ k f o st.toNat s (σ k 1).toNat)) ∧ (¬ q_lok σ k f st.toNat s (σ k 1).toNat → ∀ i, i ≤ (σ k 1).toNat → Ret (some (.inl 0)) (q_lay σ k f o st.toNat s i))
  | _ => False
def tX1_tryOn_0 (X : Nat → zB) (Ret : zR) (L : zL) (st : List zV) (σ : zM) : Prop := (z_push 0 (z_istore 5 (X 3))) L st σ
def tX1_tryOn_3 (X : Nat → zB) (Ret : zR) (L : zL) (st : List zV) (σ : zM) : Prop := (z_iload 5 (z_aload 0 (z_geti 1 1 (z_icge (z_push 1 (z_zret Ret)) (z_aload 0 (z_getr 1 1 100 5 (z_iload 5 (z_ald 0 (z_istore 6 (z_aload 1 (z_getr 8 1 6 0 (z_iload 6 (z_cv1 6 SX6_has (z_ifne (z_aload 1 (z_getr 8 1 6 0 (z_getr 6 1 100 12 (z_iload 6 (z_ald 0 (z_iload 4 (z_iload 3 (z_push 2 (z_aload 0 (z_geti 1 1 (z_push 1 (z_isub (z_iload 5 (z_isub (z_imul (z_ishr (z_push 3 (z_iand (z_imul (z_isub (z_istore 7 (z_iload 7 (z_push 10 (z_icge (z_aload 2 (z_getr 8 1 6 0 (z_getr 6 1 100 12 (z_iload 6 (z_iload 7 (z_iast (z_iinc 5 1 (z_goto (X 3))))))))) (z_push 0 (z_zret Ret)))))))))))))))))))))))))) (z_push 0 (z_zret Ret)))))))))))))))) L st σ
theorem pX1_tryOn {as : List zV} {σ : zM} {Ret : zR} (h : SX1_tryOn as σ Ret) : ∃ (k0 : Nat) (k1 : Nat) (k2 : Nat) (x3 : Int) (x4 : Int), as = [.inr (.inr (1, 0, k0)), .inr (.inr (8, 0, k1)), .inr (.inr (8, 0, k2)), .inl x3, .inl x4] := by
  unfold SX1_tryOn at h
  split at h
  · exact ⟨_, _, _, _, _, rfl⟩
  · exact h.elim
set_option maxRecDepth 10000 in
set_option maxHeartbeats 4000000 in
theorem vX1_tryOn {X : Nat → zB} {Ret : zR} (h0 : ∀ L st σ, tX1_tryOn_0 X Ret L st σ → X 0 L st σ) (h3 : ∀ L st σ, tX1_tryOn_3 X Ret L st σ → X 3 L st σ) (k0 : Nat) (k1 : Nat) (k2 : Nat) (x3 : Int) (x4 : Int) (σ : zM) (hk0 : z_kd k0 = (1, 0)) (hk1 : z_kd k1 = (8, 0)) (hk2 : z_kd k2 = (8, 0)) (hx3 : -2147483648 ≤ x3 ∧ x3 ≤ 2147483647) (hx4 : -2147483648 ≤ x4 ∧ x4 ≤ 2147483647) (hσ : z_okm σ) (h : SX1_tryOn [.inr (.inr (1, 0, k0)), .inr (.inr (8, 0, k1)), .inr (.inr (8, 0, k2)), .inl x3, .inl x4] σ Ret) : X 0 [some (.inr (.inr (1, 0, k0))), some (.inr (.inr (8, 0, k1))), some (.inr (.inr (8, 0, k2))), some (.inl x3), some (.inl x4), none, none, none] [] σ := by
  obtain ⟨⟨⟨hne, c0, c1⟩, hv, ⟨t0, t1⟩, s0, s1⟩, hy, hn⟩ := h
  have ka : k0 = 84 := by
    have key : ∀ i, i < 108 → z_kd i = (1, 0) → i = 84 := by decide +kernel
    exact key _ (z_kd_lt hk0 (by decide)) hk0
  have kf := z_kd8 hk1
  have ko := z_kd8 hk2
  obtain ⟨cnt, hcnt⟩ := z_nat c0
  obtain ⟨st, rfl⟩ := z_nat t0
  rw [hcnt] at hy hn
  simp only [Int.toNat_natCast] at hy hn
  have dg := z_dig st (by omega)
  have ne : ∀ c j i, c ≠ k2 + 2 → q_lay σ k0 k1 k2 st x4 i c j = σ c j := fun c j i h => q_lay_ne h i
  have L3 : ∀ (d i : Nat) (u6 u7 : Option zV), i + d = cnt → (∀ a : Nat, a < i → 10 ≤ q_nl σ k0 k1 st x4 a) → X 3 [some (.inr (.inr (1, 0, k0))), some (.inr (.inr (8, 0, k1))), some (.inr (.inr (8, 0, k2))), some (.inl (st : Int)), some (.inl x4), some (.inl (i : Int)), u6, u7] [] (q_lay σ k0 k1 k2 st x4 i) := by
    intro d
    induction d with
    | zero =>
      intro i u6 u7 hi hl
      have e : i = cnt := by omega
      subst e
      have fin := hy hl
      refine h3 _ _ _ ?_
      simp only [z_push, z_lpush, z_iload, z_lload, z_aload, z_istore, z_istoreP, z_lstore, z_astore, z_iinc, z_iincP, z_iadd, z_isub, z_imul, z_iaddW, z_isubW, z_imulW, z_idiv, z_irem, z_iand, z_ior, z_ixor, z_ishl, z_ishr, z_iushr, z_ineg, z_i2l, z_i2b, z_i2s, z_i2c, z_l2i, z_ladd, z_lsub, z_land, z_lor, z_lshl, z_lshr, z_lcmp, z_dup, z_pop, z_dup2, z_goto, z_tsw, z_cases, z_geti, z_getr, z_puti, z_putz, z_ald, z_iast, z_bast, z_zast, z_alen, z_acopy, z_mmax, z_mmin, z_mabs, z_mabsL, z_iret, z_zret, z_nret, z_lret, z_aret, z_vret, z_cat, z_ldcs, z_strv, z_strc, z_gcs, z_gfm, z_sln, z_sald, z_ifeq, z_ifne, z_iflt, z_ifge, z_ifgt, z_ifle, z_iceq, z_icne, z_iclt, z_icge, z_icgt, z_icle, z_cs0, z_cs1, z_cs2, z_cs3, z_cs4, z_cs5, z_cs6, z_cs7, z_cv0, z_cv1, z_cv2, z_cv3, z_cv4, z_cv5, z_cv6, z_cv7, z_g0, z_s0, z_g1, z_s1, z_g2, z_s2, z_g3, z_s3, z_g4, z_s4, z_g5, z_s5, z_g6, z_s6, z_g7, z_s7, z_g8, z_s8, z_g9, z_s9, z_g10, z_s10, z_g11, z_s11, z_g12, z_s12, z_g13, z_s13, z_b0, z_b1, z_b0n, z_b1n, z_up_far1, z_up_far2, z_up_far3, z_up_far4, z_up_far5, z_up_far6, Classical.not_not, not_true_eq_false, z_in, z_inL, Int.cast_ofNat_Int, Nat.reduceLeDiff, List.length_cons, List.length_nil, Nat.reduceAdd, Nat.zero_add, Nat.le_refl, true_and, and_true, List.length, Nat.reduceLT, true_or, or_true, false_or, or_false, false_and, and_false, not_true_eq_false, not_false_eq_true, forall_const, false_implies, true_implies, Int.reduceEq, Int.reduceLT, Int.reduceLE, Int.reduceAdd, Int.reduceSub, Int.reduceMul, Int.reduceNeg, Int.reduceToNat, Int.toNat_natCast, ↓reduceIte, reduceIte, Nat.reduceEqDiff, Nat.reduceSub, Nat.reduceMul, ne_eq, Int.zero_add, Int.add_zero, Int.sub_zero, Nat.add_zero, Int.ofNat_eq_natCast, tX1_tryOn_3, ne k0 1 i (by omega), hcnt]
      repeat' (first | (intro _) | (with_reducible assumption) | (refine And.intro ?_ ?_))
      all_goals first | omega | assumption | (refine z_fin fin ?_ rfl; first | rfl | omega | (split <;> omega) | (split <;> split <;> omega)) | skip
    | succ d ih =>
      intro i u6 u7 hi hl
      obtain ⟨v1, v2, v3⟩ := hv i (by omega)
      have v10 := v1.1
      obtain ⟨t, ht⟩ := z_nat v10
      have dgi := dg (cnt - 1 - i) (by omega)
      have dlt := q_dg_lt st (cnt - 1 - i)
      rw [show ((cnt - 1 - i : Nat) : Int) = (cnt : Int) - 1 - i by omega] at dgi
      have nle : q_nl σ k0 k1 st x4 i = σ (k1 + 2) t - x4 * (q_dg st (cnt - 1 - i) : Int) := by
        unfold q_nl
        rw [hcnt, ht, Int.toNat_natCast, Int.toNat_natCast]
      have mb : 0 ≤ x4 * (q_dg st (cnt - 1 - i) : Int) ∧ x4 * (q_dg st (cnt - 1 - i) : Int) ≤ 60 := by
        constructor
        · exact Int.mul_nonneg (by omega) (by omega)
        · calc x4 * (q_dg st (cnt - 1 - i) : Int) ≤ 20 * 3 := Int.mul_le_mul s1 (by omega) (by omega) (by omega)
            _ = 60 := rfl
      rw [ht, Int.toNat_natCast] at v3
      have bad : q_nl σ k0 k1 st x4 i < 10 → Ret (some (.inl 0)) (q_lay σ k0 k1 k2 st x4 i) := fun q => hn (fun z => by have := z i (by omega); omega) i (by omega)
      have e1 := fun (q : 10 ≤ q_nl σ k0 k1 st x4 i) u6 u7 => ih (i + 1) u6 u7 (by omega) (fun a ha => by
        by_cases w : a = i
        · rw [w]; exact q
        · exact hl a (by omega))
      rw [q_lay, ht, Int.toNat_natCast, nle] at e1
      rw [nle] at bad
      rw [ht] at v1 v2
      refine h3 _ _ _ ?_
      simp only [z_push, z_lpush, z_iload, z_lload, z_aload, z_istore, z_istoreP, z_lstore, z_astore, z_iinc, z_iincP, z_iadd, z_isub, z_imul, z_iaddW, z_isubW, z_imulW, z_idiv, z_irem, z_iand, z_ior, z_ixor, z_ishl, z_ishr, z_iushr, z_ineg, z_i2l, z_i2b, z_i2s, z_i2c, z_l2i, z_ladd, z_lsub, z_land, z_lor, z_lshl, z_lshr, z_lcmp, z_dup, z_pop, z_dup2, z_goto, z_tsw, z_cases, z_geti, z_getr, z_puti, z_putz, z_ald, z_iast, z_bast, z_zast, z_alen, z_acopy, z_mmax, z_mmin, z_mabs, z_mabsL, z_iret, z_zret, z_nret, z_lret, z_aret, z_vret, z_cat, z_ldcs, z_strv, z_strc, z_gcs, z_gfm, z_sln, z_sald, z_ifeq, z_ifne, z_iflt, z_ifge, z_ifgt, z_ifle, z_iceq, z_icne, z_iclt, z_icge, z_icgt, z_icle, z_cs0, z_cs1, z_cs2, z_cs3, z_cs4, z_cs5, z_cs6, z_cs7, z_cv0, z_cv1, z_cv2, z_cv3, z_cv4, z_cv5, z_cv6, z_cv7, z_g0, z_s0, z_g1, z_s1, z_g2, z_s2, z_g3, z_s3, z_g4, z_s4, z_g5, z_s5, z_g6, z_s6, z_g7, z_s7, z_g8, z_s8, z_g9, z_s9, z_g10, z_s10, z_g11, z_s11, z_g12, z_s12, z_g13, z_s13, z_b0, z_b1, z_b0n, z_b1n, z_up_far1, z_up_far2, z_up_far3, z_up_far4, z_up_far5, z_up_far6, Classical.not_not, not_true_eq_false, z_in, z_inL, Int.cast_ofNat_Int, Nat.reduceLeDiff, List.length_cons, List.length_nil, Nat.reduceAdd, Nat.zero_add, Nat.le_refl, true_and, and_true, List.length, Nat.reduceLT, true_or, or_true, false_or, or_false, false_and, and_false, not_true_eq_false, not_false_eq_true, forall_const, false_implies, true_implies, Int.reduceEq, Int.reduceLT, Int.reduceLE, Int.reduceAdd, Int.reduceSub, Int.reduceMul, Int.reduceNeg, Int.reduceToNat, Int.toNat_natCast, ↓reduceIte, reduceIte, Nat.reduceEqDiff, Nat.reduceSub, Nat.reduceMul, ne_eq, Int.zero_add, Int.add_zero, Int.sub_zero, Nat.add_zero, Int.ofNat_eq_natCast, tX1_tryOn_3, SX6_has, ne k0 1 i (by omega), ne (k0 + 1) i i (by omega), ne (k1 + 1) 6 i (by omega), ne (k1 + 2) t i (by omega), hcnt, ht, v1, v2, dgi, Nat.add_assoc]
      repeat' (first | (intro _) | (with_reducible assumption) | (refine And.intro ?_ ?_))
      all_goals first | omega | assumption | (refine z_fin h3 ?_ rfl; first | rfl | omega | (split <;> omega) | (split <;> split <;> omega)) | skip
      · exact e1 (by omega) _ _
      · refine bad ?_; omega
  refine h0 _ _ _ ?_
  simp only [z_push, z_lpush, z_iload, z_lload, z_aload, z_istore, z_istoreP, z_lstore, z_astore, z_iinc, z_iincP, z_iadd, z_isub, z_imul, z_iaddW, z_isubW, z_imulW, z_idiv, z_irem, z_iand, z_ior, z_ixor, z_ishl, z_ishr, z_iushr, z_ineg, z_i2l, z_i2b, z_i2s, z_i2c, z_l2i, z_ladd, z_lsub, z_land, z_lor, z_lshl, z_lshr, z_lcmp, z_dup, z_pop, z_dup2, z_goto, z_tsw, z_cases, z_geti, z_getr, z_puti, z_putz, z_ald, z_iast, z_bast, z_zast, z_alen, z_acopy, z_mmax, z_mmin, z_mabs, z_mabsL, z_iret, z_zret, z_nret, z_lret, z_aret, z_vret, z_cat, z_ldcs, z_strv, z_strc, z_gcs, z_gfm, z_sln, z_sald, z_ifeq, z_ifne, z_iflt, z_ifge, z_ifgt, z_ifle, z_iceq, z_icne, z_iclt, z_icge, z_icgt, z_icle, z_cs0, z_cs1, z_cs2, z_cs3, z_cs4, z_cs5, z_cs6, z_cs7, z_cv0, z_cv1, z_cv2, z_cv3, z_cv4, z_cv5, z_cv6, z_cv7, z_g0, z_s0, z_g1, z_s1, z_g2, z_s2, z_g3, z_s3, z_g4, z_s4, z_g5, z_s5, z_g6, z_s6, z_g7, z_s7, z_g8, z_s8, z_g9, z_s9, z_g10, z_s10, z_g11, z_s11, z_g12, z_s12, z_g13, z_s13, z_b0, z_b1, z_b0n, z_b1n, z_up_far1, z_up_far2, z_up_far3, z_up_far4, z_up_far5, z_up_far6, Classical.not_not, not_true_eq_false, z_in, z_inL, Int.cast_ofNat_Int, Nat.reduceLeDiff, List.length_cons, List.length_nil, Nat.reduceAdd, Nat.zero_add, Nat.le_refl, true_and, and_true, List.length, Nat.reduceLT, true_or, or_true, false_or, or_false, false_and, and_false, not_true_eq_false, not_false_eq_true, forall_const, false_implies, true_implies, Int.reduceEq, Int.reduceLT, Int.reduceLE, Int.reduceAdd, Int.reduceSub, Int.reduceMul, Int.reduceNeg, Int.reduceToNat, Int.toNat_natCast, ↓reduceIte, reduceIte, Nat.reduceEqDiff, Nat.reduceSub, Nat.reduceMul, ne_eq, Int.zero_add, Int.add_zero, Int.sub_zero, Nat.add_zero, Int.ofNat_eq_natCast, tX1_tryOn_0]
  exact L3 cnt 0 _ _ (by omega) (fun a ha => absurd ha (Nat.not_lt_zero _))
theorem dX1_tryOn_0 : decode cX1_tryOn 0 = .ok (.iconst 0, 1) := by decide +kernel
theorem dX1_tryOn_1 : decode cX1_tryOn 1 = .ok (.istore 5, 2) := by decide +kernel
theorem dX1_tryOn_3 : decode cX1_tryOn 3 = .ok (.iload 5, 2) := by decide +kernel
theorem dX1_tryOn_5 : decode cX1_tryOn 5 = .ok (.aload_n 0, 1) := by decide +kernel
theorem dX1_tryOn_6 : decode cX1_tryOn 6 = .ok (.getfield 15, 3) := by decide +kernel
theorem dX1_tryOn_9 : decode cX1_tryOn 9 = .ok (.if_icmp .ge 84, 3) := by decide +kernel
theorem dX1_tryOn_12 : decode cX1_tryOn 12 = .ok (.aload_n 0, 1) := by decide +kernel
theorem dX1_tryOn_13 : decode cX1_tryOn 13 = .ok (.getfield 11, 3) := by decide +kernel
theorem dX1_tryOn_16 : decode cX1_tryOn 16 = .ok (.iload 5, 2) := by decide +kernel
theorem dX1_tryOn_18 : decode cX1_tryOn 18 = .ok (.iaload, 1) := by decide +kernel
theorem dX1_tryOn_19 : decode cX1_tryOn 19 = .ok (.istore 6, 2) := by decide +kernel
theorem dX1_tryOn_21 : decode cX1_tryOn 21 = .ok (.aload_n 1, 1) := by decide +kernel
theorem dX1_tryOn_22 : decode cX1_tryOn 22 = .ok (.getfield 25, 3) := by decide +kernel
theorem dX1_tryOn_25 : decode cX1_tryOn 25 = .ok (.iload 6, 2) := by decide +kernel
theorem dX1_tryOn_27 : decode cX1_tryOn 27 = .ok (.invokevirtual 30, 3) := by decide +kernel
theorem dX1_tryOn_30 : decode cX1_tryOn 30 = .ok (.ifCond .ne 5, 3) := by decide +kernel
theorem dX1_tryOn_33 : decode cX1_tryOn 33 = .ok (.iconst 0, 1) := by decide +kernel
theorem dX1_tryOn_34 : decode cX1_tryOn 34 = .ok (.ireturn, 1) := by decide +kernel
theorem dX1_tryOn_35 : decode cX1_tryOn 35 = .ok (.aload_n 1, 1) := by decide +kernel
theorem dX1_tryOn_36 : decode cX1_tryOn 36 = .ok (.getfield 25, 3) := by decide +kernel
theorem dX1_tryOn_39 : decode cX1_tryOn 39 = .ok (.getfield 36, 3) := by decide +kernel
theorem dX1_tryOn_42 : decode cX1_tryOn 42 = .ok (.iload 6, 2) := by decide +kernel
theorem dX1_tryOn_44 : decode cX1_tryOn 44 = .ok (.iaload, 1) := by decide +kernel
theorem dX1_tryOn_45 : decode cX1_tryOn 45 = .ok (.iload 4, 2) := by decide +kernel
theorem dX1_tryOn_47 : decode cX1_tryOn 47 = .ok (.iload_n 3, 1) := by decide +kernel
theorem dX1_tryOn_48 : decode cX1_tryOn 48 = .ok (.iconst 2, 1) := by decide +kernel
theorem dX1_tryOn_49 : decode cX1_tryOn 49 = .ok (.aload_n 0, 1) := by decide +kernel
theorem dX1_tryOn_50 : decode cX1_tryOn 50 = .ok (.getfield 15, 3) := by decide +kernel
theorem dX1_tryOn_53 : decode cX1_tryOn 53 = .ok (.iconst 1, 1) := by decide +kernel
theorem dX1_tryOn_54 : decode cX1_tryOn 54 = .ok (.isub, 1) := by decide +kernel
theorem dX1_tryOn_55 : decode cX1_tryOn 55 = .ok (.iload 5, 2) := by decide +kernel
theorem dX1_tryOn_57 : decode cX1_tryOn 57 = .ok (.isub, 1) := by decide +kernel
theorem dX1_tryOn_58 : decode cX1_tryOn 58 = .ok (.imul, 1) := by decide +kernel
theorem dX1_tryOn_59 : decode cX1_tryOn 59 = .ok (.ishr, 1) := by decide +kernel
theorem dX1_tryOn_60 : decode cX1_tryOn 60 = .ok (.iconst 3, 1) := by decide +kernel
theorem dX1_tryOn_61 : decode cX1_tryOn 61 = .ok (.iand, 1) := by decide +kernel
theorem dX1_tryOn_62 : decode cX1_tryOn 62 = .ok (.imul, 1) := by decide +kernel
theorem dX1_tryOn_63 : decode cX1_tryOn 63 = .ok (.isub, 1) := by decide +kernel
theorem dX1_tryOn_64 : decode cX1_tryOn 64 = .ok (.istore 7, 2) := by decide +kernel
theorem dX1_tryOn_66 : decode cX1_tryOn 66 = .ok (.iload 7, 2) := by decide +kernel
theorem dX1_tryOn_68 : decode cX1_tryOn 68 = .ok (.bipush 10, 2) := by decide +kernel
theorem dX1_tryOn_70 : decode cX1_tryOn 70 = .ok (.if_icmp .ge 5, 3) := by decide +kernel
theorem dX1_tryOn_73 : decode cX1_tryOn 73 = .ok (.iconst 0, 1) := by decide +kernel
theorem dX1_tryOn_74 : decode cX1_tryOn 74 = .ok (.ireturn, 1) := by decide +kernel
theorem dX1_tryOn_75 : decode cX1_tryOn 75 = .ok (.aload_n 2, 1) := by decide +kernel
theorem dX1_tryOn_76 : decode cX1_tryOn 76 = .ok (.getfield 25, 3) := by decide +kernel
theorem dX1_tryOn_79 : decode cX1_tryOn 79 = .ok (.getfield 36, 3) := by decide +kernel
theorem dX1_tryOn_82 : decode cX1_tryOn 82 = .ok (.iload 6, 2) := by decide +kernel
theorem dX1_tryOn_84 : decode cX1_tryOn 84 = .ok (.iload 7, 2) := by decide +kernel
theorem dX1_tryOn_86 : decode cX1_tryOn 86 = .ok (.iastore, 1) := by decide +kernel
theorem dX1_tryOn_87 : decode cX1_tryOn 87 = .ok (.iinc 5 1, 3) := by decide +kernel
theorem dX1_tryOn_90 : decode cX1_tryOn 90 = .ok (.goto (-87), 3) := by decide +kernel
theorem dX1_tryOn_93 : decode cX1_tryOn 93 = .ok (.iconst 1, 1) := by decide +kernel
theorem dX1_tryOn_94 : decode cX1_tryOn 94 = .ok (.ireturn, 1) := by decide +kernel
set_option maxRecDepth 100000 in
theorem rX1_tryOn_0 {p : Program} {l : Launch} {e : Env} {s : State} {m : MethodId} {args : Array Value} {below : List Frame} {meth : Method} {c : Code} {D : va_G} {cA : Nat → ClassId} {ad : Nat → Nat} {Ret : zR} (C : z_Cx p { frames := 1, cells := 0, slots := 0, locals := 21 } s m args c cX1_tryOn yX1_tryOn.cls 8 D cA ad) (hr : meth.sig.returnType = (some .boolean)) (hlocks : meth.locks = false) : ∀ L st σ, tX1_tryOn_0 (z_X p l e { frames := 1, cells := 0, slots := 0, locals := 21 } s m args below meth c (MQ below (z_Qc D cA ad Ret) args s 0 0 (z_A ad)) 8 D cA ad true) Ret L st σ → z_X p l e { frames := 1, cells := 0, slots := 0, locals := 21 } s m args below meth c (MQ below (z_Qc D cA ad Ret) args s 0 0 (z_A ad)) 8 D cA ad true 0 L st σ := (s_iconst C dX1_tryOn_0 rfl ⟨by decide, by decide⟩ (s_istore C dX1_tryOn_1 (by decide) rfl (fun _ _ _ h => h)))
set_option maxRecDepth 100000 in
theorem rX1_tryOn_3 {p : Program} {l : Launch} {e : Env} {s : State} {m : MethodId} {args : Array Value} {below : List Frame} {meth : Method} {c : Code} {D : va_G} {cA : Nat → ClassId} {ad : Nat → Nat} {Ret : zR} (C : z_Cx p { frames := 1, cells := 0, slots := 0, locals := 21 } s m args c cX1_tryOn yX1_tryOn.cls 8 D cA ad) (hr : meth.sig.returnType = (some .boolean)) (hlocks : meth.locks = false) : ∀ L st σ, tX1_tryOn_3 (z_X p l e { frames := 1, cells := 0, slots := 0, locals := 21 } s m args below meth c (MQ below (z_Qc D cA ad Ret) args s 0 0 (z_A ad)) 8 D cA ad true) Ret L st σ → z_X p l e { frames := 1, cells := 0, slots := 0, locals := 21 } s m args below meth c (MQ below (z_Qc D cA ad Ret) args s 0 0 (z_A ad)) 8 D cA ad true 3 L st σ := (s_iload C dX1_tryOn_3 (s_aload_n C dX1_tryOn_5 rfl (s_geti C dX1_tryOn_6 cls_X1 (by decide) rfl wd_324 (s_icge C dX1_tryOn_9 (by decide) (s_iconst C dX1_tryOn_93 rfl ⟨by decide, by decide⟩ (s_zret C dX1_tryOn_94 hr ⟨rfl, rfl⟩ hlocks)) (s_aload_n C dX1_tryOn_12 rfl (s_getr C dX1_tryOn_13 (j := 0) cls_X1 (by decide) rfl (by decide) (by decide) (by decide +kernel) wd_323 (s_iload C dX1_tryOn_16 (s_iald C dX1_tryOn_18 (s_istore C dX1_tryOn_19 (by decide) rfl (s_aload_n C dX1_tryOn_21 rfl (s_getr C dX1_tryOn_22 (j := 0) cls_X8 (by decide) rfl (by decide) (by decide) (by decide +kernel) wd_256 (s_iload C dX1_tryOn_25 (s_cv1 C dX1_tryOn_27 (okX6_has l) cls_X6 wd_796 wd_667 wd_668 wd_79 wd_669 ⟨by decide, by decide, by decide +kernel⟩ ⟨by decide, by decide⟩ (s_ifne C dX1_tryOn_30 (by decide) (s_aload_n C dX1_tryOn_35 rfl (s_getr C dX1_tryOn_36 (j := 0) cls_X8 (by decide) rfl (by decide) (by decide) (by decide +kernel) wd_256 (s_getr C dX1_tryOn_39 (j := 0) cls_X6 (by decide) rfl (by decide) (by decide) (by decide +kernel) wd_167 (s_iload C dX1_tryOn_42 (s_iald C dX1_tryOn_44 (s_iload C dX1_tryOn_45 (s_iload_n C dX1_tryOn_47 rfl (s_iconst C dX1_tryOn_48 rfl ⟨by decide, by decide⟩ (s_aload_n C dX1_tryOn_49 rfl (s_geti C dX1_tryOn_50 cls_X1 (by decide) rfl wd_324 (s_iconst C dX1_tryOn_53 rfl ⟨by decide, by decide⟩ (s_isub C dX1_tryOn_54 (s_iload C dX1_tryOn_55 (s_isub C dX1_tryOn_57 (s_imul C dX1_tryOn_58 (s_ishr C dX1_tryOn_59 (s_iconst C dX1_tryOn_60 rfl ⟨by decide, by decide⟩ (s_iand C dX1_tryOn_61 (s_imul C dX1_tryOn_62 (s_isub C dX1_tryOn_63 (s_istore C dX1_tryOn_64 (by decide) rfl (s_iload C dX1_tryOn_66 (s_bipush C dX1_tryOn_68 rfl ⟨by decide, by decide⟩ (s_icge C dX1_tryOn_70 (by decide) (s_aload_n C dX1_tryOn_75 rfl (s_getr C dX1_tryOn_76 (j := 0) cls_X8 (by decide) rfl (by decide) (by decide) (by decide +kernel) wd_256 (s_getr C dX1_tryOn_79 (j := 0) cls_X6 (by decide) rfl (by decide) (by decide) (by decide +kernel) wd_167 (s_iload C dX1_tryOn_82 (s_iload C dX1_tryOn_84 (s_iast C dX1_tryOn_86 (s_iinc C dX1_tryOn_87 (by decide) rfl (s_goto C dX1_tryOn_90 (by decide) (fun _ _ _ h => h))))))))) (s_iconst C dX1_tryOn_73 rfl ⟨by decide, by decide⟩ (s_zret C dX1_tryOn_74 hr ⟨rfl, rfl⟩ hlocks)))))))))))))))))))))))))) (s_iconst C dX1_tryOn_33 rfl ⟨by decide, by decide⟩ (s_zret C dX1_tryOn_34 hr ⟨rfl, rfl⟩ hlocks))))))))))))))))
theorem okX1_tryOn (l : Launch) : z_OK l yX1_tryOn cX1_tryOn 8 (some .boolean) 1 21 SX1_tryOn := by
  refine z_ok_of true (by decide +kernel) ?_ ?_
  · intro as σ Ret h
    obtain ⟨k0, k1, k2, x3, x4, rfl⟩ := pX1_tryOn h
    exact ⟨Nat.le_of_ble_eq_true rfl, by simp⟩
  · intro p e s m args below meth c D cA ad Ret C hr hlocks as σ has hσ h
    obtain ⟨k0, k1, k2, x3, x4, rfl⟩ := pX1_tryOn h
    exact vX1_tryOn (rX1_tryOn_0 C hr hlocks) (rX1_tryOn_3 C hr hlocks) k0 k1 k2 x3 x4 σ (has _ (List.mem_of_getElem? (i := 0) rfl)) (has _ (List.mem_of_getElem? (i := 1) rfl)) (has _ (List.mem_of_getElem? (i := 2) rfl)) (has _ (List.mem_of_getElem? (i := 3) rfl)) (has _ (List.mem_of_getElem? (i := 4) rfl)) hσ h
